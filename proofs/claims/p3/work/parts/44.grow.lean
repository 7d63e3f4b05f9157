-- grow keeps TERMS
theorem kGrow_ok {α : kS} (h : tOk α) (hm : 2 * α.2.2.1 21 ≤ kMx 21) : kOk (kGrow α) := by
  obtain ⟨hO, ⟨e2, e3, e4, e5⟩, -⟩ := h
  have m2 : kMx 22 = kMx 21 := by decide
  have m3 : kMx 23 = kMx 21 := by decide
  have m4 : kMx 24 = kMx 21 := by decide
  have m5 : kMx 25 = kMx 21 := by decide
  have o1 := (kOk_gr (α := α) (β := kG_infos α) (K := 21) (by decide) (by decide) hO hm rfl rfl rfl).1
  have o2 := (kOk_gr (β := kG_lefts (kG_infos α)) (K := 22) (by decide) (by decide) o1 (show 2 * α.2.2.1 22 ≤ kMx 22 by omega) rfl rfl rfl).1
  have o3 := (kOk_gr (β := kG_rights (kG_lefts (kG_infos α))) (K := 23) (by decide) (by decide) o2 (show 2 * α.2.2.1 23 ≤ kMx 23 by omega) rfl rfl rfl).1
  have o4 := (kOk_gr (β := kG_links (kG_rights (kG_lefts (kG_infos α)))) (K := 24) (by decide) (by decide) o3 (show 2 * α.2.2.1 24 ≤ kMx 24 by omega) rfl rfl rfl).1
  exact (kOk_gr (β := kGrow α) (K := 25) (by decide) (by decide) o4 (show 2 * α.2.2.1 25 ≤ kMx 25 by omega) rfl rfl rfl).1
theorem kGrow_rm {α : kS} {r : Nat} (hr : r < 21) : (kGrow α).2.2.1 r = α.2.2.1 r := by
  show va_up (va_up (va_up (va_up (va_up α.2.2.1 21 _) 22 _) 23 _) 24 _) 25 _ r = α.2.2.1 r
  rw [kup_n (by omega), kup_n (by omega), kup_n (by omega), kup_n (by omega), kup_n (by omega)]
theorem cpy_in {β : Type} {f g : Nat → β} {N i : Nat} (hi : i < N) : va_cpy f g 0 0 N i = f i := by
  rw [pk_cpy_in (Nat.zero_le i) (by omega), Nat.zero_add, Nat.sub_zero]
theorem grow_ok {N : Nat} {α : kS} (h : tOk α) (hm : 2 * α.2.2.1 21 ≤ kMx 21) (hN : 524288 < N) : ∃ γ, f_Terms_grow N α = some (some none, γ) ∧ tOk γ ∧ tEx α γ ∧ tn γ = tn α ∧ γ.2.2.1 21 = 2 * α.2.2.1 21 := by
  have hO2 := kGrow_ok h hm
  obtain ⟨hO, he, hT⟩ := h
  obtain ⟨e6, h5, hrm⟩ := hO.n
  have hn : tn (kGrow α) = tn α := rfl
  obtain ⟨γ, g1, g2, g3⟩ := grow_loop (N := N) (tn α) 0 (kGrow α) N (by rw [hn]; omega) (by omega) hO2 ⟨fun s _ => rfl, fun j hj => absurd hj (by omega)⟩
  refine ⟨γ, ?_, ⟨g2.ok hO2, ?_, ?_⟩, ⟨fun k _ => ?_, ?_, fun r hr => ?_, ?_, fun i hi => ?_⟩, ?_, ?_⟩
  · unfold f_Terms_grow
    rw [if_pos ⟨he, hm⟩]
    exact g1
  · obtain ⟨e2, e3, e4, e5⟩ := he
    rw [g2.2.2.1]
    refine ⟨?_, ?_, ?_, ?_⟩
    · show 2 * α.2.2.1 22 = 2 * α.2.2.1 21; omega
    · show 2 * α.2.2.1 23 = 2 * α.2.2.1 21; omega
    · show 2 * α.2.2.1 24 = 2 * α.2.2.1 21; omega
    · show 2 * α.2.2.1 25 = 2 * α.2.2.1 21; omega
  · have : tPt γ (tn γ) := by rw [g2.n]; exact g3
    exact this
  · rw [g2.1]; rfl
  · rw [g2.2.1]; rfl
  · rw [g2.2.2.1]; exact kGrow_rm hr
  · rw [g2.n, hn]; exact Nat.le_refl _
  · have r21 := hrm 21 (by decide) (by decide)
    have r22 := hrm 22 (by decide) (by decide)
    have r23 := hrm 23 (by decide) (by decide)
    have q1 : i < α.2.2.1 21 := Nat.lt_of_lt_of_le hi r21
    have q2 : i < α.2.2.1 22 := Nat.lt_of_lt_of_le hi r22
    have q3 : i < α.2.2.1 23 := Nat.lt_of_lt_of_le hi r23
    refine ⟨?_, ?_, ?_⟩
    · rw [g2.2.2.2.1]
      exact cpy_in (f := α.2.2.2.1) (g := fun _ => 0) (N := α.2.2.1 21) q1
    · unfold tLf
      rw [g2.2.2.2.2 0 (by decide) (by decide)]
      exact cpy_in (f := α.2.2.2.2 0) (g := fun _ => 0) (N := α.2.2.1 22) q2
    · unfold tRt
      rw [g2.2.2.2.2 1 (by decide) (by decide)]
      exact cpy_in (f := α.2.2.2.2 1) (g := fun _ => 0) (N := α.2.2.1 23) q3
  · rw [g2.n, hn]
  · rw [g2.2.2.1]; rfl
