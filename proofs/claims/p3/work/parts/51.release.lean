-- release
theorem m1_lt (m : Nat) (hm : m < 2 ^ 30) : nI m + (-1) < nI m := by
  cases m with
  | zero => decide
  | succ m => rw [pk_m1]; exact nI_lt (by omega) (by omega)
theorem rel_loop {N m : Nat} : ∀ (d : Nat) (β : kS) (n : Nat), kOk β → m + d ≤ tn β → d < n → (∀ s, s < β.2.2.1 25 → β.2.2.2.2 3 s = nI (tLast (tSl β (β.2.2.1 25)) s (m + d))) → (∀ i, i < tn β → β.2.2.2.2 2 i = nI (tLast (tSl β (β.2.2.1 25)) (tSl β (β.2.2.1 25) i) i)) →
    ∃ γ, f_Terms_release_7 N n (nI (m + d) + (-1)) (nI m) β = f_Terms_release_j54 N (nI m) γ ∧ tAs β γ ∧ γ.2.2.2.2 2 = β.2.2.2.2 2 ∧ ∀ s, s < β.2.2.1 25 → γ.2.2.2.2 3 s = nI (tLast (tSl β (β.2.2.1 25)) s m) := by
  intro d
  induction d with
  | zero =>
    intro β n hO hm hn hH hL
    obtain ⟨n, rfl⟩ : ∃ n', n = n' + 1 := ⟨n - 1, by omega⟩
    obtain ⟨e6, h5, -⟩ := hO.n
    refine ⟨β, ?_, tAs.rf, rfl, hH⟩
    rw [f_Terms_release_7]
    exact if_pos (m1_lt m (by omega))
  | succ d ih =>
    intro β n hO hm hn hH hL
    obtain ⟨n, rfl⟩ : ∃ n', n = n' + 1 := ⟨n - 1, by omega⟩
    obtain ⟨e6, h5, hrm⟩ := hO.n
    obtain ⟨kk, hk, ek⟩ := hO.pw
    have h25 := hO.sm (r := 25) (by decide)
    have r22 := hrm 22 (by decide) (by decide)
    have r23 := hrm 23 (by decide) (by decide)
    have r24 := hrm 24 (by decide) (by decide)
    have ex : nI (m + (d + 1)) + (-1) = nI (m + d) := pk_m1 (m + d)
    have ec : (nI (m + d)).toNatClampNeg = m + d := nI_clamp (by omega)
    have hng : ∀ j r : Nat, j < r → j < 2 ^ 31 → ¬ (nI j < 0 ∨ r ≤ (nI j).toNatClampNeg) := fun j r hr hj z => z.elim (nI_pos hj) (by rw [nI_clamp hj]; omega)
    obtain ⟨s, hs, es⟩ := tSo_in ek hk (tKd β (m + d)) (tLf β (m + d)) (tRt β (m + d))
    have hsl : tSl β (β.2.2.1 25) (m + d) = s := by unfold tSl; rw [es, nI_clamp (by omega)]
    have hkd : f_Terms_kind (nI (m + d)) β = tKd β (m + d) := kd_in hO (by omega)
    have hslot : f_Terms_slot (f_Terms_kind (nI (m + d)) β) (β.2.2.2.2 0 (nI (m + d)).toNatClampNeg) (β.2.2.2.2 1 (nI (m + d)).toNatClampNeg) β = nI s := by
      rw [slot_is, hkd, ec]
      exact es
    have es2 : (nI s).toNatClampNeg = s := nI_clamp (by omega)
    have hA : tAs β (kSA β 3 (upd (β.2.2.2.2 3) s (β.2.2.2.2 2 (m + d)))) := ⟨rfl, rfl, rfl, rfl, fun k _ h3 => kup_n h3⟩
    have hstep : f_Terms_release_7 N (n + 1) (nI (m + (d + 1)) + (-1)) (nI m) β = f_Terms_release_7 N n (nI (m + d) + (-1)) (nI m) (kSA β 3 (upd (β.2.2.2.2 3) s (β.2.2.2.2 2 (m + d)))) := by
      rw [ex, f_Terms_release_7, hslot, if_neg (nI_nlt (by omega) (by omega)), if_neg (nI_pos (by omega)), if_neg (hng _ _ (by omega) (by omega)), if_neg (hng _ _ (by omega) (by omega)), if_neg (hng _ _ (by omega) (by omega)), if_neg (hng s _ hs (by omega)), ec, es2]
    rw [hstep]
    have ef : ∀ cap, tSl (kSA β 3 (upd (β.2.2.2.2 3) s (β.2.2.2.2 2 (m + d)))) cap = tSl β cap := fun cap => funext fun j => hA.sl _ j
    have k1 : ∀ s', s' < (kSA β 3 (upd (β.2.2.2.2 3) s (β.2.2.2.2 2 (m + d)))).2.2.1 25 → (kSA β 3 (upd (β.2.2.2.2 3) s (β.2.2.2.2 2 (m + d)))).2.2.2.2 3 s' = nI (tLast (tSl (kSA β 3 (upd (β.2.2.2.2 3) s (β.2.2.2.2 2 (m + d)))) ((kSA β 3 (upd (β.2.2.2.2 3) s (β.2.2.2.2 2 (m + d)))).2.2.1 25)) s' (m + d)) := by
      intro s' hs'
      rw [ef]
      show upd (β.2.2.2.2 3) s (β.2.2.2.2 2 (m + d)) s' = nI (tLast (tSl β (β.2.2.1 25)) s' (m + d))
      by_cases q : s' = s
      · rw [q, pk_us, hL (m + d) (by omega), hsl]
      · rw [pk_un q, hH s' hs']
        show nI (tLast (tSl β (β.2.2.1 25)) s' (m + d + 1)) = _
        rw [tLast, if_neg (fun z => q (z.symm.trans hsl))]
    have k2 : ∀ i, i < tn (kSA β 3 (upd (β.2.2.2.2 3) s (β.2.2.2.2 2 (m + d)))) → (kSA β 3 (upd (β.2.2.2.2 3) s (β.2.2.2.2 2 (m + d)))).2.2.2.2 2 i = nI (tLast (tSl (kSA β 3 (upd (β.2.2.2.2 3) s (β.2.2.2.2 2 (m + d)))) ((kSA β 3 (upd (β.2.2.2.2 3) s (β.2.2.2.2 2 (m + d)))).2.2.1 25)) (tSl (kSA β 3 (upd (β.2.2.2.2 3) s (β.2.2.2.2 2 (m + d)))) ((kSA β 3 (upd (β.2.2.2.2 3) s (β.2.2.2.2 2 (m + d)))).2.2.1 25) i) i) := by
      intro i hi
      rw [ef]
      exact hL i hi
    obtain ⟨γ, g1, g2, g3, g4⟩ := ih (kSA β 3 (upd (β.2.2.2.2 3) s (β.2.2.2.2 2 (m + d)))) n (hA.ok hO) (by rw [hA.n]; omega) (by omega) k1 k2
    refine ⟨γ, g1, hA.tr g2, g3, fun s' hs' => ?_⟩
    have := g4 s' hs'
    rw [ef] at this
    exact this
/-- release keeps the first m TERMS -/
theorem release_ok {N m : Nat} {α : kS} (hN : 524288 < N) (h : tOk α) (hW : tWf α) (hm : m ≤ tn α) : ∃ β, f_Terms_release N (nI m) α = some (some none, β) ∧ tOk β ∧ tWf β ∧ tn β = m ∧ (∀ k, k ≠ 6 → β.1 k = α.1 k) ∧ β.2.1 = α.2.1 ∧ β.2.2.1 = α.2.2.1 ∧ β.2.2.2.1 = α.2.2.2.1 ∧ ∀ i, tLf β i = tLf α i ∧ tRt β i = tRt α i := by
  obtain ⟨hO, he, hT⟩ := h
  obtain ⟨e6, h5, hrm⟩ := hO.n
  obtain ⟨d, hd⟩ : ∃ d, tn α = m + d := ⟨tn α - m, by omega⟩
  obtain ⟨γ, g1, g2, g3, g4⟩ := rel_loop (N := N) (m := m) d α N hO (by omega) (by omega) (by rw [← hd]; exact hT.1) hT.2
  have hr : f_Terms_release N (nI m) α = f_Terms_release_j54 N (nI m) γ := by
    unfold f_Terms_release
    rw [e6, hd, Int32.sub_eq_add_neg]
    exact g1
  have hOγ := g2.ok hO
  have ec : (nI m).toNatClampNeg = m := nI_clamp (by omega)
  have e6γ : γ.1 6 = nI (tn α) := by rw [g2.1]; exact e6
  have hsl : ∀ cap, tSl γ cap = tSl α cap := fun cap => funext fun j => g2.sl cap j
  have hex : ∃ β, f_Terms_release_j54 N (nI m) γ = some (some none, β) ∧ β.1 6 = nI m ∧ (∀ k, k ≠ 6 → β.1 k = γ.1 k) ∧ β.2 = γ.2 := by
    unfold f_Terms_release_j54
    rw [if_neg (nI_pos (by omega)), e6γ]
    by_cases hq : tn α ≤ m
    · rw [if_pos (nI_le hq (by omega))]
      exact ⟨γ, rfl, by rw [e6γ, show tn α = m by omega], fun _ _ => rfl, rfl⟩
    · have hl : kLn γ (nI m) := by
        have q1 := hOγ.n.2.2
        rw [g2.n] at q1
        have r1 := q1 21 (by decide) (by decide)
        have r2 := q1 22 (by decide) (by decide)
        have r3 := q1 23 (by decide) (by decide)
        have r4 := q1 24 (by decide) (by decide)
        have r5 := q1 25 (by decide) (by decide)
        unfold kLn
        rw [ec]
        exact ⟨nI_pos (by omega), by omega, by omega, by omega, by omega, by omega⟩
      rw [if_neg (nI_ge (by omega) (by omega)), if_pos hl]
      exact ⟨_, rfl, rfl, fun k hk => kup_n hk, rfl⟩
  obtain ⟨β, b1, b2, b3, b4⟩ := hex
  have hn : tn β = m := by unfold tn; rw [b2, ec]
  have c1 : β.2.1 = α.2.1 := by rw [b4]; exact g2.2.1
  have c2 : β.2.2.1 = α.2.2.1 := by rw [b4]; exact g2.2.2.1
  have c3 : β.2.2.2.1 = α.2.2.2.1 := by rw [b4]; exact g2.2.2.2.1
  have c4 : ∀ i, tLf β i = tLf α i := fun i => by unfold tLf; rw [b4, g2.2.2.2.2 0 (by decide) (by decide)]
  have c5 : ∀ i, tRt β i = tRt α i := fun i => by unfold tRt; rw [b4, g2.2.2.2.2 1 (by decide) (by decide)]
  have c6 : ∀ cap, tSl β cap = tSl α cap := fun cap => funext fun j => by unfold tSl tKd; rw [c3, c4, c5]
  refine ⟨β, by rw [hr]; exact b1, ⟨⟨?_, ?_, ?_, ?_⟩, ?_, ?_, ?_⟩, ?_, hn, fun k hk => by rw [b3 k hk, g2.1], c1, c2, c3, fun i => ⟨c4 i, c5 i⟩⟩
  · rw [c1, c2]; exact hO.1
  · rw [c2]; exact hO.2.1
  · rw [b2]; exact nI_pos (by omega)
  · intro r a b
    rw [b2, ec, c2]
    have := hrm r a b
    omega
  · rw [c2]; exact he
  · intro s hs
    rw [c2] at hs ⊢
    rw [c6, hn, b4]
    exact g4 s hs
  · intro i hi
    rw [hn] at hi
    rw [c2, c6, b4, g3]
    exact hT.2 i (by omega)
  · intro i hi
    rw [hn] at hi
    have z0 : ∀ p, nK β p = nK α p := fun p => by unfold nK tKd; rw [c3]
    have z1 : ∀ p, nS β p = nS α p := fun p => by unfold nS tSz; rw [c3]
    have z2 : ∀ p, nD β p = nD α p := fun p => by unfold nD tDp; rw [c3]
    have z3 : ∀ p, tLo β p = tLo α p := fun p => by unfold tLo; rw [c3]
    have := hW i (by omega)
    unfold tPr tSd at this ⊢
    rw [z0, z1, z2, z3, c4, c5]
    have z4 : ∀ p, fN β p = fN α p := fun p => by unfold fN tFe; rw [c3]
    refine ⟨this.1, this.2.1, this.2.2.1, this.2.2.2.1, fun h5 => ?_, this.2.2.2.2.2.1, ?_⟩
    · obtain ⟨l, r, d1, d2, d3, d4⟩ := this.2.2.2.2.1 h5
      refine ⟨l, r, d1, d2, ?_, ?_⟩
      · rw [z0, z0]; exact d3
      · rw [z1, z1, z2, z2]; exact d4
    · obtain ⟨d1, d2⟩ := this.2.2.2.2.2.2
      unfold tFf
      rw [z0, z4, c4, c5]
      refine ⟨d1, fun h5 l r hl hr => ?_⟩
      rw [z4, z4]
      exact d2 h5 l r hl hr
