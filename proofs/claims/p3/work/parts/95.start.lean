-- the checker's loop from what the parser has read
section START
variable {N c0 c K nb : Nat} {α0 : kS}
theorem fbegin {α : kS} (h : tT K α) (o a b : Int32) : ∃ β, f_Fra_begin N o a b α = some (some none, β) ∧ tT K β ∧ wk α β ∧ vw β [(o, a, b, 0, 0)] [] (α.1 24) := by
  have t1 : tT K (kSl α 12 []) := h.sl (by decide) (Nat.zero_le _)
  have t2 : tT K (kSl (kSl α 12 []) 13 []) := t1.sl (by decide) (Nat.zero_le _)
  have c2 : wk α (kSl (kSl α 12 []) 13 []) := (ch.rs (by decide)).tr (ch.rs (by decide))
  obtain ⟨β, e, tβ, cβ, vβ⟩ := fpush (N := N) t2 (fs := []) (ty := []) (r := α.1 24) ⟨rfl, rfl, rfl⟩ (by decide) o a b 0
  refine ⟨β, ?_, tβ, c2.tr cβ, vβ⟩
  unfold f_Fra_begin
  rw [cut0 h (by decide), cut0 t1 (by decide), e, kBv_s]
theorem qP.vM {α : kS} {p : Int32} (h : qP α p) : vM α (tn α) p := by
  obtain ⟨j, e, h1, h2⟩ := h
  exact ⟨j, e, h1, h2⟩
/-- what the checker is to do at first -/
def z0f (t : Int32) : Nat := if t = 30 then 1 else if t = 32 then 32 else 0
theorem work_ok (hN : 2 ^ 31 ≤ N) {α : kS} (hE : PE c0 α0 c K α) (h11 : (α.2.1 11).length = nb) (hq : aQ α (α.2.1 11)) (hF : FA c0 c K nb 0 α ∨ DN c0 c K nb α) : tV (f_Ker_work N α) (WE c K (tn α) c0 nb (c - c0 - 1) (z0f (α.1 20)) α) (LX K c0 α) := by
  obtain ⟨hT, hI, hcc, hX⟩ := hE
  obtain ⟨β, e, tβ, cβ, vβ⟩ := fbegin (N := N) hT (f_Par_task α) (f_Par_type α) (f_Par_value α)
  unfold f_Ker_work
  rw [e, kBv_s]
  have hg := cβ.2.2
  have go : ∀ z0, SI 0 z0 β → FZ c K (tn α) c0 nb (c - c0 - 1) 0 z0 α → z0 ≤ 37 → (z0 = 1 → 0 < tn α) → tV (f_Ker_work_30 N N 0 β) (WE c K (tn α) c0 nb (c - c0 - 1) z0 α) (LX K c0 α) := fun z0 hs hz hle h1 => by
    refine (work_go hN (z0 := z0) 16777216 0 N β 0 z0 ⟨tβ, hI.ch cβ (by decide) (by decide), hs, hz.ch hT tβ (Nat.le_refl _) cβ (fun _ y => y) (fun _ y => y)⟩ ⟨fun _ => rfl, fun y => y, hle⟩ (fun y => ⟨rfl, h1 y, NM.g (Nat.le_refl _) hg hX.2⟩) (by omega) (by omega)).mono (fun δ u => ⟨u.1, u.2.1, (fk.wk cβ).tr u.2.2.1, u.2.2.2⟩) (fun δ u => ⟨u.1, (fk.wk cβ).tr u.2⟩)
  have tv0 : ∀ t : Int32, (t = 28 ∨ t = 30 ∨ t = 32) → tvp 0 β [(t, f_Par_type α, f_Par_value α, 0, 0)] [] := fun t ht => by
    have e1 : ¬ (t = 7 ∨ t = 12 ∨ t = 17 ∨ t = 19) := by rcases ht with y | y | y <;> subst y <;> decide
    have e2 : ¬ (t = 7 ∨ t = 12) := fun y => e1 (y.elim Or.inl fun y => Or.inr (Or.inl y))
    refine ⟨⟨by omega, ?_⟩, ?_, fun i hi => absurd (Nat.lt_of_lt_of_le hi (Nat.sub_le _ _)) (Nat.not_lt_zero _)⟩
    · show 0 = 0 + ((if t = 7 ∨ t = 12 ∨ t = 17 ∨ t = 19 then 1 else 0) + 0)
      rw [if_neg e1]
    · show (if t = 7 ∨ t = 12 then 1 else 0) + 0 ≤ 0
      rw [if_neg e2]
      exact Nat.le_refl _
  rcases hF with ⟨f1, f2, f3, f4, f5, f6, f7⟩ | ⟨d1, d2, d3, d4⟩
  · have ez : z0f (α.1 20) = 32 := by rw [f1]; decide
    rw [ez]
    refine go 32 ⟨_, _, _, 0, vβ, ⟨32, 0, f1, ⟨by decide, fun _ => rfl⟩, rfl, ⟨rfl, rfl⟩, trivial, fun y => absurd y (by decide)⟩, fun y => absurd rfl y, by decide, tv0 _ (Or.inr (Or.inr f1))⟩ ⟨fun _ => ⟨f2, by omega, f4, f3, h11, fun p hp => (hq p hp).vM, f5.vM, fun i hi => ?_⟩, fun y => absurd y (by decide), fun y => absurd y (by decide), fun y => absurd y (by decide), fun y => absurd y (by decide)⟩ (by decide) (fun y => absurd y (by decide))
    exact ((f7 (c0 + 1 + i) (by omega) (by omega)).2 fun y => absurd y (by decide)).vM
  · rcases d4 with ⟨g1, g2, g3, g4⟩ | ⟨g1, g2, g3, g4⟩
    · have ez : z0f (α.1 20) = 0 := by rw [g1]; decide
      rw [ez]
      exact go 0 ⟨_, _, _, 0, vβ, ⟨28, 0, g1, ⟨by decide, fun y => absurd y (by decide)⟩, rfl, ⟨⟨g2.g hg, g3.imp (fun y => y) (fun y => y.g hg)⟩, rfl, rfl⟩, trivial, fun _ => ⟨fun y => absurd y (by decide), fun y => absurd y.1 (by decide)⟩⟩, fun y => absurd rfl y, by decide, tv0 _ (Or.inl g1)⟩ ⟨fun y => absurd y (by decide), fun y => absurd y (by decide), fun y => absurd y (by decide), fun y => absurd y (by decide), fun y => absurd y (by decide)⟩ (by decide) (fun y => absurd y (by decide))
    · have ez : z0f (α.1 20) = 1 := by rw [g1]; decide
      rw [ez]
      have qv : qF β (f_Par_value α) := by
        obtain ⟨j, e, hj⟩ := g2
        exact ⟨j, e, hj.g hg, FL.g hT.1.1 hT.2.1 hg hj.1 fun nn => NM_fl hT.1.1 hT.2.1 (Nat.le_refl _) hX.2 nn j hj.1⟩
      exact go 1 ⟨_, _, _, 0, vβ, ⟨30, 0, g1, ⟨by decide, fun y => absurd y (by decide)⟩, rfl, ⟨qv, rfl, rfl⟩, trivial, fun _ => ⟨fun _ => ⟨rfl, (by decide : (1 : Nat) ≠ 0)⟩, fun y => absurd y.1 (by decide)⟩⟩, fun y => absurd rfl y, by decide, tv0 _ (Or.inr (Or.inl g1))⟩ ⟨fun y => absurd y (by decide), fun y => absurd y (by decide), fun y => absurd y (by decide), fun y => absurd y (by decide), fun y => absurd y (by decide)⟩ (by decide) (fun _ => by obtain ⟨j, -, hj⟩ := g2; have := hj.1; omega)
end START
