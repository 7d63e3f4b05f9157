-- a CONSTANT is kept
section KEEP
variable {N c0 m : Nat} {γ : kS}
/-- what keeping leaves of all else -/
def KR (m c0 : Nat) (α γ : kS) : Prop := (∀ α0 : kS, grw α0 α → tn α0 ≤ m → grw α0 γ) ∧ (∀ i, i ∉ [3, 4, 6, 7] → γ.1 i = α.1 i) ∧ (∀ r, r < 21 → r ∉ [5] → γ.2.1 r = α.2.1 r) ∧ (γ.2.1 5).length = (α.2.1 5).length ∧ (∀ i, i < 12 * c0 → (γ.2.1 5).getD i 0 = (α.2.1 5).getD i 0) ∧ ∀ k w, w = 0 ∨ w = 11 → fc γ k w = fc α k w
theorem keepC_ok (hN : 2 ^ 31 ≤ N) (hT : tT c0 γ) (he : eI (c0 + 1) c0 m γ) (e19 : γ.1 19 = nI c0) (e23 : γ.1 23 = nI m) (q21 : vM γ m (γ.1 21)) (q22 : γ.1 22 = -1 ∨ vM γ m (γ.1 22)) (q0 : fc γ c0 0 ≠ 1 ∨ vM γ m (γ.1 22)) :
    tV (f_Ker_keepConstant N γ) (fun β => tT (c0 + 1) β ∧ (eI (c0 + 1) (c0 + 1) (tn β) β ∧ ((∀ i, i < m → nK γ i ≠ 1) → nf β)) ∧ KR m c0 γ β) (fun β => tT c0 β ∧ KR m c0 γ β) := by
  obtain ⟨a1, a2, a3, a4, a5, a6⟩ := id he
  have j73 : ∀ y3, tV (f_Ker_keepConstant_j73 N y3 (f_Par_value γ) (f_Par_declared γ) γ) (fun β => tT (c0 + 1) β ∧ (eI (c0 + 1) (c0 + 1) (tn β) β ∧ ((∀ i, i < m → nK γ i ≠ 1) → nf β)) ∧ KR m c0 γ β) (fun β => tT c0 β ∧ KR m c0 γ β) := fun y3 => by
    unfold f_Ker_keepConstant_j73
    rw [show f_Par_declared γ = nI c0 from e19]
    obtain ⟨β1, e1, t1, c1, l1, f1, p1⟩ := fix_l (k := c0) (w := 1) hT a1 (by omega) (by decide) (x := 1) rfl (f_Par_type γ)
    rw [e1]
    obtain ⟨β2, e2, t2, c2, l2, f2, p2⟩ := fix_l (k := c0) (w := 2) t1 (l1.trans a1) (by omega) (by decide) (x := 2) rfl (f_Par_value γ)
    rw [e2]
    obtain ⟨β3, e3⟩ : ∃ β3, β3 = f_Env_addSizes y3 β2 := ⟨_, rfl⟩
    rw [← e3]
    have t3 : tT c0 β3 := by rw [e3]; exact t2.si (by decide)
    have c3 : ch [7] [5] γ β3 := by rw [e3]; exact (c1.mo (by decide) (by decide)).tr ((c2.mo (by decide) (by decide)).tr (ch.si (by decide) (by decide)))
    have r3 : β3.2.1 = β2.2.1 := by rw [e3]; rfl
    rw [show f_Par_nodes β3 = nI m from (c3.int (i := 23) (by decide)).trans e23]
    obtain ⟨δ, er, tδ, nδ, gδ, iδ, rδ, mδ⟩ := rel_t (N := N) (by omega) t3 (Nat.le_trans a4 c3.2.2.1)
    rw [er, kBv_s]
    have fd : ∀ k w, w < 12 → fc δ k w = if k = c0 ∧ w = 2 then f_Par_value γ else if k = c0 ∧ w = 1 then f_Par_type γ else fc γ k w := fun k w hw => by
      have : fc δ k w = fc β2 k w := by unfold fc; rw [rδ, r3]
      rw [this, f2 k w hw, f1 k w hw]
    have vd : ∀ p, vM γ m p → vM δ m p := fun p ⟨j, e, hj, h9⟩ => ⟨j, e, hj, by
      rw [← (g_n gδ (i := j) (by omega)).1, (g_n c3.2.2 (i := j) (by omega)).1]
      exact h9⟩
    refine tV.ret ⟨tδ.up (by omega), ⟨⟨?_, a2, Nat.le_refl _, Nat.le_refl _, ?_, fun k hk => ?_⟩, fun hq i hi => by rw [← (g_n gδ hi).1, (g_n c3.2.2 (i := i) (by omega)).1]; exact hq i (by omega)⟩, ⟨fun α0 h0 hm => ?_, fun i hi => ?_, fun r hr hr' => ?_, ?_, fun i hi => ?_, fun k w hw => ?_⟩⟩
    · rw [rδ, r3, l2, l1]; exact a1
    · rw [rδ, c3.row (by decide) (by decide)]; exact a5
    · rw [nδ]
      obtain ⟨g1, g2, g3, g4, g5, g6⟩ := a6 k hk
      unfold eF
      rw [fd k 11 (by decide), fd k 3 (by decide), fd k 4 (by decide), fd k 5 (by decide), fd k 6 (by decide), fd k 8 (by decide), fd k 10 (by decide), fd k 2 (by decide), fd k 1 (by decide), fd k 0 (by decide)]
      by_cases ek : k = c0
      · subst ek
        simp only [true_and, if_true, Nat.reduceEqDiff, if_false]
        exact ⟨g1, g2, g3, g4.imp id (vd _), q22.imp id (vd _), fun _ => ⟨vd _ q21, fun y => vd _ (q0.resolve_left fun z => z y)⟩⟩
      · simp only [ek, false_and, if_false]
        exact ⟨g1, g2, g3, g4.imp id (vd _), g5.imp id (vd _), fun _ => ⟨vd _ (g6 (by omega)).1, fun y => vd _ ((g6 (by omega)).2 y)⟩⟩
    · exact (h0.tr c3.2.2).cut hm nδ gδ
    · have i6 : i ≠ 6 := fun y => hi (by rw [y]; decide)
      exact (iδ i i6).trans (c3.int fun y => hi (by revert y; simp; omega))
    · rw [rδ]; exact c3.row hr hr'
    · rw [rδ, r3, l2, l1]
    · rw [rδ, r3, p2 i hi, p1 i hi]
    · rw [fd k w (by omega), if_neg (by omega), if_neg (by omega)]
  have j47 : ∀ t0 t1, tV (f_Ker_keepConstant_j47 N (f_Par_value γ) (f_Par_declared γ) t0 t1 γ) (fun β => tT (c0 + 1) β ∧ (eI (c0 + 1) (c0 + 1) (tn β) β ∧ ((∀ i, i < m → nK γ i ≠ 1) → nf β)) ∧ KR m c0 γ β) (fun β => tT c0 β ∧ KR m c0 γ β) := fun t0 t1 => by
    unfold f_Ker_keepConstant_j47
    refine tV.ite (fun _ => j73 _) (fun _ => ?_)
    have cf : ch [3, 4] [] γ (kSi (kSi γ 3 10) 4 (γ.1 5)) := (ch.si (by decide) (by decide)).tr (ch.si (by decide) (by decide))
    show tV (kBv (some (none, kSi (kSi γ 3 10) 4 (γ.1 5))) _) _ _
    refine tV.bv (Pv := fun _ => False) (Px := fun β => β = kSi (kSi γ 3 10) 4 (γ.1 5)) (tV.thr rfl) (fun _ y => y.elim) (fun β y => ?_)
    subst y
    exact ⟨(hT.si (by decide)).si (by decide), fun α0 h0 _ => h0.tr cf.2.2, fun i hi => cf.int fun y => hi (by revert y; simp; omega), fun r hr hr' => cf.row hr (by simp), rfl, fun _ _ => rfl, fun _ _ _ => rfl⟩
  unfold f_Ker_keepConstant
  exact tV.ite (fun _ => j47 _ _) (fun _ => j47 _ _)
end KEEP
