-- what was checked is kept
section KEPT
variable {N c0 c K nb : Nat} {α0 α γ : kS}
/-- what stands between two DECLARATIONS -/
def KI (c : Nat) (α : kS) : Prop := tT c α ∧ eI c c (tn α) α ∧ nf α
/-- from here a fault's undoing leads back to α0 -/
def XC (c0 : Nat) (α0 γ : kS) : Prop := ∃ c K, tT K γ ∧ (γ.2.1 5).length = 12 * c ∧ c0 ≤ c ∧ c ≤ 300 ∧ (c0 < c → ∃ s : Nat, fc γ c0 11 / 32 = nI s ∧ s ≤ 31 * c0) ∧ (c = c0 → (γ.2.1 6).length ≤ 31 * c0) ∧ XR c0 α0 γ
theorem XC.of (h : PX c0 α0 γ) : XC c0 α0 γ := by
  obtain ⟨c, K, h1, h2, h3, h4⟩ := h
  exact ⟨c, K, h1, h2.1, h3, h2.2.1, fun y => (h2.2.2.2.2.2 c0 y).1, fun y => by rw [← y]; exact h2.2.2.2.2.1, h4.1⟩
theorem XC.go {K' : Nat} (h : PE c0 α0 c K α) (hT : tT K' γ) (hl : (γ.2.1 5).length = (α.2.1 5).length) (h6 : γ.2.1 6 = α.2.1 6) (hp : ∀ i, i < 12 * c0 → (γ.2.1 5).getD i 0 = (α.2.1 5).getD i 0) (h11 : fc γ c0 11 = fc α c0 11) (hg : grw α0 γ) : XC c0 α0 γ := by
  obtain ⟨h1, h2, h3, h4⟩ := h
  exact ⟨c, K', hT, hl.trans h2.1, h3, h2.2.1, fun y => by rw [h11]; exact (h2.2.2.2.2.2 c0 y).1, fun y => by rw [← y, h6]; exact h2.2.2.2.2.1, hg, fun i hi => (hp i hi).trans (h4.1.2 i hi)⟩
theorem XC.fk {K' : Nat} (h : PE c0 α0 c K α) (hT : tT K' γ) (hf : fk c0 α γ) : XC c0 α0 γ :=
  XC.go h hT hf.2.1 (hf.1.row (by decide) (by decide)) hf.2.2.1 (hf.2.2.2 c0 11 (Or.inr rfl)) (h.2.2.2.1.1.tr hf.1.2.2)
/-- a DECLARATION that is no family is kept -/
def KX (c0 : Nat) (γ β : kS) : Prop := (∃ c', c0 ≤ c' ∧ KI c' β) ∧ β.1 12 = γ.1 12
theorem keep_ok (hN : 2 ^ 31 ≤ N) (h0 : KI c0 α0) (hE : PE c0 α0 c K α) (e23 : α.1 23 = nI (tn α)) (hD : DN c0 c K nb α) (hT : tT K γ) (he : eI c K (tn α) γ) (hf : fk c0 α γ) (hz : γ.1 20 = 30 → ∃ t, γ.1 24 = nI t ∧ qT γ t ∧ ¬ fr γ t) :
    tV (f_Ker_keep N (nI (tn α0)) γ) (KX c0 γ) (XC c0 α0) := by
  obtain ⟨d1, d2, d3, d4⟩ := hD
  have e19 : γ.1 19 = α.1 19 := hf.1.int (by decide)
  have e20 : γ.1 20 = α.1 20 := hf.1.int (by decide)
  have e21 : γ.1 21 = α.1 21 := hf.1.int (by decide)
  have e22 : γ.1 22 = α.1 22 := hf.1.int (by decide)
  have X0 : XR c0 α0 γ := ⟨hE.2.2.2.1.1.tr hf.1.2.2, fun i hi => (hf.2.2.1 i hi).trans (hE.2.2.2.1.2 i hi)⟩
  have bk : c = c0 → ∀ β : kS, tT K β → ch [] [1, 2, 3, 20] γ β → tV (kBv (f_Terms_release N (nI (tn α0)) β) fun α9 => some (some none, α9)) (KX c0 γ) (XC c0 α0) := fun ec β tβ cβ => by
    subst ec
    obtain ⟨δ, e1, b1, b2, b3, b4, b5, b6, b7⟩ := back (N := N) (by omega) h0.1 h0.2.1 tβ rfl (by rw [cβ.row (by decide) (by decide)]; exact he.1) (by rw [cβ.row (by decide) (by decide)]; exact he.2.2.2.2.1) ⟨X0.1.tr cβ.2.2, fun i hi => by rw [cβ.row (by decide) (by decide)]; exact X0.2 i hi⟩
    rw [e1, kBv_s]
    exact tV.ret ⟨⟨_, Nat.le_refl _, b1, b2, h0.2.2.eq b4 b3⟩, (b5 12 (by decide)).trans (cβ.int (by simp))⟩
  unfold f_Ker_keep
  refine tV.ite (fun ht => ?_) (fun hn => tV.ite (fun hd => ?_) (fun hd => ?_))
  · obtain ⟨t, et, ht1, ht2⟩ := hz ht
    have ht' : α.1 20 = 30 := e20.symm.trans ht
    have ec : c = c0 := by
      rcases d4 with y | y
      · exact absurd (y.1.symm.trans ht') (by decide)
      · exact y.2.2.2
    rw [show f_Fra_result γ = nI t from et]
    obtain ⟨β, e1, tβ, cβ⟩ := print_ok hN hT ht1 ht2 0
    rw [e1, kBv_s]
    exact bk ec β tβ cβ
  · have ec : c = c0 := by
      rcases d3 with y | y
      · exact y.2
      · have : nI c0 = -1 := y.1.symm.trans (e19.symm.trans hd)
        exact absurd (show nI c0 < 0 by rw [this]; decide) (nI_pos (by have := he.2.1; have := hE.2.2.1; omega))
    exact bk ec γ hT ch.rf
  · have hd' : α.1 19 ≠ -1 := fun y => hd (e19.trans y)
    obtain ⟨y1, y2⟩ := d3.resolve_left fun y => hd' y.1
    subst y2 d1
    have hm : tn α ≤ tn γ := hf.1.2.2.1
    rcases d4 with ⟨g1, g2, g3, g4⟩ | ⟨g1, g2, g3, g4⟩
    · have vv : ∀ p, qP α p → vM γ (tn α) p := fun p q => q.vM.g (Nat.le_refl _) hf.1.2.2
      refine tV.bv (keepC_ok hN hT he (e19.trans y1) ((hf.1.int (by decide)).trans e23) (by rw [e21]; exact vv _ g2) (by rw [e22]; exact g3.imp id (vv _)) ?_) (fun β u => tV.ret ⟨⟨_, Nat.le_succ _, u.1, u.2.1.1, u.2.1.2 fun i hi => by rw [(g_n hf.1.2.2 hi).1]; exact hE.2.2.2.2 i hi⟩, u.2.2.2.1 12 (by decide)⟩) (fun β u => ?_)
      · rw [e22, hf.2.2.2 _ 0 (Or.inl rfl)]
        exact (g4.resolve_left hd').imp id (vv _)
      · obtain ⟨u1, u2, u3, u4, u5, u6, u7⟩ := u
        exact XC.go hE u1 (u5.trans hf.2.1) ((u4 6 (by decide) (by decide)).trans (hf.1.row (by decide) (by decide))) (fun i hi => (u6 i hi).trans (hf.2.2.1 i hi)) ((u7 _ 11 (Or.inr rfl)).trans (hf.2.2.2 _ 11 (Or.inr rfl))) (u2 α0 X0.1 hE.2.2.2.1.1.1)
    · exact absurd g3 hd'
end KEPT
