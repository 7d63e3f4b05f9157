-- a family is built, from its tests on
theorem rel_t {N K m : Nat} {α : kS} (hN : 524288 < N) (h : tT K α) (hm : m ≤ tn α) : ∃ β, f_Terms_release N (nI m) α = some (some none, β) ∧ tT K β ∧ tn β = m ∧ grw β α ∧ (∀ k, k ≠ 6 → β.1 k = α.1 k) ∧ β.2.1 = α.2.1 ∧ β.2.2.1 = α.2.2.1 := by
  obtain ⟨β, e, h1, h2, h3, h4, h5, h6, h7, h8⟩ := release_ok hN h.1 h.2.1 hm
  have hg : grw β α := ⟨by omega, fun i _ => ⟨by rw [h7], ((h8 i).1).symm, ((h8 i).2).symm⟩⟩
  refine ⟨β, e, ⟨h1, h2, fun i hi h34 => ?_⟩, h3, hg, h4, h5, h6⟩
  obtain ⟨n1, -, -, -, n2, -⟩ := g_n hg hi
  rw [← n2]
  rw [← n1] at h34
  exact h.2.2 i (by omega) h34
/-- what a family's building leaves of all else -/
def BR (m fam : Nat) (α γ : kS) : Prop := (∀ α0 : kS, grw α0 α → tn α0 ≤ m → grw α0 γ) ∧ (∀ i, i ∉ [2, 3, 4, 6, 7, 30] → γ.1 i = α.1 i) ∧ (∀ r, r < 21 → r ∉ [2, 3, 4, 5, 16, 17, 18, 19] → γ.2.1 r = α.2.1 r) ∧ (γ.2.1 5).length = (α.2.1 5).length ∧ (∀ i, i < 12 * fam → (γ.2.1 5).getD i 0 = (α.2.1 5).getD i 0) ∧ ∀ k w, w = 0 ∨ w = 11 → fc γ k w = fc α k w
theorem grw.cut {m : Nat} {α0 α β : kS} (h0 : grw α0 α) (hm : tn α0 ≤ m) (hb : tn β = m) (hg : grw β α) : grw α0 β :=
  ⟨by omega, fun i hi => by
    obtain ⟨a1, a2, a3⟩ := h0.2 i hi
    obtain ⟨b1, b2, b3⟩ := hg.2 i (by omega)
    exact ⟨b1.symm.trans a1, b2.symm.trans a2, b3.symm.trans a3⟩⟩
theorem build_ok {N c m fam n M q : Nat} {α : kS} (hN : 2 ^ 31 ≤ N) (h : tT (fam + 1) α) (he : eI c (fam + 1) m α) (hF : FS c (fam + 1) m fam n M α) (hD : FD fam n M q M α) (h4 : ∀ j, j < M → fc α (fam + 1 + j) 0 = 4) (e23 : α.1 23 = nI m) :
    tV (f_Fam_build N α) (fun γ => tT c γ ∧ (eI c c (tn γ) γ ∧ ((∀ i, i < m → nK α i ≠ 1) → nf γ)) ∧ BR m fam α γ) (fun γ => tT c γ ∧ BR m fam α γ) := by
  obtain ⟨a1, a2, a3, a4, a5, a6, a7, a8⟩ := id hF
  obtain ⟨d25, d26, d27, d27', d28, d31, d31', dG⟩ := id hD
  have hc3 := he.2.1
  unfold f_Fam_build f_Fam_payOpenings
  refine (pay_go (M := M) hN (by omega) M 0 N α h d28 (by omega) (by omega)).bv (fun α1 u => ?_) (fun δ u => ⟨u.1.up (by omega), ?_⟩)
  · obtain ⟨t1, c1⟩ := u
    have e1 : eI c (fam + 1) m α1 := he.ch c1 (by decide) (by decide)
    have f1 : ∀ k, fc α1 k 1 = fc α k 1 := fun k => by unfold fc; rw [c1.row (by decide) (by simp)]
    have hm := he.2.2.2.1
    have F1 := hF.ch hm c1 (by decide) (by decide) (by simp) f1
    have D1 := hD.ch hF h t1 hm c1 (by decide) (by decide) (by decide) (by decide) (by decide) f1
    have hm1 := e1.2.2.2.1
    rw [show f_Par_nodes α1 = nI m from (c1.int (by decide)).trans e23]
    obtain ⟨ρ, er, tρ, nρ, gρ, iρ, rρ, mρ⟩ := rel_t (N := N) (by omega) t1 hm1
    rw [er, kBv_s]
    have hn1 := t1.1.1.n.2.1
    have tρ' : tT c ρ := tρ.up (by omega)
    -- what stands below m
    have vρ : ∀ p, vM α1 m p → vM ρ m p := fun p ⟨j, e, hj, h9⟩ => ⟨j, e, hj, by rw [← (g_n gρ (by omega)).1]; exact h9⟩
    have fρ : ∀ k w, fc ρ k w = fc α1 k w := fun k w => by unfold fc; rw [rρ]
    have eρ : eI c (fam + 1) m ρ := by
      obtain ⟨b1, b2, b3, b4, b5, b6⟩ := e1
      refine ⟨by rw [rρ]; exact b1, b2, b3, by omega, by rw [rρ]; exact b5, fun k hk => ?_⟩
      obtain ⟨g1, g2, g3, g4, g5, g6⟩ := b6 k hk
      unfold eF
      rw [fρ, fρ, fρ, fρ, fρ, fρ, fρ, fρ, fρ, fρ]
      exact ⟨g1, g2, g3, g4.imp id (vρ _), g5.imp id (vρ _), fun z => ⟨vρ _ (g6 z).1, fun y => vρ _ ((g6 z).2 y)⟩⟩
    have Bρ : BI c m fam n M q 0 ρ := by
      obtain ⟨x1, x2, x3, x4, x5, x6, x7, x8⟩ := F1
      obtain ⟨y1, y2, y3, y4, y5, y6, y7, y8⟩ := D1
      refine ⟨x2, hc3, eρ.1, (iρ 25 (by decide)).trans y1, (iρ 26 (by decide)).trans y2, (iρ 27 (by decide)).trans y3, (iρ 28 (by decide)).trans y5, by omega, by rw [rρ]; exact x5, fun p hp => vρ p (x6 p (by rw [← rρ]; exact hp)), by rw [iρ 21 (by decide)]; exact vρ _ x7, fun i _ hi => ?_⟩
      rw [fρ]
      refine ⟨vρ _ (x8 i hi), ?_⟩
      have e : mbt ρ fam i = mbt α1 fam i := by unfold mbt; rw [fρ]
      obtain ⟨j, ej, hj, -⟩ := x8 i hi
      have : mbt α1 fam i = j := by unfold mbt; rw [ej, nI_clamp (by omega)]
      rw [e]
      exact (GM_g tρ.1.1 tρ.2.1 t1.1.1 gρ (by omega)).mp (y8 i hi)
    have kρ : ∀ j, j < M → fc ρ (fam + 1 + j) 0 = 4 := fun j hj => by
      rw [fρ]
      unfold fc
      rw [c1.row (by decide) (by simp)]
      exact h4 j hj
    have nn : ∀ γ, gk [2, 3, 4, 6, 7, 30] [2, 3, 4, 5, 16, 17, 18, 19] fam ρ γ → (∀ i, i < m → nK α i ≠ 1) → nf γ := fun γ g hq => g.1.nf (by decide) fun i hi => by
      rw [← (g_n gρ hi).1, (g_n c1.2.2 (i := i) (by omega)).1]
      exact hq i (by omega)
    have br : ∀ γ, gk [2, 3, 4, 6, 7, 30] [2, 3, 4, 5, 16, 17, 18, 19] fam ρ γ → BR m fam α γ := by
      intro γ g
      refine ⟨fun α0 h0 h0m => ((h0.tr c1.2.2).cut h0m nρ gρ).tr g.1.2.2, fun i hi => ?_, fun r hr hr' => ?_, ?_, fun i hi => ?_, fun k w hw => ?_⟩
      · have i6 : i ≠ 6 := fun y => hi (by rw [y]; decide)
        exact (g.1.int hi).trans ((iρ i i6).trans (c1.int (fun y => hi (by revert y; simp; omega))))
      · rw [g.1.row hr hr', rρ, c1.row hr (by simp)]
      · rw [g.2.1, rρ, c1.row (by decide) (by simp)]
      · rw [g.2.2.1 i hi, rρ, c1.row (by decide) (by simp)]
      · rw [g.2.2.2 k w hw, fρ]
        unfold fc
        rw [c1.row (by decide) (by simp)]
    refine (motive_ok hN tρ' Bρ).bv (fun γ u => ?_) (fun γ u => ⟨u.1, br γ (gk.of u.2 (by decide) (by decide) (by decide))⟩)
    obtain ⟨t2, c2, q2⟩ := u
    rw [cut0 t2 (by decide)]
    have t3 : tT c (kSl γ 19 []) := t2.sl (by decide) (Nat.zero_le _)
    have c3 : ch [3, 4, 6, 30] [16, 19] ρ (kSl γ 19 []) := (c2.mo (by decide) (by decide)).tr (ch.rs (by decide))
    have g3 : gk [2, 3, 4, 6, 7, 30] [2, 3, 4, 5, 16, 17, 18, 19] fam ρ (kSl γ 19 []) := gk.of c3 (by decide) (by decide) (by decide)
    exact (b32_go hN M 0 N (kSl γ 19 []) t3 (Bρ.ch tρ' t3 c3 (by decide) (by decide) (by decide) (by decide) (by decide) (by decide) (by decide)) (eρ.ch c3 (by decide) (by decide)) (fun j hj => (g3.2.2.2 _ 0 (Or.inl rfl)).trans (kρ j hj)) rfl (fun p hp => by cases hp) q2 (by omega) (by omega)).mono (fun δ y => ⟨y.1, ⟨y.2.1, nn δ (g3.tr y.2.2)⟩, br δ (g3.tr y.2.2)⟩) (fun δ y => ⟨y.1, br δ (g3.tr y.2)⟩)
  · have c1 := u.2
    refine ⟨fun α0 h0 _ => h0.tr c1.2.2, fun i hi => c1.int (fun y => hi (by revert y; simp; omega)), fun r hr _ => c1.row hr (by simp), by rw [c1.row (by decide) (by simp)], fun i _ => by rw [c1.row (by decide) (by simp)], fun k w _ => by unfold fc; rw [c1.row (by decide) (by simp)]⟩
