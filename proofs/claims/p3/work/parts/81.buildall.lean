-- a family is built: all of it
theorem eF.up {α : kS} {m m' k : Nat} {kn : Prop} (hm : m ≤ m') (h : eF α m kn k) : eF α m' kn k := by
  obtain ⟨a, b, b', c, d, e⟩ := h
  exact ⟨a, b, b', c.imp id (vM.up hm), d.imp id (vM.up hm), fun z => ⟨(e z).1.up hm, fun y => ((e z).2 y).up hm⟩⟩
theorem eI.up {c K m m' : Nat} {α : kS} (h : eI c K m α) (hm : m ≤ m') (ht : m' ≤ tn α) : eI c K m' α :=
  ⟨h.1, h.2.1, h.2.2.1, ht, h.2.2.2.2.1, fun k hk => (h.2.2.2.2.2 k hk).up hm⟩
theorem eI.next {c K m : Nat} {α : kS} (h : eI c K m α) (hk : K < c) (ht : vM α m (fc α K 1)) (h0 : fc α K 0 ≠ 1) : eI c (K + 1) m α := by
  refine ⟨h.1, h.2.1, hk, h.2.2.2.1, h.2.2.2.2.1, fun k hk' => ?_⟩
  obtain ⟨a, b, b', c, d, e⟩ := h.2.2.2.2.2 k hk'
  refine ⟨a, b, b', c, d, fun z => ?_⟩
  rcases Nat.lt_or_ge k K with y | y
  · exact e y
  · have : k = K := by omega
    subst this
    exact ⟨ht, fun y => absurd y h0⟩
theorem fix_l {K c k w : Nat} {α : kS} {x : Int32} (h : tT K α) (hl : (α.2.1 5).length = 12 * c) (hk : k < c) (hw : w < 12) (hx : x = nI w) (v : Int32) : ∃ β, f_Env_fix (nI k) x v α = β ∧ tT K β ∧ ch [] [5] α β ∧ (β.2.1 5).length = (α.2.1 5).length ∧ (∀ k' w', w' < 12 → fc β k' w' = if k' = k ∧ w' = w then v else fc α k' w') ∧ ∀ i, i < 12 * k → (β.2.1 5).getD i 0 = (α.2.1 5).getD i 0 := by
  subst hx
  have hl : 12 * k + w < (α.2.1 5).length := by rw [hl]; omega
  refine ⟨kSl α 5 ((α.2.1 5).set (12 * k + w) v), fix_e h hl v, h.sl (by decide) (by rw [List.length_set]; exact Nat.le_refl _), ch.rs (by decide), List.length_set, fun k' w' hw' => ?_, fun i hi => ?_⟩
  · show ((α.2.1 5).set (12 * k + w) v).getD (12 * k' + w') 0 = _
    rw [get_set hl]
    by_cases e : k' = k ∧ w' = w
    · rw [if_pos e, if_pos (by rw [e.1, e.2])]
    · rw [if_neg e, if_neg (fun z => e (by omega))]
      rfl
  · show ((α.2.1 5).set (12 * k + w) v).getD i 0 = _
    rw [get_set hl, if_neg (by omega)]
/-- a TERM is written as a fact -/
theorem fixT_eI {c K m k w : Nat} {α β : kS} {v : Int32} (he : eI c K m α) (hc : ch [] [5] α β) (hl : (β.2.1 5).length = (α.2.1 5).length) (hf : ∀ k' w', w' < 12 → fc β k' w' = if k' = k ∧ w' = w then v else fc α k' w') (hw : w = 1 ∨ w = 2 ∨ w = 10) (hv : vM α m v) : eI c K m β := by
  have hm := he.2.2.2.1
  refine ⟨hl.trans he.1, he.2.1, he.2.2.1, Nat.le_trans hm hc.2.2.1, by rw [hc.row (by decide) (by decide)]; exact he.2.2.2.2.1, fun k' hk' => ?_⟩
  have hv' := hv.g hm hc.2.2
  by_cases z : k' = k
  · subst z
    obtain ⟨a, b, b', f10, f2, e⟩ := he.2.2.2.2.2 k' hk'
    have g : ∀ j, j < 12 → j ≠ w → fc β k' j = fc α k' j := fun j hj hjw => by rw [hf k' j hj, if_neg (fun y => hjw y.2)]
    have gw : fc β k' w = v := by rw [hf k' w (by omega), if_pos ⟨rfl, rfl⟩]
    unfold eF
    rw [g 11 (by omega) (by omega), g 3 (by omega) (by omega), g 4 (by omega) (by omega), g 5 (by omega) (by omega), g 6 (by omega) (by omega), g 8 (by omega) (by omega), g 0 (by omega) (by omega)]
    refine ⟨a, b, b', ?_, ?_, fun y => ⟨?_, fun y0 => ?_⟩⟩
    · by_cases w10 : w = 10
      · subst w10; rw [gw]; exact Or.inr hv'
      · rw [g 10 (by omega) (Ne.symm w10)]; exact f10.imp id (vM.g hm hc.2.2)
    · by_cases w2 : w = 2
      · subst w2; rw [gw]; exact Or.inr hv'
      · rw [g 2 (by omega) (Ne.symm w2)]; exact f2.imp id (vM.g hm hc.2.2)
    · by_cases w1 : w = 1
      · subst w1; rw [gw]; exact hv'
      · rw [g 1 (by omega) (Ne.symm w1)]; exact (e y).1.g hm hc.2.2
    · by_cases w2 : w = 2
      · subst w2; rw [gw]; exact hv'
      · rw [g 2 (by omega) (Ne.symm w2)]; exact ((e y).2 y0).g hm hc.2.2
  · exact (he.2.2.2.2.2 k' hk').g hm hc.2.2 (fun j hj => by rw [hf k' j hj, if_neg (fun y => z y.1)])
/-- what has changed beside CONSTANTS from c0 on -/
def gk (I R : List Nat) (c0 : Nat) (α β : kS) : Prop := ch I R α β ∧ (β.2.1 5).length = (α.2.1 5).length ∧ (∀ i, i < 12 * c0 → (β.2.1 5).getD i 0 = (α.2.1 5).getD i 0) ∧ ∀ k w, w = 0 ∨ w = 11 → fc β k w = fc α k w
section GK
variable {I R I' R' : List Nat} {c0 : Nat} {α β γ : kS}
theorem gk.tr (h : gk I R c0 α β) (h' : gk I R c0 β γ) : gk I R c0 α γ := ⟨h.1.tr h'.1, h'.2.1.trans h.2.1, fun i hi => (h'.2.2.1 i hi).trans (h.2.2.1 i hi), fun k w hw => (h'.2.2.2 k w hw).trans (h.2.2.2 k w hw)⟩
theorem gk.of (h : ch I' R' α β) (hI : ∀ i ∈ I', i ∈ I) (hR : ∀ r ∈ R', r ∈ R) (h5 : 5 ∉ R') : gk I R c0 α β := ⟨h.mo hI hR, by rw [h.row (by decide) h5], fun i _ => by rw [h.row (by decide) h5], fun k w _ => by unfold fc; rw [h.row (by decide) h5]⟩
theorem gk.fix {k w : Nat} {v : Int32} (hc : ch [] [5] α β) (hl : (β.2.1 5).length = (α.2.1 5).length) (hf : ∀ k' w', w' < 12 → fc β k' w' = if k' = k ∧ w' = w then v else fc α k' w') (hp : ∀ i, i < 12 * k → (β.2.1 5).getD i 0 = (α.2.1 5).getD i 0) (hck : c0 ≤ k) (hw : w ≠ 0 ∧ w ≠ 11) (h5 : 5 ∈ R) : gk I R c0 α β :=
  ⟨hc.mo (by simp) (by simpa using h5), hl, fun i hi => hp i (by omega), fun k' w' hw' => by rw [hf k' w' (by omega), if_neg (fun y => by have := y.2; omega)]⟩
end GK
section BUILDALL
variable {N c m fam n M q : Nat}
theorem pay_18 (hN : 2 ^ 31 ≤ N) {K : Nat} {x1 : Int32} {k2 : Int32 → kS → Option (kO × kS)} {P X : kS → Prop} : ∀ (d i nn : Nat) (t : Int32) (β : kS), tT K β → i + d = 3000 → d < nn → (∀ γ, tT K γ → ch [2, 3, 4] [] β γ → tV (k2 (x1 + 1) γ) P X) → (∀ γ, tT K γ → ch [2, 3, 4] [] β γ → X γ) → tV (f_Fam_payOpenings_18 N k2 nn (nI i) t x1 β) P X
  | 0, i, nn, t, β, h, hi, hn, hk, hX => by
    obtain ⟨nn, rfl⟩ : ∃ n', nn = n' + 1 := ⟨nn - 1, by omega⟩
    rw [f_Fam_payOpenings_18, if_pos (l3_ge (by omega))]
    exact hk β h ch.rf
  | d + 1, i, nn, t, β, h, hi, hn, hk, hX => by
    obtain ⟨nn, rfl⟩ : ∃ n', nn = n' + 1 := ⟨nn - 1, by omega⟩
    rw [f_Fam_payOpenings_18, if_neg (l3_lt (by omega))]
    refine tV.ite (fun _ => ?_) (fun _ => hk β h ch.rf)
    refine (charge_ok _ h).bv (fun γ q => ?_) (fun γ q => hX γ q.1 q.2)
    rw [nI_1]
    exact pay_18 hN d (i + 1) nn _ γ q.1 (by omega) (by omega) (fun δ y1 y2 => hk δ y1 (q.2.tr y2)) (fun δ y1 y2 => hX δ y1 (q.2.tr y2))
theorem pay_go (hN : 2 ^ 31 ≤ N) {K M : Nat} (hM : M ≤ 300) : ∀ (d i nn : Nat) (β : kS), tT K β → β.1 28 = nI M → i + d = M → d < nn → tV (f_Fam_payOpenings_2 N nn (nI i) β) (bX K [2, 3, 4] [] β) (bX K [2, 3, 4] [] β)
  | 0, i, nn, β, h, e28, hi, hn => by
    obtain ⟨nn, rfl⟩ : ∃ n', nn = n' + 1 := ⟨nn - 1, by omega⟩
    rw [f_Fam_payOpenings_2, e28, if_pos (nI_le (by omega) (by omega))]
    exact tV.ret ⟨h, ch.rf⟩
  | d + 1, i, nn, β, h, e28, hi, hn => by
    obtain ⟨nn, rfl⟩ : ∃ n', nn = n' + 1 := ⟨nn - 1, by omega⟩
    rw [f_Fam_payOpenings_2, e28, if_neg (nI_ge (by omega) (by omega))]
    refine pay_18 hN 3000 0 N _ β h (by omega) (by omega) (fun γ y1 y2 => ?_) (fun γ y1 y2 => ⟨y1, y2⟩)
    rw [nI_1]
    exact (pay_go hN hM d (i + 1) nn γ y1 ((y2.int (by decide)).trans e28) (by omega) (by omega)).mono (fun δ y => ⟨y.1, y2.tr y.2⟩) (fun δ y => ⟨y.1, y2.tr y.2⟩)
theorem motive_ok (hN : 2 ^ 31 ≤ N) {β : kS} (h : tT c β) (hB : BI c m fam n M q 0 β) : tV (f_Fam_buildMotive N β) (fun γ => tT c γ ∧ ch [3, 4, 6, 30] [16] β γ ∧ qP γ (γ.1 30)) (bX c [3, 4, 6, 30] [16] β) := by
  obtain ⟨a1, a2, a3, a4, a5, a6, a7, a8, a9, a10, a11, -⟩ := id hB
  obtain ⟨t, et, qt⟩ := a11.q a8
  unfold f_Fam_buildMotive
  rw [show f_Par_type β = nI t from et]
  obtain ⟨l, e, γ, hp, eγ, tγ, cγ, rγ, hl⟩ := split_ok (N := N) hN (Or.inl rfl) h qt.1
  rw [eγ, kBi_s]
  obtain ⟨-, -, -, -, hdl⟩ := pc_in h.1.1 h.2.1 l t e qt.1 hp
  have q16 : aQ γ (γ.2.1 16) := by
    rw [rγ]
    exact (map_q (β := β) fun d hd => ⟨by have := (hdl d hd).1; have := qt.1; omega, (hdl d hd).2⟩).g cγ.2.2
  have cm : ch [3, 4, 6, 30] [16] β γ := cγ.mo (by decide) (by decide)
  refine (mk_l (k := 3) (by omega) tγ (by decide) _ 0 (fun _ => ⟨fam, (cγ.int (by decide)).trans a4, by omega⟩)).bv (fun v1 γ1 u => ?_) (fun δ u => ⟨u.1, cm.tr (u.2.mo (by decide) (by decide))⟩)
  obtain ⟨t1, c1, j1, rfl, q1, -⟩ := u
  refine (app_ok hN t1 ⟨j1, rfl, q1⟩ _ _ _).bv (fun v2 γ2 u => ?_) (fun δ u => ⟨u.1, cm.tr ((c1.tr u.2).mo (by decide) (by decide))⟩)
  obtain ⟨t2, c2, j2, rfl, q2⟩ := u
  refine (mk_l (k := 2) (by omega) t2 (by decide) _ 0 (fun y => by omega)).bv (fun v3 γ3 u => ?_) (fun δ u => ⟨u.1, cm.tr (((c1.tr c2).tr u.2).mo (by decide) (by decide))⟩)
  obtain ⟨t3, c3, j3, rfl, q3, -⟩ := u
  refine (mk_n (k := 6) (by omega) t3 (by decide) (by decide) (q2.g c3.2.2) q3).bv (fun v4 γ4 u => ?_) (fun δ u => ⟨u.1, cm.tr ((((c1.tr c2).tr c3).tr u.2).mo (by decide) (by decide))⟩)
  obtain ⟨t4, c4, j4, rfl, q4, -⟩ := u
  have c04 := ((c1.tr c2).tr c3).tr c4
  refine (bnd_ok hN (r2 := 16) (kk := 6) (by decide) (Or.inl rfl) rfl t4 (by rw [c04.row (by decide) (by simp)]; exact q16.g c04.2.2) ⟨j4, rfl, q4⟩).bv (fun v5 γ5 u => ?_) (fun δ u => ⟨u.1, cm.tr ((c04.tr u.2).mo (by decide) (by decide))⟩)
  obtain ⟨t5, c5, q5⟩ := u
  refine tV.ret ⟨t5.si (by decide), (cm.tr ((c04.tr c5).mo (by decide) (by decide))).tr (ch.si (by decide) (by decide)), ?_⟩
  exact q5.g (ch.si (I := [30]) (R := []) (α := γ5) (v := v5) (by decide) (by decide)).2.2
theorem recType_ok (hN : 2 ^ 31 ≤ N) {β : kS} (h : tT c β) (hB : BI c m fam n M q 0 β) (q19 : aQ β (β.2.1 19)) (q30 : qP β (β.1 30)) : tI (f_Fam_recursorType N β) (bQ c [2, 3, 4, 6] [2, 3, 4, 16] β) (bX c [2, 3, 4, 6] [2, 3, 4, 16] β) := by
  obtain ⟨a1, a2, a3, a4, a5, a6, a7, a8, a9, a10, a11, -⟩ := id hB
  obtain ⟨t, et, qt⟩ := a11.q a8
  unfold f_Fam_recursorType
  rw [show f_Par_type β = nI t from et]
  refine (rewrite_ok (m' := 3) (by omega) h (by decide) qt.1 (fun y => absurd y (by decide))).bi (fun v0 γ0 u => ?_) (fun δ u => ⟨u.1, u.2.mo (by decide) (by decide)⟩)
  obtain ⟨t0, c0, j0, rfl, q0, q09, -⟩ := u
  obtain ⟨l, e, γ, hp, eγ, tγ, cγ, rγ, hl⟩ := split_ok (N := N) hN (Or.inl rfl) t0 q0
  rw [eγ, kBi_s]
  obtain ⟨-, -, -, -, hdl⟩ := pc_in t0.1.1 t0.2.1 l j0 e q0 hp
  have q16 : aQ γ (γ.2.1 16) := by
    rw [rγ]
    exact (map_q (β := γ0) fun d hd => ⟨by have := (hdl d hd).1; omega, (hdl d hd).2⟩).g cγ.2.2
  have cm : ch [2, 3, 4, 6] [2, 3, 4, 16] β γ := (c0.mo (by decide) (by decide)).tr (cγ.mo (by decide) (by decide))
  have nx : ∀ δ, ch [3, 4, 6] [] γ δ → ch [2, 3, 4, 6] [2, 3, 4, 16] β δ := fun δ y => cm.tr (y.mo (by decide) (by decide))
  refine (mk_l (k := 3) (by omega) tγ (by decide) _ 0 (fun _ => ⟨fam, (cm.int (by decide)).trans a4, by omega⟩)).bi (fun v1 γ1 u => ?_) (fun δ u => ⟨u.1, nx δ u.2⟩)
  obtain ⟨t1, c1, j1, rfl, q1, -⟩ := u
  refine (app_ok hN t1 ⟨j1, rfl, q1⟩ _ _ _).bi (fun v2 γ2 u => ?_) (fun δ u => ⟨u.1, nx δ (c1.tr u.2)⟩)
  obtain ⟨t2, c2, q2⟩ := u
  refine (app_ok hN t2 q2 _ _ _).bi (fun v3 γ3 u => ?_) (fun δ u => ⟨u.1, nx δ ((c1.tr c2).tr u.2)⟩)
  obtain ⟨t3, c3, j3, rfl, q3⟩ := u
  have c03 := (c1.tr c2).tr c3
  refine (var_t (by omega) t3 _ _).bi (fun v4 γ4 u => ?_) (fun δ u => ⟨u.1, nx δ (c03.tr u.2)⟩)
  obtain ⟨t4, c4, q4⟩ := u
  refine (app_ok hN t4 q4 _ _ _).bi (fun v5 γ5 u => ?_) (fun δ u => ⟨u.1, nx δ ((c03.tr c4).tr u.2)⟩)
  obtain ⟨t5, c5, j5, rfl, q5⟩ := u
  have c05 := (c03.tr c4).tr c5
  refine (mk_n (k := 6) (by omega) t5 (by decide) (by decide) (q3.g (c4.tr c5).2.2) q5).bi (fun v6 γ6 u => ?_) (fun δ u => ⟨u.1, nx δ (c05.tr u.2)⟩)
  obtain ⟨t6, c6, j6, rfl, q6, -⟩ := u
  have c06 := c05.tr c6
  refine (bnd_ok hN (r2 := 16) (kk := 6) (by decide) (Or.inl rfl) rfl t6 (by rw [c06.row (by decide) (by simp)]; exact q16.g c06.2.2) ⟨j6, rfl, q6⟩).bi (fun v7 γ7 u => ?_) (fun δ u => ⟨u.1, nx δ (c06.tr u.2)⟩)
  obtain ⟨t7, c7, q7⟩ := u
  have c07 := c06.tr c7
  have n7 := nx γ7 c07
  refine (bnd_ok hN (r2 := 19) (kk := 6) (by decide) (Or.inl rfl) rfl t7 (by rw [n7.row (by decide) (by decide)]; exact q19.g n7.2.2) q7).bi (fun v8 γ8 u => ?_) (fun δ u => ⟨u.1, nx δ (c07.tr u.2)⟩)
  obtain ⟨t8, c8, j8, rfl, q8⟩ := u
  have c08 := c07.tr c8
  have n8 := nx γ8 c08
  obtain ⟨jm, em, qm⟩ := q30
  rw [show γ7.1 30 = nI jm from (n7.int (by decide)).trans em]
  refine (mk_n (k := 6) (by omega) t8 (by decide) (by decide) (qm.g n8.2.2) q8).bi (fun v9 γ9 u => ?_) (fun δ u => ⟨u.1, nx δ (c08.tr u.2)⟩)
  obtain ⟨t9, c9, j9, rfl, q9, -⟩ := u
  have c09 := c08.tr c9
  have n9 := nx γ9 c09
  refine (over_ok hN t9 (fun p hp => ((a10 p (by rw [← n9.row (r := 11) (by decide) (by decide)]; exact hp)).q a8).g n9.2.2) q9).bi (fun v10 γ10 u => ?_) (fun δ u => ⟨u.1, nx δ (c09.tr u.2)⟩)
  obtain ⟨u1, u2, j10, rfl, u3, -⟩ := u
  exact tI.ret ⟨u1, nx γ10 (c09.tr u2), j10, rfl, u3⟩
theorem vM_of {α : kS} {p : Int32} (h : qP α p) : vM α (tn α) p := by
  obtain ⟨j, e, h1, h2⟩ := h
  exact ⟨j, e, h1, h2⟩
theorem fix_BI {α β : kS} {i0 k w : Nat} {v : Int32} (h : BI c m fam n M q i0 α) (hα : tT c α) (hβ : tT c β) (hc : ch [] [5] α β) (hl : (β.2.1 5).length = (α.2.1 5).length) (hf : ∀ k' w', w' < 12 → fc β k' w' = if k' = k ∧ w' = w then v else fc α k' w') {i1 : Nat} (hi : i0 ≤ i1) (hk : w = 1 → k < fam + 1 + i1) : BI c m fam n M q i1 β := by
  obtain ⟨a1, a2, a3, a4, a5, a6, a7, a8, a9, a10, a11, a12⟩ := h
  have hn := hα.1.1.n.2.1
  have e11 := hc.row (r := 11) (by decide) (by decide)
  refine ⟨a1, a2, hl.trans a3, (hc.int (by decide)).trans a4, (hc.int (by decide)).trans a5, (hc.int (by decide)).trans a6, (hc.int (by decide)).trans a7, Nat.le_trans a8 hc.2.2.1, by rw [e11]; exact a9, fun p hp => (a10 p (by rw [← e11]; exact hp)).g a8 hc.2.2, by rw [hc.int (by decide)]; exact a11.g a8 hc.2.2, fun i h1 h2 => ?_⟩
  obtain ⟨b1, b2⟩ := a12 i (by omega) h2
  have e : fc β (fam + 1 + i) 1 = fc α (fam + 1 + i) 1 := by
    rw [hf _ 1 (by decide), if_neg (fun y => by have := hk y.2.symm; have := y.1; omega)]
  rw [e]
  refine ⟨b1.g a8 hc.2.2, ?_⟩
  have e' : mbt β fam i = mbt α fam i := by unfold mbt; rw [e]
  obtain ⟨j, ej, hj, -⟩ := b1
  have : mbt α fam i = j := by unfold mbt; rw [ej, nI_clamp (by omega)]
  rw [e']
  exact (GM_g hα.1.1 hα.2.1 hβ.1.1 hc.2.2 (by omega)).mpr b2
theorem b118_go (hN : 2 ^ 31 ≤ N) : ∀ (d i nn : Nat) (x1 : Int32) (β : kS), tT c β → BI c m fam n M q i β → eI c (fam + 1 + i) (tn β) β → (∀ j, j < M → fc β (fam + 1 + j) 0 = 4) → aQ β (β.2.1 19) → qP β (β.1 30) → i + d = M → d < nn →
    tV (f_Fam_build_118 N nn (nI i) x1 β) (fun γ => tT c γ ∧ eI c c (tn γ) γ ∧ gk [2, 3, 4, 6, 7, 30] [2, 3, 4, 5, 16, 17, 18, 19] fam β γ) (fun γ => tT c γ ∧ gk [2, 3, 4, 6, 7, 30] [2, 3, 4, 5, 16, 17, 18, 19] fam β γ)
  | 0, i, nn, x1, β, h, hB, he, h4, q19, q30, hi, hn => by
    obtain ⟨nn, rfl⟩ : ∃ n', nn = n' + 1 := ⟨nn - 1, by omega⟩
    obtain ⟨a1, a2, a3, a4, a5, a6, a7, a8, -⟩ := id hB
    rw [f_Fam_build_118, a7, if_pos (nI_le (by omega) (by omega))]
    refine tV.ite (fun _ => ?_) (fun _ => ?_)
    · unfold f_Fam_build_j244 f_Env_addSizes
      have cs : ch [7] [] β (kSi β 7 (β.1 7 + (x1 - f_Env_sizes β))) := ch.si (by decide) (by decide)
      refine tV.ret ⟨h.si (by decide), ?_, gk.of cs (by decide) (by decide) (by decide)⟩
      have e : c = fam + 1 + i := by omega
      have := (he.ch cs (by decide) (by decide)).up cs.2.2.1 (Nat.le_refl _)
      rw [← e] at this
      exact this
    · obtain ⟨γ, e, g1, g2⟩ := fail_t N 10 h (I := [2, 3, 4, 6, 7, 30]) (R := []) (by decide) (by decide)
      rw [e]
      exact tV.thr ⟨g1, gk.of g2 (by decide) (by decide) (by decide)⟩
  | d + 1, i, nn, x1, β, h, hB, he, h4, q19, q30, hi, hn => by
    obtain ⟨nn, rfl⟩ : ∃ n', nn = n' + 1 := ⟨nn - 1, by omega⟩
    obtain ⟨a1, a2, a3, a4, a5, a6, a7, a8, -⟩ := id hB
    rw [f_Fam_build_118, a7, if_neg (nI_ge (by omega) (by omega))]
    refine (rule_ok hN h hB (Nat.le_refl _) (by omega) q19 q30).bv (fun v1 γ1 u => ?_) (fun δ u => ⟨u.1, gk.of u.2 (by decide) (by decide) (by decide)⟩)
    obtain ⟨t1, c1, q1⟩ := u
    have B1 : BI c m fam n M q i γ1 := hB.ch h t1 c1 (by decide) (by decide) (by decide) (by decide) (by decide) (by decide) (by decide)
    obtain ⟨em, qm, -, -⟩ := B1.mem t1 (Nat.le_refl _) (show i < M by omega)
    rw [em]
    refine (over_ok hN t1 (fun p hp => (B1.2.2.2.2.2.2.2.2.2.1 p hp).q B1.2.2.2.2.2.2.2.1) qm).bv (fun v2 γ2 u => ?_) (fun δ u => ⟨u.1, gk.of (c1.tr (u.2.mo (by decide) (by decide))) (by decide) (by decide) (by decide)⟩)
    obtain ⟨t2, c2, j2, rfl, q2, -⟩ := u
    have c02 : ch [2, 3, 4, 6] [2, 3, 4, 16, 18] β γ2 := c1.tr (c2.mo (by decide) (by decide))
    have B2 : BI c m fam n M q i γ2 := B1.ch t1 t2 c2 (by decide) (by decide) (by decide) (by decide) (by decide) (by decide) (by decide)
    have g02 : gk [2, 3, 4, 6, 7, 30] [2, 3, 4, 5, 16, 17, 18, 19] fam β γ2 := gk.of c02 (by decide) (by decide) (by decide)
    refine tV.ite (fun _ => ?_) (fun _ => ?_)
    · unfold f_Fam_build_j185
      have e25 : γ2.1 25 = nI fam := B2.2.2.2.1
      rw [nI_1, e25, nI_1, nI_add]
      have I2 : eI c (fam + 1 + i) (tn γ2) γ2 := (he.ch c02 (by decide) (by decide)).up c02.2.2.1 (Nat.le_refl _)
      obtain ⟨γ3, e3, t3, c3, l3, f3, p3⟩ := fix_l (k := fam + 1 + i) (w := 1) (x := 1) t2 B2.2.2.1 (by omega) (by decide) rfl (nI j2)
      rw [e3]
      have I3 := fixT_eI I2 c3 l3 f3 (Or.inl rfl) (vM_of ⟨j2, rfl, q2⟩)
      have B3 : BI c m fam n M q (i + 1) γ3 := fix_BI B2 t2 t3 c3 l3 f3 (by omega) (fun _ => by omega)
      rw [show γ3.1 25 = nI fam from (c3.int (by decide)).trans e25, nI_1, nI_add]
      obtain ⟨γ4, e4, t4, c4, l4, f4, p4⟩ := fix_l (k := fam + 1 + i) (w := 10) (x := 10) t3 B3.2.2.1 (by omega) (by decide) rfl v1
      rw [e4]
      have q1' : qP γ3 v1 := q1.g (c2.2.2.tr c3.2.2)
      have tn3 : tn γ3 = tn γ2 := by unfold tn; rw [c3.int (by decide)]
      have tn4 : tn γ4 = tn γ3 := by unfold tn; rw [c4.int (by decide)]
      have I4 := fixT_eI (I3.up (show tn γ2 ≤ tn γ3 by omega) (Nat.le_refl _)) c4 l4 f4 (Or.inr (Or.inr rfl)) (vM_of q1')
      have B4 : BI c m fam n M q (i + 1) γ4 := fix_BI B3 t3 t4 c4 l4 f4 (Nat.le_refl _) (fun y => by omega)
      have g24 : gk [2, 3, 4, 6, 7, 30] [2, 3, 4, 5, 16, 17, 18, 19] fam γ2 γ4 := (gk.fix c3 l3 f3 p3 (by omega) (by decide) (by decide)).tr (gk.fix c4 l4 f4 p4 (by omega) (by decide) (by decide))
      have g04 := g02.tr g24
      have k4 : ∀ j, j < M → fc γ4 (fam + 1 + j) 0 = 4 := fun j hj => (g04.2.2.2 _ 0 (Or.inl rfl)).trans (h4 j hj)
      have I5 : eI c (fam + 1 + (i + 1)) (tn γ4) γ4 := by
        have := I4.next (by omega) ?_ (by rw [k4 i (by omega)]; decide)
        · rw [tn4]; exact this
        · rw [f4 _ 1 (by decide), if_neg (fun y => by have := y.2; omega), f3 _ 1 (by decide), if_pos ⟨rfl, rfl⟩]
          have : qP γ4 (nI j2) := ⟨j2, rfl, q2.g (c3.2.2.tr c4.2.2)⟩
          have := vM_of this
          rw [tn4] at this
          exact this
      have c24 : ch [] [5] γ2 γ4 := c3.tr c4
      have c04 : ch [2, 3, 4, 6] [2, 3, 4, 5, 16, 18] β γ4 := (c02.mo (by decide) (by decide)).tr (c24.mo (by decide) (by decide))
      refine (b118_go hN d (i + 1) nn _ γ4 t4 B4 I5 k4 (by rw [c04.row (by decide) (by decide)]; exact q19.g c04.2.2) (by rw [c04.int (by decide)]; exact q30.g c04.2.2) (by omega) (by omega)).mono (fun δ y => ⟨y.1, y.2.1, g04.tr y.2.2⟩) (fun δ y => ⟨y.1, g04.tr y.2⟩)
    · obtain ⟨γ, e, g1, g2⟩ := fail_t N 10 t2 (I := [2, 3, 4, 6, 7, 30]) (R := []) (by decide) (by decide)
      rw [e]
      exact tV.thr ⟨g1, g02.tr (gk.of g2 (by decide) (by decide) (by decide))⟩
theorem b32_go (hN : 2 ^ 31 ≤ N) : ∀ (d i nn : Nat) (β : kS), tT c β → BI c m fam n M q 0 β → eI c (fam + 1) m β → (∀ j, j < M → fc β (fam + 1 + j) 0 = 4) → (β.2.1 19).length = i → aQ β (β.2.1 19) → qP β (β.1 30) → i + d = M → d < nn →
    tV (f_Fam_build_32 N nn (nI i) β) (fun γ => tT c γ ∧ eI c c (tn γ) γ ∧ gk [2, 3, 4, 6, 7, 30] [2, 3, 4, 5, 16, 17, 18, 19] fam β γ) (fun γ => tT c γ ∧ gk [2, 3, 4, 6, 7, 30] [2, 3, 4, 5, 16, 17, 18, 19] fam β γ)
  | 0, i, nn, β, h, hB, he, h4, l19, q19, q30, hi, hn => by
    obtain ⟨nn, rfl⟩ : ∃ n', nn = n' + 1 := ⟨nn - 1, by omega⟩
    obtain ⟨a1, a2, a3, a4, a5, a6, a7, a8, -⟩ := id hB
    rw [f_Fam_build_32, a7, if_pos (nI_le (by omega) (by omega))]
    refine (recType_ok hN h hB q19 q30).bv (fun v γ u => ?_) (fun δ u => ⟨u.1, gk.of u.2 (by decide) (by decide) (by decide)⟩)
    obtain ⟨t1, c1, q1⟩ := u
    have B1 : BI c m fam n M q 0 γ := hB.ch h t1 c1 (by decide) (by decide) (by decide) (by decide) (by decide) (by decide) (by decide)
    rw [show γ.1 25 = nI fam from B1.2.2.2.1]
    obtain ⟨γ2, e2, t2, c2, l2, f2, p2⟩ := fix_l (k := fam) (w := 10) (x := 10) t1 B1.2.2.1 (by omega) (by decide) rfl v
    rw [e2]
    have I1 : eI c (fam + 1) (tn γ) γ := (he.ch c1 (by decide) (by decide)).up (Nat.le_trans a8 c1.2.2.1) (Nat.le_refl _)
    have tn2 : tn γ2 = tn γ := by unfold tn; rw [c2.int (by decide)]
    have I2 : eI c (fam + 1) (tn γ2) γ2 := by rw [tn2]; exact fixT_eI I1 c2 l2 f2 (Or.inr (Or.inr rfl)) (vM_of q1)
    have B2 : BI c m fam n M q 0 γ2 := fix_BI B1 t1 t2 c2 l2 f2 (Nat.le_refl _) (fun y => by omega)
    have g1 : gk [2, 3, 4, 6, 7, 30] [2, 3, 4, 5, 16, 17, 18, 19] fam β γ2 := (gk.of c1 (by decide) (by decide) (by decide)).tr (gk.fix c2 l2 f2 p2 (Nat.le_refl _) (by decide) (by decide))
    have c12 : ch [2, 3, 4, 6] [2, 3, 4, 5, 16] β γ2 := (c1.mo (by decide) (by decide)).tr (c2.mo (by decide) (by decide))
    refine (b118_go hN M 0 N _ γ2 t2 B2 I2 (fun j hj => (g1.2.2.2 _ 0 (Or.inl rfl)).trans (h4 j hj)) (by rw [c12.row (by decide) (by decide)]; exact q19.g c12.2.2) (by rw [c12.int (by decide)]; exact q30.g c12.2.2) (by omega) (by omega)).mono (fun δ y => ⟨y.1, y.2.1, g1.tr y.2.2⟩) (fun δ y => ⟨y.1, g1.tr y.2⟩)
  | d + 1, i, nn, β, h, hB, he, h4, l19, q19, q30, hi, hn => by
    obtain ⟨nn, rfl⟩ : ∃ n', nn = n' + 1 := ⟨nn - 1, by omega⟩
    obtain ⟨a1, a2, a3, a4, a5, a6, a7, a8, -⟩ := id hB
    rw [f_Fam_build_32, a7, if_neg (nI_ge (by omega) (by omega))]
    refine (minor_ok hN h hB (Nat.zero_le _) (by omega)).bv (fun v γ u => ?_) (fun δ u => ⟨u.1, gk.of u.2 (by decide) (by decide) (by decide)⟩)
    obtain ⟨t1, c1, q1⟩ := u
    have r19 : γ.2.1 19 = β.2.1 19 := c1.row (by decide) (by decide)
    obtain ⟨M1, e2, t2⟩ := push_t (r := 19) v t1 (by decide) (by rw [show kMx 19 = 512 by decide, r19]; omega)
    rw [e2, kBv_s, nI_1]
    have c2 : ch [2, 3, 4, 6] [2, 3, 4, 16, 17, 18, 19] β (kRs γ 19 (γ.2.1 19 ++ [v]) M1) := (c1.mo (by decide) (by decide)).tr (ch.rs (by decide))
    have g1 : gk [2, 3, 4, 6, 7, 30] [2, 3, 4, 5, 16, 17, 18, 19] fam β (kRs γ 19 (γ.2.1 19 ++ [v]) M1) := gk.of c2 (by decide) (by decide) (by decide)
    refine (b32_go hN d (i + 1) nn _ t2 (hB.ch h t2 c2 (by decide) (by decide) (by decide) (by decide) (by decide) (by decide) (by decide)) (he.ch c2 (by decide) (by decide)) (fun j hj => (g1.2.2.2 _ 0 (Or.inl rfl)).trans (h4 j hj)) ?_ ?_ (by rw [c2.int (by decide)]; exact q30.g c2.2.2) (by omega) (by omega)).mono (fun δ y => ⟨y.1, y.2.1, g1.tr y.2.2⟩) (fun δ y => ⟨y.1, g1.tr y.2⟩)
    · rw [krs_row, r19, List.length_append, l19]; rfl
    · rw [krs_row, r19]
      intro p hp
      rcases List.mem_append.mp hp with hp | hp
      · exact (q19 p hp).g c2.2.2
      · rw [List.mem_singleton.mp hp]; exact q1
end BUILDALL
