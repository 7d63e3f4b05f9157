-- the turns of a family's tests: CONSTRUCTORS
section FAMP
variable {N c K m fam n M yv : Nat} {α : kS} {a b t r : Int32} {ty : List Int32}
/-- the frame at the bottom alone -/
theorem SI.bot {z yv : Nat} {β : kS} (v : vw β [(nI z, a, b, t, nI 0)] ty r) (hz : 32 ≤ z) (hz2 : z ≤ 36) (ht : tvp yv β [(nI z, a, b, t, nI 0)] ty) : SI yv z β := by
  refine ⟨_, _, _, 0, v, ⟨z, 0, rfl, ⟨hz2, fun _ => rfl⟩, rfl, ?_, trivial, fun y => by omega⟩, fun q => absurd q (by decide), by decide, ht⟩
  have : z = 32 ∨ z = 33 ∨ z = 34 ∨ z = 35 ∨ z = 36 := by omega
  rcases this with rfl | rfl | rfl | rfl | rfl
  · exact ⟨rfl, rfl⟩
  · exact ⟨rfl, rfl⟩
  · exact ⟨rfl, rfl⟩
  · exact ⟨rfl, rfl⟩
  · exact ⟨rfl, rfl⟩
theorem tvp.bot {z yv : Nat} {β : kS} (hz : pl z = true) (hl : ty.length = yv) (hy : yv ≤ 420) (hq : aQ β ty) : tvp yv β [(nI z, a, b, t, nI 0)] ty := by
  unfold tvp
  rw [(vc_p hz).1, (vc_p hz).2]
  refine ⟨⟨hy, by show _ = yv + 0; omega⟩, Nat.zero_le _, fun i hi => hq _ ?_⟩
  have hi : i < ty.length := hi
  rw [List.getD_eq_getElem?_getD, List.getElem?_eq_getElem hi]
  exact List.getElem_mem _
theorem tvp.all {z yv : Nat} {β : kS} (hz : pl z = true) (h : tvp yv β [(nI z, a, b, t, nI 0)] ty) : ty.length = yv ∧ yv ≤ 420 ∧ aQ β ty := by
  unfold tvp at h
  rw [(vc_p hz).1, (vc_p hz).2] at h
  obtain ⟨⟨h1, h2⟩, -, h3⟩ := h
  refine ⟨h2, h1, fun p hp => ?_⟩
  obtain ⟨i, hi, rfl⟩ := List.getElem_of_mem hp
  have := h3 i hi
  rw [List.getD_eq_getElem?_getD, List.getElem?_eq_getElem hi] at this
  exact this
theorem mem_go (hN : 2 ^ 31 ≤ N) {z : Nat} {P X : kS → Prop} : ∀ (d i nn : Nat) (β : kS) (ty : List Int32), tT K β → FS c K m fam n M β → m ≤ tn β → β.1 26 = nI n → vw β [(nI z, a, b, t, nI 0)] ty r → ty.length = i → aQ β ty → i + d = n → d < nn →
    (∀ δ ty', tT K δ → wk β δ → vw δ [(nI z, a, b, t, nI 0)] ty' r → ty'.length = n → aQ δ ty' → tV (kBi (f_Terms_rewrite N 4 (f_Fam_memberTerm ((fR_cut δ 15 0).1 31) (fR_cut δ 15 0)) ((fR_cut δ 15 0).1 26) (fR_cut δ 15 0)) fun v5 α3 => (some (some none, (f_Fra_set 0 34 (kSi α3 32 v5))))) P X) → (∀ δ, tT K δ → wk β δ → X δ) → tV (f_Fam_member_28 N nn (nI i) β) P X
  | 0, i, nn, β, ty, h, hF, hm, e26, v, hl, hq, hi, hn, hk, hx => by
    obtain ⟨nn, rfl⟩ : ∃ n', nn = n' + 1 := ⟨nn - 1, by omega⟩
    have := hF.2.2.1
    rw [f_Fam_member_28, e26, if_pos (nI_le (by omega) (by omega))]
    exact hk β ty h ch.rf v (by omega) hq
  | d + 1, i, nn, β, ty, h, hF, hm, e26, v, hl, hq, hi, hn, hk, hx => by
    obtain ⟨nn, rfl⟩ : ∃ n', nn = n' + 1 := ⟨nn - 1, by omega⟩
    have hn2 := hF.2.2.1
    have hp : qP β (f_Par_parameterType (nI i) β) := by
      unfold f_Par_parameterType
      rw [at_e h (by decide) (by omega)]
      refine (hF.2.2.2.2.2.1 _ ?_).q hm
      rw [List.getD_eq_getElem?_getD, List.getElem?_eq_getElem (by rw [hF.2.2.2.2.1]; omega)]
      exact List.getElem_mem _
    rw [f_Fam_member_28, e26, if_neg (nI_ge (by omega) (by omega))]
    refine rw_q (m' := 4) (by omega) h (by decide) hp (fun y => absurd y (by decide)) v (fun x γ g1 g2 g3 g4 => ?_) hx
    obtain ⟨δ, e, y1, y2, y3⟩ := newvar (N := N) g1 g3 (by omega) x
    rw [e, kBi_s, nI_1]
    have w := g2.tr y2
    have hf : ∀ k, fc δ k 1 = fc β k 1 := fun k => by unfold fc; rw [w.row (by decide) (by decide)]
    refine mem_go hN d (i + 1) nn δ (ty ++ [x]) y1 (hF.ch hm w (by decide) (by decide) (by decide) hf) (Nat.le_trans hm w.2.2.1) ((w.int (by decide)).trans e26) y3 (by rw [List.length_append, hl]; rfl) ?_ (by omega) (by omega) (fun ε ty' z1 z2 z3 z4 z5 => hk ε ty' z1 (w.tr z2) z3 z4 z5) (fun ε z1 z2 => hx ε z1 (w.tr z2))
    intro p hp
    rcases List.mem_append.mp hp with hp | hp
    · exact (hq p hp).g w.2.2
    · rw [List.mem_singleton.mp hp]; exact g4.g y2.2.2
theorem member_ok (hN : 2 ^ 31 ≤ N) (B : Bot c K m fam n M yv 33 α a b t ty r) : tV (f_Fam_member N α) (LO c K m fam n M α) (LX K fam α) := by
  obtain ⟨h, he, v, ht, hz⟩ := B
  have hF := hz.1 (by decide)
  obtain ⟨q, at', hD⟩ := hz.2.1 rfl
  obtain ⟨d25, d26, d27, d27', d28, d31, d31', dG⟩ := id hD
  have hm := he.2.2.2.1
  have hn' := h.1.1.n.2.1
  have hc3 := he.2.1
  have hc := hF.2.1
  unfold f_Fam_member
  rw [d31, d28]
  refine tV.ite (fun ce => ?_) (fun ce => ?_)
  · have e : at' = M := (nI_eq (by omega) (by omega)).mp ce
    subst e
    obtain ⟨β, e, g1, g2, g3⟩ := fpop h v
    rw [e]
    have hf : ∀ k, fc β k 1 = fc α k 1 := fun k => by unfold fc; rw [g2.row (by decide) (by decide)]
    refine tV.ret ⟨⟨yv, 37, by decide, by decide, g1, he.ch g2 (by decide) (by decide), ⟨_, _, _, 0, g3, ⟨fun y => by omega, by omega⟩, fun y => absurd y (by decide), by decide, (ht.pop (by decide)).g g2.2.2⟩, fun _ => hF.ch hm g2 (by decide) (by decide) (by decide) hf, fun y => by omega, fun y => by omega, fun y => by omega, fun _ => ⟨q, hD.ch hF h g1 hm g2 (by decide) (by decide) (by decide) (by decide) (by decide) hf⟩⟩, fk.wk g2⟩
  · have hlt : at' < M := by
      rcases Nat.lt_or_ge at' M with y | y
      · exact y
      · exact absurd (by rw [show at' = M by omega]) ce
    unfold f_Fra_dropVariables
    rw [cut0 h (by decide)]
    have h1 : tT K (kSl α 13 []) := h.sl (by decide) (Nat.zero_le _)
    have w1 : wk α (kSl α 13 []) := ch.rs (by decide)
    have hf1 : ∀ k, fc (kSl α 13 []) k 1 = fc α k 1 := fun k => rfl
    refine mem_go (z := 33) (a := a) (b := b) (t := t) (r := r) hN n 0 N (kSl α 13 []) [] h1 (hF.ch hm w1 (by decide) (by decide) (by decide) hf1) hm d26 ⟨v.1, rfl, v.2.2⟩ rfl (fun p hp => by cases hp) (by omega) (by have := hF.2.2.1; omega) (fun δ ty' g1 g2 g3 g4 g5 => ?_) (fun δ g1 g2 => ⟨g1, fk.wk (w1.tr g2)⟩)
    have w2 := w1.tr g2
    rw [cut0 g1 (by decide)]
    have t3 : tT K (kSl δ 15 []) := g1.sl (by decide) (Nat.zero_le _)
    have c3 : ch [2, 3, 4, 6, 100, 24] [2, 3, 4, 12, 13, 14, 15] α (kSl δ 15 []) := (w2.mo (by decide) (by decide)).tr (ch.rs (by decide))
    have hf3 : ∀ k, fc (kSl δ 15 []) k 1 = fc α k 1 := fun k => by unfold fc; rw [c3.row (by decide) (by decide)]
    have he3 : eI c K m (kSl δ 15 []) := he.ch c3 (by decide) (by decide)
    have hF3 := hF.ch hm c3 (by decide) (by decide) (by decide) hf3
    have hD3 := hD.ch hF h t3 hm c3 (by decide) (by decide) (by decide) (by decide) (by decide) hf3
    have hm3 := he3.2.2.2.1
    have hn3 := t3.1.1.n.2.1
    obtain ⟨m1, m2, m3⟩ := hF3.bm hlt hm3 (by omega)
    have emt : f_Fam_memberTerm ((kSl δ 15 []).1 31) (kSl δ 15 []) = nI (mbt (kSl δ 15 []) fam at') := by
      unfold f_Fam_memberTerm
      rw [hD3.1, hD3.2.2.2.2.2.1, nI_1, nI_add, fact_l (k := fam + 1 + at') (w := 1) t3 (by omega) (by decide) 1 rfl]
      exact m1
    rw [emt]
    have v3 : vw (kSl δ 15 []) [(nI 33, a, b, t, nI 0)] ty' r := ⟨g3.1, g3.2.1, g3.2.2⟩
    refine (rewrite_f (m' := 4) (by omega) t3 (by decide) (show mbt (kSl δ 15 []) fam at' < _ by omega) (fun y => absurd y (by decide))).bv (fun x ε u => ?_) (fun ε u => ⟨u.1, fk.of (c3.tr (u.2.mo (by decide) (by decide))) (by decide) (by decide) (by decide)⟩)
    obtain ⟨u1, u2, rt, rfl, u3, u4, u5⟩ := u
    have us := u5 (Or.inr (Or.inl rfl))
    obtain ⟨X, eX⟩ : ∃ X, X = kSi ε 32 (nI rt) := ⟨_, rfl⟩
    have hX : tT K X := by rw [eX]; exact u1.si (by decide)
    have cX : ch [2, 3, 4, 6, 100, 32] [2, 3, 4] (kSl δ 15 []) X := by rw [eX]; exact (u2.mo (by decide) (by decide)).tr (ch.si (by decide) (by decide))
    obtain ⟨Y, eY, y1, y2, y3⟩ := set0 hX (v3.ch cX (by decide) (by decide) (by decide)) 34
    show tV (some (some none, f_Fra_set 0 34 (kSi ε 32 (nI rt)))) _ _
    rw [← eX, eY]
    have cY : ch [2, 3, 4, 6, 100, 24, 32] [2, 3, 4, 12, 13, 14] (kSl δ 15 []) Y := (cX.mo (by decide) (by decide)).tr (y2.mo (by decide) (by decide))
    have hfY : ∀ k, fc Y k 1 = fc (kSl δ 15 []) k 1 := fun k => by unfold fc; rw [cY.row (by decide) (by decide)]
    have gE : grw ε Y := (show grw ε X by rw [eX]; exact (ch.si (I := [32]) (R := []) (by decide) (by decide)).2.2).tr y2.2.2
    have Y32 : Y.1 32 = nI rt := by rw [y2.int (by decide), eX]; rfl
    have hm4 : nK (kSl δ 15 []) (mbt (kSl δ 15 []) fam at') ≠ 9 := m3
    have c5 : fk fam α Y := (fk.of c3 (by decide) (by decide) (by decide)).tr (fk.of cY (by decide) (by decide) (by decide))
    have hlm := hF.2.2.1
    refine tV.ret ⟨⟨n, 34, by decide, by decide, y1, he3.ch cY (by decide) (by decide), SI.bot y3 (by decide) (by decide) (tvp.bot (by decide) g4 (by omega) (g5.g ((show grw δ (kSl δ 15 []) from grw.rf).tr cY.2.2))), fun _ => hF3.ch hm3 cY (by decide) (by decide) (by decide) hfY, fun y => by omega, fun _ => ⟨q, at', hD3.ch hF3 t3 y1 hm3 cY (by decide) (by decide) (by decide) (by decide) (by decide) hfY, hlt, ?_, fun y => by omega⟩, fun y => by omega, fun y => by omega⟩, c5⟩
    have e9 : mbt Y fam at' = mbt (kSl δ 15 []) fam at' := by unfold mbt; rw [hfY]
    have gR : rt < tn Y := Nat.lt_of_lt_of_le u3 gE.1
    have hdt : nD Y rt = nD ε rt := (g_n gE u3).2.2.1
    have hsd := us.dp u1.1.1 u1.2.1 (Nat.lt_of_lt_of_le (show mbt (kSl δ 15 []) fam at' < tn (kSl δ 15 []) by omega) u2.2.2.1) u3
    have hd2 := (u1.2.1 rt u3).2.2.1.2
    refine ⟨mbt (kSl δ 15 []) fam at', [], rt, Y32, ⟨gR, ?_⟩, e9.symm, ?_, ?_, ?_, ?_, by show n = n + 0; omega, fun d hd => by cases hd⟩
    · rw [(g_n gE u3).1]
      exact fun y => m3 (u4.mp y)
    · exact Nat.lt_of_lt_of_le (show mbt (kSl δ 15 []) fam at' < tn (kSl δ 15 []) by omega) cY.2.2.1
    · exact us.g u1.1.1 u1.2.1 gE (Nat.lt_of_lt_of_le (show mbt (kSl δ 15 []) fam at' < tn (kSl δ 15 []) by omega) u2.2.2.1) u3
    · rw [cY.row (by decide) (by decide)]; rfl
    · show 0 + nD Y rt ≤ 200
      omega
theorem memberTyped_ok (B : Bot c K m fam n M yv 36 α a b t ty r) : LO c K m fam n M α (f_Fam_memberTyped α) := by
  obtain ⟨h, he, v, ht, hz⟩ := B
  have hF := hz.1 (by decide)
  obtain ⟨q, at', hD, hlt, hGM⟩ := hz.2.2.2.1 rfl
  have hm := he.2.2.2.1
  have hn' := h.1.1.n.2.1
  have hc := hF.2.1
  have hc3 := he.2.1
  obtain ⟨X, eX⟩ : ∃ X, X = kSi α 31 (α.1 31 + 1) := ⟨_, rfl⟩
  have hX : tT K X := by rw [eX]; exact h.si (by decide)
  have cX : ch [31] [] α X := by rw [eX]; exact ch.si (by decide) (by decide)
  obtain ⟨Y, eY, y1, y2, y3⟩ := set0 hX (v.ch cX (by decide) (by decide) (by decide)) 33
  unfold f_Fam_memberTyped
  rw [← eX, eY]
  have cY : ch [2, 3, 4, 6, 100, 24, 31] [2, 3, 4, 12, 13, 14] α Y := (cX.mo (by decide) (by decide)).tr (y2.mo (by decide) (by decide))
  have hfY : ∀ k, fc Y k 1 = fc α k 1 := fun k => by unfold fc; rw [cY.row (by decide) (by decide)]
  have Y31 : Y.1 31 = nI (at' + 1) := by
    rw [y2.int (by decide), eX]
    show α.1 31 + 1 = _
    rw [hD.2.2.2.2.2.1, nI_1]
  have emt : ∀ i, mbt Y fam i = mbt α fam i := fun i => by unfold mbt; rw [hfY]
  obtain ⟨d25, d26, d27, d27', d28, d31, d31', dG⟩ := id hD
  refine ⟨⟨yv, 33, by decide, by decide, y1, he.ch cY (by decide) (by decide), SI.bot y3 (by decide) (by decide) ((ht.op (by decide) (by decide)).g cY.2.2), fun _ => hF.ch hm cY (by decide) (by decide) (by decide) hfY, fun _ => ⟨q, at' + 1, (cY.int (by decide)).trans d25, (cY.int (by decide)).trans d26, (cY.int (by decide)).trans d27, d27', (cY.int (by decide)).trans d28, Y31, by omega, fun i hi => ?_⟩, fun y => by omega, fun y => by omega, fun y => by omega⟩, fk.of cY (by decide) (by decide) (by decide)⟩
  rw [emt]
  obtain ⟨-, z, -⟩ := hF.bm (i := i) (by omega) hm (by omega)
  refine (GM_g h.1.1 h.2.1 y1.1.1 cY.2.2 (by omega)).mpr ?_
  rcases Nat.lt_or_ge i at' with y | y
  · exact dG i y
  · rw [show i = at' by omega]; exact hGM
end FAMP
