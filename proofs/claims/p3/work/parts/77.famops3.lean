-- the turns of a family's tests: ARGUMENTS
section FAMQ
variable {N c K m fam n M yv : Nat} {α : kS} {a b t r : Int32} {ty : List Int32}
theorem argument_ok (hN : 2 ^ 31 ≤ N) (B : Bot c K m fam n M yv 34 α a b t ty r) : tV (f_Fam_argument N α) (LO c K m fam n M α) (LX K fam α) := by
  obtain ⟨h, he, v, ht, hz⟩ := B
  have hF := hz.1 (by decide)
  obtain ⟨q, at', hD, hlt, hA, -⟩ := hz.2.2.1 (Or.inl rfl)
  obtain ⟨d25, d26, d27, d27', d28, d31, d31', dG⟩ := id hD
  obtain ⟨s, L, rt, b1, b2, b3, b4, b5, b6, b7, b8, b9⟩ := id hA
  have hm := he.2.2.2.1
  have hn' := h.1.1.n.2.1
  have hc3 := he.2.1
  have hcM := hF.2.1
  have hn200 := hF.2.2.1
  obtain ⟨-, mlt, -⟩ := hF.bm hlt hm (by omega)
  unfold f_Fam_argument
  rw [b1]
  refine tV.ite (fun k6 => ?_) (fun k6 => ?_)
  · have ql := (part_q h.1.1 h.2.1 (k := 6) (by decide) (by decide) k6).1
    obtain ⟨β, e, g1, g2, g3⟩ := famS (N := N) (n' := 35) h v (by decide) (Or.inr (Or.inl rfl)) ql ht
    rw [show f_Fam_sortOf N 35 (f_Terms_left (nI rt) α) α = some (some none, β) from e, kBv_s]
    have hf : ∀ k, fc β k 1 = fc α k 1 := fun k => by unfold fc; rw [g2.row (by decide) (by decide)]
    refine tV.ret ⟨⟨yv, 35, by decide, by decide, g1, he.ch g2 (by decide) (by decide), g3, fun _ => hF.ch hm g2 (by decide) (by decide) (by decide) hf, fun y => by omega, fun _ => ⟨q, at', hD.ch hF h g1 hm g2 (by decide) (by decide) (by decide) (by decide) (by decide) hf, hlt, hA.ch h g1 g2 (by omega) (by decide) (by decide) hf, fun _ => ?_⟩, fun y => by omega, fun y => by omega⟩, fk.wk g2⟩
    rw [g2.int (by decide), b1, kd_g h.1.1 g1.1.1 g2.2.2 b2.1]
    exact k6
  · obtain ⟨x, β, e, t1, c1, hx⟩ := ends_ok (N := N) hN h b2 d26 d27 (by omega) (by omega)
    rw [e, kBi_s]
    have c1' : fk fam α β := fk.of c1 (by decide) (by decide) (by decide)
    refine tV.ite (fun _ => fail_f N 8 t1 c1') (fun x0 => ?_)
    have hae := hx x0
    -- the TERM is a CONSTRUCTOR's
    have hGM : GM α (nI fam) (n + q) (mbt α fam at') := by
      have h6 : nK α s ≠ 6 := fun y => by
        rcases b5.kd with z | ⟨-, z, -⟩
        · omega
        · exact k6 (by rw [kd_at h.1.1 b2.1, z, y]; rfl)
      exact ⟨L, s, pcs_end L _ s b3 h6, sh_aP h.1.1 h.2.1 _ rt s b2.1 b4 b5.sm hae, fun d hd => (b9 d hd).2⟩
    have hf1 : ∀ k, fc β k 1 = fc α k 1 := fun k => by unfold fc; rw [c1.row (by decide) (by decide)]
    have he1 : eI c K m β := he.ch c1 (by decide) (by decide)
    have i25 : β.1 25 = nI fam := (c1.int (by decide)).trans d25
    have i31 : β.1 31 = nI at' := (c1.int (by decide)).trans d31
    have l15 : (β.2.1 15).length = L.length := by rw [c1.row (by decide) (by decide)]; exact b6
    have dr := (h.2.1 rt b2.1).2.2.1.1
    have eat : ∀ γ : kS, γ.1 25 = nI fam → γ.1 31 = nI at' → f_Fam_constantAt γ = nI (fam + 1 + at') := fun γ y1 y2 => by
      unfold f_Fam_constantAt
      rw [y1, y2, nI_1, nI_add]
    obtain ⟨β2, e2, t2, i2, k2, c2, -, f2⟩ := fix_t (k := fam + 1 + at') (w := 8) (x := 8) (v := nI fam) (c0 := fam) t1 he1 (by omega) (by omega) (by decide) rfl (Or.inr (Or.inr (Or.inl ⟨rfl, fam, rfl, by omega⟩)))
    obtain ⟨β3, e3, t3, i3, k3, c3, -, f3⟩ := fix_t (k := fam + 1 + at') (w := 6) (x := 6) (v := nI L.length) (c0 := fam) t2 i2 (by omega) (by omega) (by decide) rfl (Or.inr (Or.inl ⟨rfl, L.length, rfl, by omega⟩))
    have c23 : ch [] [5] β β3 := c2.tr c3
    have k03 : fk fam α β3 := c1'.tr (k2.tr k3)
    have hf3 : ∀ k, fc β3 k 1 = fc α k 1 := fun k => by rw [f3, f2, hf1]
    have c03 : ch [] [2, 3, 5] α β3 := (c1.mo (by decide) (by decide)).tr (c23.mo (by decide) (by decide))
    -- the whole type is looked at
    have j120 : ∀ γ, tT K γ → eI c K m γ → ch [2, 3, 4, 6, 100] [2, 3, 5] α γ → fk fam α γ → (∀ k, fc γ k 1 = fc α k 1) → tV (f_Fam_argument_j120 N γ) (LO c K m fam n M α) (LX K fam α) := by
      intro γ tγ iγ cγ kγ fγ
      have hmγ := iγ.2.2.2.1
      have hnγ := tγ.1.1.n.2.1
      unfold f_Fam_argument_j120 f_Fra_dropVariables
      rw [cut0 tγ (by decide)]
      have t4 : tT K (kSl γ 13 []) := tγ.sl (by decide) (Nat.zero_le _)
      have c4 : ch [2, 3, 4, 6, 100] [2, 3, 5, 13] α (kSl γ 13 []) := (cγ.mo (by decide) (by decide)).tr (ch.rs (by decide))
      have k4 : fk fam α (kSl γ 13 []) := kγ.tr (fk.of (ch.rs (I := []) (R := [13]) (by decide)) (by decide) (by decide) (by decide))
      have f4 : ∀ k, fc (kSl γ 13 []) k 1 = fc α k 1 := fγ
      have hF4 := hF.ch hm c4 (by decide) (by decide) (by decide) f4
      have i4 : eI c K m (kSl γ 13 []) := iγ.ch (ch.rs (I := []) (R := [13]) (by decide)) (by decide) (by decide)
      obtain ⟨m1, m2, m3⟩ := hF4.bm hlt hmγ (by show tn γ < _; omega)
      have emt : f_Fam_memberTerm ((kSl γ 13 []).1 31) (kSl γ 13 []) = nI (mbt (kSl γ 13 []) fam at') := by
        unfold f_Fam_memberTerm
        rw [show (kSl γ 13 []).1 25 = nI fam from (c4.int (by decide)).trans d25, show (kSl γ 13 []).1 31 = nI at' from (c4.int (by decide)).trans d31, nI_1, nI_add, fact_l (k := fam + 1 + at') (w := 1) t4 (by omega) (by decide) 1 rfl]
        exact m1
      rw [emt]
      refine (over_ok hN t4 (fun p hp => (hF4.2.2.2.2.2.1 p hp).q hmγ) (x := mbt (kSl γ 13 []) fam at') ⟨by show _ < tn γ; omega, m3⟩).bv (fun w δ u => ?_) (fun δ u => ⟨u.1, k4.tr (fk.of u.2 (by decide) (by decide) (by decide))⟩)
      obtain ⟨u1, u2, j, rfl, u3, -⟩ := u
      have c5 : ch [2, 3, 4, 6, 100] [2, 3, 5, 13] α δ := c4.tr (u2.mo (by decide) (by decide))
      have v5 : vw δ [(nI 34, a, b, t, nI 0)] [] r := ⟨(c5.row (by decide) (by decide)).trans v.1, (u2.row (by decide) (by decide)).trans rfl, (c5.int (by decide)).trans v.2.2⟩
      obtain ⟨ε, e5, g1, g2, g3⟩ := famS (N := N) (n' := 36) u1 v5 (by decide) (Or.inr (Or.inr rfl)) ⟨j, rfl, u3⟩ (tvp.bot (yv := 0) (by decide) rfl (by omega) (fun p hp => by cases hp))
      rw [show f_Fam_sortOf N 36 (nI j) δ = some (some none, ε) from e5, kBv_s]
      have c6 : ch [2, 3, 4, 6, 100, 24] [2, 3, 4, 5, 12, 13, 14] α ε := (c5.mo (by decide) (by decide)).tr (g2.mo (by decide) (by decide))
      have c46 : ch [2, 3, 4, 6, 100, 24] [2, 3, 4, 12, 13, 14] (kSl γ 13 []) ε := (u2.mo (by decide) (by decide)).tr g2
      have f6 : ∀ k, fc ε k 1 = fc α k 1 := fun k => by
        have : fc ε k 1 = fc (kSl γ 13 []) k 1 := by unfold fc; rw [c46.row (by decide) (by decide)]
        rw [this]; exact f4 k
      refine tV.ret ⟨⟨0, 36, by decide, by decide, g1, i4.ch c46 (by decide) (by decide), g3, fun _ => hF.ch hm c6 (by decide) (by decide) (by decide) f6, fun y => by omega, fun y => by omega, fun _ => ⟨q, at', hD.ch hF h g1 hm c6 (by decide) (by decide) (by decide) (by decide) (by decide) f6, hlt, ?_⟩, fun y => by omega⟩, k4.tr (fk.of c46 (by decide) (by decide) (by decide))⟩
      rw [show mbt ε fam at' = mbt α fam at' by unfold mbt; rw [f6]]
      exact (GM_g h.1.1 h.2.1 g1.1.1 c6.2.2 (by omega)).mpr hGM
    unfold f_Fam_argument_j54
    rw [eat β i25 i31, i25, e2, eat β2 ((c2.int (by decide)).trans i25) ((c2.int (by decide)).trans i31)]
    have es : fR_size β2 15 = nI L.length := by unfold fR_size; rw [c2.row (by decide) (by decide), l15]
    rw [es, e3]
    refine tV.ite (fun _ => ?_) (fun _ => j120 β3 t3 i3 (c03.mo (by decide) (by decide)) k03 hf3)
    refine (isdet_go (N := N) hN (q := q) (by omega) L.length 0 N β3 t3 ((c03.int (by decide)).trans d27) (by rw [c23.row (by decide) (by decide), l15]; omega) (by omega)).bv (fun w δ u => ?_) (fun δ u => ⟨u.1, k03.tr (fk.of u.2 (by decide) (by decide) (by decide))⟩)
    obtain ⟨u1, u2⟩ := u
    have cδ : ch [2, 3, 4, 6, 100] [2, 3, 5] α δ := (c03.mo (by decide) (by decide)).tr (u2.mo (by decide) (by decide))
    have iδ : eI c K m δ := i3.ch u2 (by decide) (by decide)
    have kδ : fk fam α δ := k03.tr (fk.of u2 (by decide) (by decide) (by decide))
    have fδ : ∀ k, fc δ k 1 = fc α k 1 := fun k => by
      have : fc δ k 1 = fc β3 k 1 := by unfold fc; rw [u2.row (by decide) (by decide)]
      rw [this]; exact hf3 k
    refine tV.ite (fun _ => j120 δ u1 iδ cδ kδ fδ) (fun _ => ?_)
    obtain ⟨β4, e4, t4, i4, k4, c4, -, f4⟩ := fix_t (k := fam) (w := 9) (x := 9) (v := 1) (c0 := fam) u1 iδ (by omega) (Nat.le_refl _) (by decide) rfl (Or.inr (Or.inr (Or.inr (Or.inr rfl))))
    rw [show δ.1 25 = nI fam from (cδ.int (by decide)).trans d25, e4]
    exact j120 β4 t4 i4 (cδ.tr (c4.mo (by decide) (by decide))) (kδ.tr k4) (fun k => by rw [f4, fδ])
theorem tested_ok (hN : 2 ^ 31 ≤ N) (B : Bot c K m fam n M yv 35 α a b t ty r) : tV (f_Fam_argumentTested N α) (LO c K m fam n M α) (LX K fam α) := by
  obtain ⟨h, he, v, ht, hz⟩ := B
  have hF := hz.1 (by decide)
  obtain ⟨q, at', hD, hlt, hA, hk6⟩ := hz.2.2.1 (Or.inr rfl)
  have hk6 := hk6 rfl
  obtain ⟨d25, d26, d27, d27', d28, d31, d31', dG⟩ := id hD
  obtain ⟨s, L, rt, b1, b2, b3, b4, b5, b6, b7, b8, b9⟩ := id hA
  have hm := he.2.2.2.1
  have hn' := h.1.1.n.2.1
  have hc3 := he.2.1
  have hcM := hF.2.1
  have hn200 := hF.2.2.1
  obtain ⟨-, mlt, -⟩ := hF.bm hlt hm (by omega)
  rw [b1] at hk6
  have k6 : nK α rt = 6 := kd_is h.1.1 b2.1 (k := 6) (by decide) hk6
  obtain ⟨e1, e2, hl, hr, h9, h8, -, hdd⟩ := partsN h.1.1 h.2.1 b2.1 (by omega)
  rw [if_neg (by omega), if_neg (by omega)] at hdd
  have hb2 := b2.1
  have dmin := (h.2.1 (rtN α rt) (by omega)).2.2.1.1
  rcases b5.kd with z | ⟨z1, z2, zl, zr⟩
  · omega
  have k6s : nK α s = 6 := by omega
  obtain ⟨-, -, hls, hrs, -⟩ := partsN h.1.1 h.2.1 b4 (by omega)
  have qd : qT α (lfN α rt) := ⟨by omega, h9⟩
  have qr : qT α (rtN α rt) := ⟨by omega, fun y => by have := h8.mp y; omega⟩
  obtain ⟨htl, hty, htq⟩ := ht.all (by decide)
  have eat : ∀ γ : kS, γ.1 25 = nI fam → γ.1 31 = nI at' → f_Fam_constantAt γ = nI (fam + 1 + at') := fun γ y1 y2 => by
    unfold f_Fam_constantAt
    rw [y1, y2, nI_1, nI_add]
  -- the ARGUMENT is taken
  have j107 : ∀ (y2 : Int32) (γ : kS), tT K γ → eI c K m γ → ch [] [2, 3, 5] α γ → fk fam α γ → (∀ k, fc γ k 1 = fc α k 1) → (hc α (nI fam) (lfN α rt) → eN α (n + q) (lfN α rt)) → tV (f_Fam_argumentTested_j107 N y2 (nI (lfN α rt)) γ) (LO c K m fam n M α) (LX K fam α) := by
    intro y2 γ tγ iγ cγ kγ fγ hrec
    unfold f_Fam_argumentTested_j107
    have l15 : (γ.2.1 15).length = L.length := by rw [cγ.row (by decide) (by decide)]; exact b6
    obtain ⟨M1, e3, t3⟩ := push_t (r := 15) y2 tγ (by decide) (by rw [show kMx 15 = 256 by decide, l15]; omega)
    rw [e3, kBv_s]
    obtain ⟨δ, eδ⟩ : ∃ δ, δ = kRs γ 15 (γ.2.1 15 ++ [y2]) M1 := ⟨_, rfl⟩
    rw [← eδ]
    rw [← eδ] at t3
    have cδ' : ch [] [15] γ δ := by rw [eδ]; exact ch.rs (by decide)
    have r15 : δ.2.1 15 = γ.2.1 15 ++ [y2] := by rw [eδ]; rfl
    have cδ : ch [] [2, 3, 5, 15] α δ := (cγ.mo (by decide) (by decide)).tr (cδ'.mo (by decide) (by decide))
    have kδ : fk fam α δ := kγ.tr (fk.of cδ' (by decide) (by decide) (by decide))
    have iδ : eI c K m δ := iγ.ch cδ' (by decide) (by decide)
    have vδ : vw δ [(nI 35, a, b, t, nI 0)] ty r := v.ch cδ (by decide) (by decide) (by decide)
    refine var_ok (by omega) t3 vδ (by omega) (nI (lfN α rt)) (fun j ε g1 g2 g3 g4 g5 => ?_) (fun ε g1 g2 => ⟨g1, kδ.tr (fk.wk g2)⟩)
    have cε : ch [2, 3, 4, 6, 100, 24] [2, 3, 4, 5, 12, 13, 14, 15] α ε := (cδ.mo (by decide) (by decide)).tr (g2.mo (by decide) (by decide))
    rw [show ε.1 32 = nI rt from (cε.int (by decide)).trans b1]
    have er : f_Terms_right (nI rt) ε = nI (rtN α rt) := by
      rw [rt_in g1.1.1 (Nat.lt_of_lt_of_le b2.1 cε.2.2.1), (g_n cε.2.2 b2.1).2.2.2.2.2, e2]
    rw [er]
    have hk1 : nK ε j < 5 := by omega
    refine (rewrite_ok (m' := 0) (by omega) g1 (by decide) (show rtN α rt < tn ε from Nat.lt_of_lt_of_le (by omega) cε.2.2.1) (fun _ => ⟨j, rfl, g4⟩)).bv (fun x ζ u => ?_) (fun ζ u => ⟨u.1, (kδ.tr (fk.wk g2)).tr (fk.of u.2 (by decide) (by decide) (by decide))⟩)
    obtain ⟨u1, u2, rt', rfl, u3, u4, u5⟩ := u
    have us : sh ζ (rtN α rt) rt' := u5 (Or.inr (Or.inr ⟨rfl, j, rfl, g4.1, by omega, by omega⟩))
    obtain ⟨X, eX⟩ : ∃ X, X = kSi ζ 32 (nI rt') := ⟨_, rfl⟩
    have hX : tT K X := by rw [eX]; exact u1.si (by decide)
    have cX : ch [2, 3, 4, 6, 32] [2, 3, 4] ε X := by rw [eX]; exact (u2.mo (by decide) (by decide)).tr (ch.si (by decide) (by decide))
    obtain ⟨Y, eY, y1, y2', y3⟩ := set0 hX (g3.ch cX (by decide) (by decide) (by decide)) 34
    show tV (some (some none, f_Fra_set 0 34 (kSi ζ 32 (nI rt')))) _ _
    rw [← eX, eY]
    have cY : ch [2, 3, 4, 6, 100, 24, 32] [2, 3, 4, 12, 13, 14] ε Y := (cX.mo (by decide) (by decide)).tr (y2'.mo (by decide) (by decide))
    have cδY : ch [2, 3, 4, 6, 100, 24, 32] [2, 3, 4, 12, 13, 14] δ Y := (g2.mo (by decide) (by decide)).tr cY
    have cA : ch [2, 3, 4, 6, 100, 24, 32] [2, 3, 4, 5, 12, 13, 14, 15] α Y := (cε.mo (by decide) (by decide)).tr (cY.mo (by decide) (by decide))
    have fY : ∀ k, fc Y k 1 = fc α k 1 := fun k => by
      have : fc Y k 1 = fc γ k 1 := by unfold fc; rw [cδY.row (by decide) (by decide), cδ'.row (by decide) (by decide)]
      rw [this]; exact fγ k
    have gE : grw ζ Y := (show grw ζ X by rw [eX]; exact (ch.si (I := [32]) (R := []) (by decide) (by decide)).2.2).tr y2'.2.2
    have gα : grw α ζ := cε.2.2.tr u2.2.2
    have Y32 : Y.1 32 = nI rt' := by rw [y2'.int (by decide), eX]; rfl
    have hrt1 : rtN α rt < tn ζ := Nat.lt_of_lt_of_le qr.1 gα.1
    have hrs1 : rtN α s < tn ζ := Nat.lt_of_lt_of_le (by omega) gα.1
    have hsd := us.dp u1.1.1 u1.2.1 hrt1 u3
    rw [(g_n gα qr.1).2.2.1] at hsd
    refine tV.ret ⟨⟨yv + 1, 34, by decide, by decide, y1, iδ.ch cδY (by decide) (by decide), SI.bot y3 (by decide) (by decide) (tvp.bot (by decide) (by rw [List.length_append]; show ty.length + 1 = yv + 1; omega) (by omega) ?_), fun _ => hF.ch hm cA (by decide) (by decide) (by decide) fY, fun y => by omega, fun _ => ⟨q, at', hD.ch hF h y1 hm cA (by decide) (by decide) (by decide) (by decide) (by decide) fY, hlt, ?_, fun y => by omega⟩, fun y => by omega, fun y => by omega⟩, (kδ.tr (fk.wk g2)).tr (fk.of cY (by decide) (by decide) (by decide))⟩
    · intro p hp
      rcases List.mem_append.mp hp with hp | hp
      · exact (htq p hp).g cA.2.2
      · rw [List.mem_singleton.mp hp]; exact ⟨_, rfl, qd.g cA.2.2⟩
    · have e9 : mbt Y fam at' = mbt α fam at' := by unfold mbt; rw [fY]
      refine ⟨rtN α s, L ++ [lfN α s], rt', Y32, ⟨Nat.lt_of_lt_of_le u3 gE.1, ?_⟩, ?_, Nat.lt_of_lt_of_le (by omega) cA.2.2.1, ?_, ?_, ?_, ?_, ?_⟩
      · rw [(g_n gE u3).1]
        intro y
        have := u4.mp y
        rw [(g_n cε.2.2 qr.1).1] at this
        exact qr.2 this
      · rw [e9]
        exact pcs_g h.1.1 h.2.1 cA.2.2 _ _ _ (by omega) (pcs_add L _ s b3 k6s)
      · refine ((zr.g h.1.1 h.2.1 gα (by omega) qr.1).tr us).g u1.1.1 u1.2.1 gE hrs1 u3
      · rw [cδY.row (by decide) (by decide), r15, List.length_append, List.length_append, l15]
        rfl
      · rw [List.length_append, (g_n gE u3).2.2.1]
        show L.length + 1 + _ ≤ 200
        omega
      · rw [List.length_append]
        show _ = n + (L.length + 1)
        omega
      · intro d hd
        have tr : ∀ d, d < tn α → (hc α (nI fam) d → eN α (n + q) d) → d < tn Y ∧ (hc Y (nI fam) d → eN Y (n + q) d) := fun d d1 d2 => ⟨Nat.lt_of_lt_of_le d1 cA.2.2.1, fun y => (eN_g h.1.1 h.2.1 y1.1.1 cA.2.2 d1).mpr (d2 ((hc_g h.1.1 h.2.1 cA.2.2 d d1).mp y))⟩
        rcases List.mem_append.mp hd with hd | hd
        · obtain ⟨d1, d2⟩ := b9 d hd
          exact tr d d1 d2
        · rw [List.mem_singleton.mp hd]
          exact tr _ (by omega) (fun y => eN_sh h.1.1 h.2.1 qd.1 (by omega) zl.sm (hrec (zl.hc.mp y)))
  have j44 : tV (f_Fam_argumentTested_j44 N (f_Fra_result α) (nI (lfN α rt)) α) (LO c K m fam n M α) (LX K fam α) := by
    unfold f_Fam_argumentTested_j44
    obtain ⟨x, β, e3, t3, c3, -, hx⟩ := has_ok (N := N) (x2 := 3) (x3 := α.1 25) (by omega) h qd.1
    rw [e3, kBi_s]
    have hx := hx rfl
    rw [d25] at hx
    have fβ : ∀ k, fc β k 1 = fc α k 1 := fun k => by unfold fc; rw [c3.row (by decide) (by decide)]
    have kβ : fk fam α β := fk.of c3 (by decide) (by decide) (by decide)
    refine tV.ite (fun x0 => j107 _ β t3 (he.ch c3 (by decide) (by decide)) (c3.mo (by decide) (by decide)) kβ fβ (fun y => absurd x0 (hx.mpr y))) (fun _ => ?_)
    obtain ⟨w, γ, e4, t4, c4, hw⟩ := isrec_ok (N := N) (n := n) (q := q) hN t3 (qd.g c3.2.2) ((c3.int (by decide)).trans d26) ((c3.int (by decide)).trans d27) (by omega) (by omega)
    rw [e4, kBi_s]
    have cγ : ch [] [2, 3] α γ := c3.tr c4
    have kγ : fk fam α γ := fk.of cγ (by decide) (by decide) (by decide)
    refine tV.ite (fun _ => fail_f N 8 t4 kγ) (fun w0 => ?_)
    have hen : eN α (n + q) (lfN α rt) := (eN_g h.1.1 h.2.1 t3.1.1 c3.2.2 qd.1).mp (hw w0)
    unfold f_Fam_argumentTested_j77
    rw [eat γ ((cγ.int (by decide)).trans d25) ((cγ.int (by decide)).trans d31)]
    obtain ⟨β5, e5, t5, i5, k5, c5, -, f5⟩ := fix_t (k := fam + 1 + at') (w := 7) (x := 7) (v := f_Env_fact (nI (fam + 1 + at')) 7 γ + 1) (c0 := fam) t4 (he.ch cγ (by decide) (by decide)) (by omega) (by omega) (by decide) rfl (Or.inr (Or.inr (Or.inr (Or.inl rfl))))
    rw [e5]
    exact j107 _ β5 t5 i5 ((cγ.mo (by decide) (by decide)).tr (c5.mo (by decide) (by decide))) (kγ.tr k5) (fun k => by rw [f5]; unfold fc; rw [cγ.row (by decide) (by decide)]) (fun _ => hen)
  unfold f_Fam_argumentTested
  have el : f_Terms_left (α.1 32) α = nI (lfN α rt) := by rw [b1, lf_in h.1.1 b2.1, e1]
  rw [el]
  exact tV.ite (fun _ => j44) (fun _ => tV.ite (fun _ => j44) (fun _ => fail_f N 7 h fk.rf))
end FAMQ
