-- the parser's turns: ends of groups and bodies
section PAROPS4
variable {N c0 c K nb s : Nat} {α0 α : kS} {O : List O3}
/-- a body, or a family's type, is to come -/
theorem body_ok (hN : 2 ^ 31 ≤ N) {g : O3} {gs : List O3} {β : kS} (q : PQ c0 α0 c K nb 3 (g :: gs) β) (hg : g.1 = nI 8) (e14 : β.1 14 = nI (ns true (g :: gs))) (hns : ns true (g :: gs) ≤ 100) : tV (kBv (f_Par_startBody N β) fun δ => some (some none, δ)) (PI c0 α0) (PX c0 α0) := by
  refine tV.bv (Pv := PI c0 α0) (Px := PX c0 α0) ?_ (fun δ y => tV.ret y) (fun δ y => y)
  obtain ⟨a1, a2, a3, a4, a5, a6, a7⟩ := id q
  obtain ⟨⟨n, h1, h2, h3⟩, hpo⟩ := a5
  have : n = 8 := (nI_eq (by omega) (by omega)).mp (h1.symm.trans hg)
  subst this
  obtain ⟨⟨k, ek, hk⟩, hor⟩ := h3
  have h7 : decide (g.1 = (7 : Int32)) = false := by rw [hg]; rfl
  have hn1 : ns true (g :: gs) = ns false gs := by
    show nsf true g.1 + ns (decide (g.1 = 7)) gs = _
    rw [h7, hg, show nsf true (nI 8) = 0 from rfl, Nat.zero_add]
  have hn2 : ns false (g :: gs) = ns false gs + 1 := by
    show nsf false g.1 + ns (decide (g.1 = 7)) gs = _
    rw [h7, hg, show nsf false (nI 8) = 1 from rfl, Nat.add_comm]
  unfold f_Par_startBody
  rw [held1 a1.1 a3]
  have j47 : ∀ t0, (g.2.1 = 6 ∨ g.2.1 = 7) → gs ≠ [] → tV (f_Par_startBody_j47 N t0 β) (PI c0 α0) (PX c0 α0) := by
    intro t0 hb hgs
    unfold f_Par_startBody_j47
    refine a1.expect N t0 ?_
    have qa := q.adv
    have ca := (adv_t a1.1).2
    obtain ⟨γ, eγ⟩ : ∃ γ, γ = kSi (kSi (f_Lex_advance β) 14 ((f_Lex_advance β).1 14 + 1)) 13 1 := ⟨_, rfl⟩
    show tV (some (some none, kSi (kSi (f_Lex_advance β) 14 ((f_Lex_advance β).1 14 + 1)) 13 1)) _ _
    rw [← eγ]
    refine tV.ret ⟨c, K, nb, 1, g :: gs, by rw [eγ]; exact ((qa.st (by simp)).si (by omega)).si (by omega), by rw [eγ]; rfl, by omega, ?_, ?_, fun y => by omega, fun _ => by simp, fun _ g' hg' h8 => ?_, fun y => by omega, fun y => by omega, fun y => by omega⟩
    · rw [eγ]
      show (f_Lex_advance β).1 14 + 1 = nI (ns false (g :: gs))
      rw [ca.int (by decide), e14, hn1, hn2, nI_1]
    · show ns false (g :: gs) ≤ 101
      omega
    · have : g' = g := by simpa using hg'.symm
      rw [this]
      rcases hb with z | z <;> rw [z] <;> decide
  refine tV.ite (fun b0 => ?_) (fun b0 => ?_)
  · have hgs : gs = [] := by
      rcases hor with ⟨z, -⟩ | ⟨-, z⟩
      · rw [b0] at z; exact absurd z (by decide)
      · exact z
    subst hgs
    obtain ⟨δ, e, t, hc, -, r8⟩ := drop_e a1.1 a3
    rw [e]
    have hE := a1.ch t hc (by decide) (by decide)
    refine hE.expect N 21 ?_
    have ca := (adv_t t).2
    have cA : ch [9, 10, 11, 12] [8] β (f_Lex_advance δ) := (hc.mo (by decide) (by decide)).tr (ca.mo (by decide) (by decide))
    obtain ⟨γ, e2, t2, c2, -, r2⟩ := hold_e (N := N) (fs := []) (adv_t t).1 ((ca.row (by decide) (by simp)).trans r8) (by decide) 15 0 0
    unfold f_Par_await
    rw [e2]
    obtain ⟨ζ, eζ⟩ : ∃ ζ, ζ = kSi γ 13 1 := ⟨_, rfl⟩
    show tV (some (some none, kSi γ 13 1)) _ _
    rw [← eζ]
    have tζ : tT K ζ := by rw [eζ]; exact t2.si (by decide)
    have cZ : ch [9, 10, 11, 12, 13] [8] β ζ := by rw [eζ]; exact (cA.mo (by decide) (by decide)).tr ((c2.mo (by decide) (by decide)).tr (ch.si (by decide) (by decide)))
    rw [ph_root hg (by decide)] at a7
    have hed : ED c0 c K (nb + k) 15 ζ := by
      rcases a7 with ⟨z, -⟩ | ⟨z, -⟩ | ⟨z, -⟩ | ⟨-, z1, z2, z3, z4, z5⟩ | ⟨z, -⟩ | ⟨z, -⟩
      · omega
      · omega
      · omega
      · exact Or.inr (Or.inr (Or.inr (Or.inl ⟨Or.inr rfl, (cZ.int (by decide)).trans z1, z2, fun y => by omega, (cZ.int (by decide)).trans z4, z5.1, by unfold fc; rw [cZ.row (by decide) (by decide)]; exact z5.2⟩)))
      · omega
      · omega
    obtain ⟨s1, s2, s3, s4, s5⟩ := a6
    have eb : sb [g] = k := by
      show sbf g + 0 = k
      unfold sbf
      rw [hg, if_pos (show nI 8 = (8 : Int32) from rfl), ek, nI_clamp (by omega), Nat.add_zero]
    have ep : sp [g] = 0 := by show spf g + 0 = 0; rw [(zf hg (by decide)).2.1 (by decide)]
    have ea : ac [g] = 0 := by show acf g + 0 = 0; rw [(zf hg (by decide)).2.2.1 (by decide)]
    rw [eb] at s2 s3 s4
    rw [ep] at s1 s4
    rw [ea] at s2
    refine tV.ret ⟨c, K, nb + k, 1, [(15, 0, 0)], ⟨a1.ch tζ cZ (by decide) (by decide), ?_, ?_, (cZ.int (by decide)).trans a4, ⟨⟨15, rfl, by omega, rfl, trivial⟩, trivial⟩, ⟨?_, ?_, ?_, ?_, ?_⟩, ?_⟩, by rw [eζ]; rfl, by omega, ?_, ?_, fun y => by omega, fun _ => by simp, fun _ g' hg' h8 => ?_, fun y => by omega, fun y => by omega, fun y => by omega⟩
    · rw [eζ]
      have : l12 γ := by unfold l12; rw [c2.int (by decide)]; exact adv_l δ
      exact this
    · rw [eζ]; exact r2
    · rw [cZ.row (by decide) (by decide), s1]; rfl
    · rw [cZ.row (by decide) (by decide), s2]; show _ = nb + k + 0 + 0; omega
    · rw [cZ.row (by decide) (by decide), s3]; show _ = nb + k + 0; omega
    · show nb + k + 0 + 0 ≤ 3000; omega
    · rw [cZ.row (by decide) (by decide)]; exact s5.g cZ.2.2
    · rw [ph_root (f := (15, 0, 0)) (n := 15) rfl (by decide)]; exact hed
    · rw [cZ.int (by decide), e14, hn1]; rfl
    · show ns false [(15, 0, 0)] ≤ 101
      decide
    · have : g' = (15, 0, 0) := by simpa using hg'.symm
      rw [this] at h8
      exact absurd h8 (by decide)
  · obtain ⟨hb, hgs, -⟩ := hor.resolve_right (fun z => b0 z.1)
    exact tV.ite (fun _ => j47 26 hb hgs) (fun _ => j47 22 hb hgs)
theorem endGroup_go (hN : 2 ^ 31 ≤ N) {g : O3} {gs : List O3} {k F : Nat} (hg : g.1 = nI 8) (hk : k ≤ 3001) (hF : F ≤ 3000) : ∀ (d i nn : Nat) (β : kS), PE c0 α0 c K β → l12 β → β.2.1 8 = flat3 (g :: gs) → β.1 18 = nI K → po β c (g :: gs) → (β.2.1 10).length = F + k → F = sp (g :: gs) → (β.2.1 9).length = nb + sb (g :: gs) + ac (g :: gs) + i → (β.2.1 11).length = nb + sb (g :: gs) + i → nb + sb (g :: gs) + (F + k) ≤ 3000 → aQ β (β.2.1 11) → ED c0 c K nb (ph 3 (g :: gs)) β → β.1 14 = nI (ns true (g :: gs)) → ns true (g :: gs) ≤ 100 → qP β (β.1 15) → i + d = k → d < nn → tV (f_Par_endGroup_71 N nn (nI i) (nI F) (nI k) β) (PI c0 α0) (PX c0 α0)
  | 0, i, nn, β, hE, l, r8, e18, hpo, h10, hFs, h9, h11, hs, q11, hed, e14, hns, hq, hi, hn => by
    obtain ⟨nn, rfl⟩ : ∃ n', nn = n' + 1 := ⟨nn - 1, by omega⟩
    rw [f_Par_endGroup_71, if_pos (nI_le (by omega) (by omega)), cut_e hE.1 (by decide) (by omega)]
    obtain ⟨γ, eγ⟩ : ∃ γ, γ = kSl β 10 ((β.2.1 10).take F) := ⟨_, rfl⟩
    rw [← eγ]
    have tγ : tT K γ := by rw [eγ]; exact hE.1.sl (by decide) (by rw [List.length_take]; omega)
    have cγ : ch [] [10] β γ := by rw [eγ]; exact ch.rs (by decide)
    have r10 : (γ.2.1 10).length = F := by rw [eγ]; show ((β.2.1 10).take F).length = F; rw [List.length_take]; omega
    have g8 : γ.2.1 8 = flat3 (g :: gs) := (cγ.row (by decide) (by decide)).trans r8
    have h3 : 3 * (gs.length + 1) < 2 ^ 20 := op_len tγ g8
    have esz : fR_size γ 8 - 1 = nI (3 * gs.length + 2) := by
      unfold fR_size
      rw [g8, flat3_len, show nI (3 * (g :: gs).length) - 1 = nI (3 * (g :: gs).length - 1) from pk_sub (b := 1) (by show 1 ≤ 3 * (gs.length + 1); omega)]
      congr 1
    obtain ⟨⟨n, h1, h2, hp⟩, hpo'⟩ := id hpo
    have : n = 8 := (nI_eq (by omega) (by omega)).mp (h1.symm.trans hg)
    subst this
    obtain ⟨⟨kk, ek, hkk⟩, hor⟩ := hp
    have lp : (γ.2.1 8).length = 3 * gs.length + 3 := by rw [g8, flat3_len]; show 3 * (gs.length + 1) = _; omega
    rw [held2 tγ g8, ek, nI_add, esz, put_e tγ (by decide) (by rw [lp]; omega)]
    obtain ⟨ζ, eζ⟩ : ∃ ζ, ζ = kSl γ 8 ((γ.2.1 8).set (3 * gs.length + 2) (nI (kk + k))) := ⟨_, rfl⟩
    rw [← eζ]
    have tζ : tT K ζ := by rw [eζ]; exact tγ.sl (by decide) (by rw [List.length_set]; exact Nat.le_refl _)
    have cζ : ch [] [8, 10] β ζ := by rw [eζ]; exact (cγ.mo (by decide) (by decide)).tr (ch.rs (by decide))
    have z8 : ζ.2.1 8 = flat3 ((g.1, g.2.1, nI (kk + k)) :: gs) := by
      rw [eζ]
      show (γ.2.1 8).set (3 * gs.length + 2) (nI (kk + k)) = flat3 gs ++ [g.1, g.2.1, nI (kk + k)]
      rw [g8]
      show (flat3 gs ++ [g.1, g.2.1, g.2.2]).set _ _ = _
      rw [List.set_append_right _ _ (by rw [flat3_len]; omega), flat3_len, show 3 * gs.length + 2 - 3 * gs.length = 2 by omega]
      rfl
    have esb : sb (g :: gs) = kk + sb gs := by
      show sbf g + sb gs = _
      unfold sbf
      rw [hg, if_pos (show nI 8 = (8 : Int32) from rfl), ek, nI_clamp (by omega)]
    have esb' : sb ((g.1, g.2.1, nI (kk + k)) :: gs) = kk + k + sb gs := by
      show sbf (g.1, g.2.1, nI (kk + k)) + sb gs = _
      unfold sbf
      show (if g.1 = 8 then (nI (kk + k)).toNatClampNeg else 0) + sb gs = _
      rw [hg, if_pos (show nI 8 = (8 : Int32) from rfl), nI_clamp (by omega)]
    have esp : sp ((g.1, g.2.1, nI (kk + k)) :: gs) = sp (g :: gs) := by
      show spf (g.1, g.2.1, nI (kk + k)) + sp gs = spf g + sp gs
      rw [(zf (f := (g.1, g.2.1, nI (kk + k))) hg (by decide)).2.1 (by decide), (zf hg (by decide)).2.1 (by decide)]
    have eac : ac ((g.1, g.2.1, nI (kk + k)) :: gs) = ac (g :: gs) := rfl
    have ens : ∀ b, ns b ((g.1, g.2.1, nI (kk + k)) :: gs) = ns b (g :: gs) := fun _ => rfl
    have eph : ∀ x, ph x ((g.1, g.2.1, nI (kk + k)) :: gs) = ph x (g :: gs) := fun _ => rfl
    have ef : fc ζ (c - 1) 0 = fc β (c - 1) 0 := by unfold fc; rw [cζ.row (by decide) (by decide)]
    have qζ : PQ c0 α0 c K nb 3 ((g.1, g.2.1, nI (kk + k)) :: gs) ζ := by
      refine ⟨hE.ch tζ cζ (by decide) (by decide), by unfold l12; rw [cζ.int (by decide)]; exact l, z8, (cζ.int (by decide)).trans e18, ⟨⟨8, hg, by omega, ⟨kk + k, rfl, by omega⟩, hor⟩, hpo'.g cζ.2.2 (cζ.int (by decide)) ef⟩, ⟨?_, ?_, ?_, ?_, ?_⟩, by rw [eph]; exact hed.ch cζ (by decide) (by decide) (by decide) (by decide) (by decide)⟩
      · rw [esp, eζ]; show (γ.2.1 10).length = _; omega
      · rw [cζ.row (by decide) (by decide), esb', eac, h9, esb]; omega
      · rw [cζ.row (by decide) (by decide), esb', h11, esb]; omega
      · rw [esb', esp]; omega
      · rw [cζ.row (by decide) (by decide)]; exact q11.g cζ.2.2
    have z14 : ζ.1 14 = nI (ns true ((g.1, g.2.1, nI (kk + k)) :: gs)) := (cζ.int (by decide)).trans e14
    refine tV.ite (fun _ => tV.ret ⟨c, K, nb, 3, _, qζ.si (by omega), rfl, by omega, z14, hns, fun y => by omega, fun _ => by simp, fun y => by omega, fun y => by omega, fun _ g' hg' => ?_, fun y => by omega⟩) (fun _ => body_ok hN qζ hg z14 hns)
    have : g' = (g.1, g.2.1, nI (kk + k)) := by simpa using hg'.symm
    rw [this]; exact hg
  | d + 1, i, nn, β, hE, l, r8, e18, hpo, h10, hFs, h9, h11, hs, q11, hed, e14, hns, hq, hi, hn => by
    obtain ⟨nn, rfl⟩ : ∃ n', nn = n' + 1 := ⟨nn - 1, by omega⟩
    have hac := ac_len (g :: gs)
    have hlen := ns_len (g :: gs) true hpo
    simp only [if_true] at hlen
    rw [f_Par_endGroup_71, if_neg (nI_ge (by omega) (by omega))]
    obtain ⟨M, e1, t1⟩ := push_t (r := 9) (fR_at β 10 (nI F + nI i)) hE.1 (by decide) (by rw [kMx9, h9]; omega)
    rw [e1, kBv_s]
    obtain ⟨γ, eγ⟩ : ∃ γ, γ = kRs β 9 (β.2.1 9 ++ [fR_at β 10 (nI F + nI i)]) M := ⟨_, rfl⟩
    rw [← eγ] at t1 ⊢
    have cγ : ch [] [9] β γ := by rw [eγ]; exact ch.rs (by decide)
    have r9 : γ.2.1 9 = β.2.1 9 ++ [fR_at β 10 (nI F + nI i)] := by rw [eγ]; rfl
    obtain ⟨t, et, qt⟩ := hq
    rw [show γ.1 15 = nI t from (cγ.int (by decide)).trans et]
    refine (rewrite_ok (m' := 3) (by omega) t1 (by decide) (Nat.lt_of_lt_of_le qt.1 cγ.2.2.1) (fun y => absurd y (by decide))).bv (fun v δ u => ?_) (fun δ u => (hE.ch u.1 ((cγ.mo (by decide) (by decide)).tr (u.2.mo (I' := [2, 3, 4, 6]) (R' := [2, 3, 4, 9]) (by decide) (by decide))) (by decide) (by decide)).x)
    obtain ⟨u1, u2, j, rfl, u3, u4, -⟩ := u
    have qj : qT δ j := ⟨u3, fun y => (qt.g cγ.2.2).2 (u4.mp y)⟩
    have r11 : δ.2.1 11 = β.2.1 11 := (u2.row (by decide) (by decide)).trans (cγ.row (by decide) (by decide))
    obtain ⟨M2, e2, t2⟩ := push_t (r := 11) (nI j) u1 (by decide) (by rw [kMx11, r11, h11]; omega)
    rw [e2, kBv_s, nI_1]
    obtain ⟨ζ, eζ⟩ : ∃ ζ, ζ = kRs δ 11 (δ.2.1 11 ++ [nI j]) M2 := ⟨_, rfl⟩
    rw [← eζ] at t2 ⊢
    have cδ : ch [2, 3, 4, 6] [2, 3, 4, 9, 11] β δ := (cγ.mo (by decide) (by decide)).tr (u2.mo (by decide) (by decide))
    have cZ : ch [2, 3, 4, 6] [2, 3, 4, 9, 11] β ζ := by rw [eζ]; exact cδ.tr (ch.rs (by decide))
    have z11 : ζ.2.1 11 = β.2.1 11 ++ [nI j] := by rw [eζ]; show δ.2.1 11 ++ [nI j] = _; rw [r11]
    have z9 : ζ.2.1 9 = β.2.1 9 ++ [fR_at β 10 (nI F + nI i)] := by rw [eζ]; show δ.2.1 9 = _; rw [u2.row (by decide) (by decide), r9]
    have ef : fc ζ (c - 1) 0 = fc β (c - 1) 0 := by unfold fc; rw [cZ.row (by decide) (by decide)]
    have gδ : grw δ ζ := by rw [eζ]; exact grw.rf
    refine endGroup_go hN hg hk hF d (i + 1) nn ζ (hE.ch t2 cZ (by decide) (by decide)) (by unfold l12; rw [cZ.int (by decide)]; exact l) ((cZ.row (by decide) (by decide)).trans r8) ((cZ.int (by decide)).trans e18) (hpo.g cZ.2.2 (cZ.int (by decide)) ef) ((congrArg List.length (cZ.row (by decide) (by decide))).trans h10) hFs (by rw [z9, List.length_append, h9]; show _ + 1 = _; omega) (by rw [z11, List.length_append, h11]; show _ + 1 = _; omega) hs ?_ (hed.ch cZ (by decide) (by decide) (by decide) (by decide) (by decide)) ((cZ.int (by decide)).trans e14) hns (by rw [cZ.int (by decide), et]; exact ⟨t, rfl, qt.g cZ.2.2⟩) (by omega) (by omega)
    rw [z11]
    intro p hp
    rcases List.mem_append.mp hp with hp | hp
    · exact (q11 p hp).g cZ.2.2
    · rw [List.mem_singleton.mp hp]; exact ⟨j, rfl, qj.g gδ⟩
theorem endGroup_ok (hN : 2 ^ 31 ≤ N) (T : PT c0 α0 c K nb 7 O α) : tV (f_Par_endGroup N α) (PI c0 α0) (PX c0 α0) := by
  obtain ⟨f, fs, rfl, hf, hp, hq, e14, hns, hb⟩ := T.top (by decide)
  obtain ⟨⟨k, ek, hk⟩, hfs, h8⟩ := hp
  have q := T.1
  obtain ⟨g, gs, rfl⟩ := List.exists_cons_of_ne_nil hfs
  have hg : g.1 = nI 8 := h8 g rfl
  unfold f_Par_endGroup
  rw [held1 q.1.1 q.2.2.1, ek]
  obtain ⟨β, eβ⟩ : ∃ β, β = kSi α 16 (α.1 16 + f_Terms_size (α.1 15) α * (nI k - 1)) := ⟨_, rfl⟩
  rw [← eβ]
  have qβ : PQ c0 α0 c K nb 7 (f :: g :: gs) β := by rw [eβ]; exact q.si (by omega)
  have cβ : ch [16] [] α β := by rw [eβ]; exact ch.si (by decide) (by decide)
  refine tV.ite (fun _ => ?_) (fun _ => qβ.1.fail N 10)
  unfold f_Par_endGroup_j49
  obtain ⟨γ, e, t, hc, r8, hE, l, e18, hpo, hed, b14, hn1⟩ := unnest_PQ qβ hf (by omega) (by simp) ((cβ.int (by decide)).trans e14)
  rw [e]
  refine hE.expect N 18 ?_
  have ca := (adv_t t).2
  obtain ⟨s1, s2, s3, s4, s5⟩ := qβ.2.2.2.2.2.1
  have efp : spf f = k := by unfold spf; rw [hf, if_pos (show nI 7 = (7 : Int32) from rfl), ek, nI_clamp (by omega)]
  obtain ⟨z1, -, z3, -⟩ := zf hf (by omega)
  have s1 : (β.2.1 10).length = spf f + sp (g :: gs) := s1
  have s2 : (β.2.1 9).length = nb + (sbf f + sb (g :: gs)) + (acf f + ac (g :: gs)) := s2
  have s3 : (β.2.1 11).length = nb + (sbf f + sb (g :: gs)) := s3
  have s4 : nb + (sbf f + sb (g :: gs)) + (spf f + sp (g :: gs)) ≤ 3000 := s4
  rw [z1 (by decide)] at s2 s3 s4
  rw [z3 (by decide)] at s2
  rw [efp] at s1 s4
  have cA : ch [9, 10, 11, 12, 14] [8] β (f_Lex_advance γ) := (hc.mo (by decide) (by decide)).tr (ca.mo (by decide) (by decide))
  have efc : fc (f_Lex_advance γ) (c - 1) 0 = fc γ (c - 1) 0 := by unfold fc; rw [ca.row (by decide) (by simp)]
  have es : fR_size (f_Lex_advance γ) 10 - nI k = nI (sp (g :: gs)) := by
    unfold fR_size
    rw [cA.row (by decide) (by decide), s1, pk_sub (a := k + sp (g :: gs)) (b := k) (by omega)]
    congr 1
    omega
  rw [es]
  have hn1 : ns false (f :: g :: gs) = ns true (g :: gs) + 1 := hn1
  have hph : ED c0 c K nb (ph 3 (g :: gs)) (f_Lex_advance γ) := by
    rw [ph_s (s := 3) (s' := 7) (g :: gs) (by simp)]
    exact hed.ch ca (by decide) (by decide) (by decide) (by decide) (by simp)
  exact endGroup_go hN hg hk (show sp (g :: gs) ≤ 3000 by omega) k 0 N (f_Lex_advance γ) hE.adv (adv_l γ) ((ca.row (by decide) (by simp)).trans r8) ((ca.int (by decide)).trans e18) (hpo.g ca.2.2 (ca.int (by decide)) efc) (by rw [cA.row (by decide) (by decide), s1]; omega) rfl (by rw [cA.row (by decide) (by decide), s2]; omega) (by rw [cA.row (by decide) (by decide), s3]; omega) (by omega) (by rw [cA.row (by decide) (by decide)]; exact s5.g cA.2.2) hph ((ca.int (by decide)).trans b14) (by omega) (by rw [cA.int (by decide), cβ.int (by decide)]; exact hq.g (cβ.2.2.tr cA.2.2)) (by omega) (by omega)
/-- a body ends: its words are bound -/
theorem endBody_go (hN : 2 ^ 31 ≤ N) {f : O3} {fs : List O3} {kk : Nat} (hf : f.1 = nI 8) (hkk : kk = 6 ∨ kk = 7) (ekk : f.2.1 = nI kk) (hfs : fs ≠ []) (hb' : nb0 fs) (hns : ns false (f :: fs) ≤ 100) : ∀ (i nn x : Nat) (β : kS), PE c0 α0 c K β → l12 β → β.2.1 8 = flat3 (f :: fs) → β.1 18 = nI K → po β c (f :: fs) → (β.2.1 10).length = sp fs → (β.2.1 9).length = nb + sb fs + ac fs + i → (β.2.1 11).length = nb + sb fs + i → nb + sb fs + sp fs ≤ 3000 → aQ β (β.2.1 11) → ED c0 c K nb (ph 8 fs) β → β.1 14 = nI (ns false (f :: fs)) → qT β x → i ≤ 3000 → i < nn → tV (f_Par_endBody_11 N nn (nI i) (nI x) β) (PI c0 α0) (PX c0 α0)
  | 0, nn, x, β, hE, l, r8, e18, hpo, h10, h9, h11, hs, q11, hed, e14, hx, hi, hn => by
    obtain ⟨nn, rfl⟩ : ∃ n', nn = n' + 1 := ⟨nn - 1, by omega⟩
    rw [f_Par_endBody_11, if_pos (by decide)]
    obtain ⟨δ, e, t, hc, -, r8'⟩ := drop_e hE.1 r8
    unfold f_Par_unnest
    rw [e]
    obtain ⟨ζ, eζ⟩ : ∃ ζ, ζ = kSi δ 14 (δ.1 14 - 1) := ⟨_, rfl⟩
    rw [← eζ]
    have tζ : tT K ζ := by rw [eζ]; exact t.si (by decide)
    have cζ : ch [14] [8] β ζ := by rw [eζ]; exact (hc.mo (by decide) (by decide)).tr (ch.si (by decide) (by decide))
    have ef : fc ζ (c - 1) 0 = fc β (c - 1) 0 := by unfold fc; rw [cζ.row (by decide) (by decide)]
    have h7 : decide (f.1 = (7 : Int32)) = false := by rw [hf]; rfl
    have hn1 : ns false (f :: fs) = ns false fs + 1 := by
      show nsf false f.1 + ns (decide (f.1 = 7)) fs = _
      rw [h7, hf, show nsf false (nI 8) = 1 from rfl, Nat.add_comm]
    refine tV.ret (whole_PI (s := 8) ⟨hE.ch tζ cζ (by decide) (by decide), by unfold l12; rw [cζ.int (by decide)]; exact l, by rw [eζ]; exact r8', (cζ.int (by decide)).trans e18, hpo.2.g cζ.2.2 (cζ.int (by decide)) ef, ⟨?_, ?_, ?_, hs, ?_⟩, hed.ch cζ (by decide) (by decide) (by decide) (by decide) (by decide)⟩ hfs hb' ?_ (by omega) ⟨x, rfl, hx.g cζ.2.2⟩)
    · rw [cζ.row (by decide) (by decide)]; exact h10
    · rw [cζ.row (by decide) (by decide), h9]; omega
    · rw [cζ.row (by decide) (by decide), h11]; omega
    · rw [cζ.row (by decide) (by decide)]; exact q11.g cζ.2.2
    · rw [eζ]
      show δ.1 14 - 1 = _
      rw [hc.int (by decide), e14, hn1]
      exact nI_pred _
  | i + 1, nn, x, β, hE, l, r8, e18, hpo, h10, h9, h11, hs, q11, hed, e14, hx, hi, hn => by
    obtain ⟨nn, rfl⟩ : ∃ n', nn = n' + 1 := ⟨nn - 1, by omega⟩
    obtain ⟨L, v, e, hL⟩ := last_of (l := β.2.1 11) (k := nb + sb fs + i) (by omega)
    have p1 : fR_pop β 11 = (v, kSl β 11 L) := pop_e e
    have t1 : tT K (kSl β 11 L) := hE.1.sl (by decide) (by rw [e, List.length_append]; omega)
    have c1 : ch [] [11] β (kSl β 11 L) := ch.rs (by decide)
    obtain ⟨a, ea, qa⟩ := q11 v (by rw [e]; exact List.mem_append_right _ (List.mem_singleton.mpr rfl))
    subst ea
    rw [f_Par_endBody_11, if_neg (show ¬ nI (i + 1) ≤ 0 from nI_ge (a := 0) (b := i + 1) (by omega) (by omega)), held1 hE.1 r8, ekk, p1]
    refine (mk_n (k := kk) (by omega) t1 (by omega) (by omega) (qa.g c1.2.2) (hx.g c1.2.2)).bv (fun w γ u => ?_) (fun γ u => (hE.ch u.1 ((c1.mo (I' := [3, 4, 6]) (R' := [11]) (by decide) (by decide)).tr (u.2.mo (by decide) (by decide))) (by decide) (by decide)).x)
    obtain ⟨u1, u2, j, rfl, u3, -⟩ := u
    have c2 : ch [3, 4, 6] [11] β γ := (c1.mo (by decide) (by decide)).tr (u2.mo (by decide) (by decide))
    have r11 : γ.2.1 11 = L := u2.row (by decide) (by simp)
    obtain ⟨δ, eδ, tδ, cδ, lδ⟩ := pop9 (k := nb + sb fs + ac fs + i) u1 (by rw [c2.row (by decide) (by decide), h9]; omega)
    rw [eδ, nI_m1]
    have cZ : ch [3, 4, 6] [9, 11] β δ := (c2.mo (by decide) (by decide)).tr (cδ.mo (by decide) (by decide))
    have ef : fc δ (c - 1) 0 = fc β (c - 1) 0 := by unfold fc; rw [cZ.row (by decide) (by decide)]
    have d11 : δ.2.1 11 = L := (cδ.row (by decide) (by decide)).trans r11
    refine endBody_go hN hf hkk ekk hfs hb' hns i nn j δ (hE.ch tδ cZ (by decide) (by decide)) (by unfold l12; rw [cZ.int (by decide)]; exact l) ((cZ.row (by decide) (by decide)).trans r8) ((cZ.int (by decide)).trans e18) (hpo.g cZ.2.2 (cZ.int (by decide)) ef) ((congrArg List.length (cZ.row (by decide) (by decide))).trans h10) lδ (by rw [d11]; exact hL) hs ?_ (hed.ch cZ (by decide) (by decide) (by decide) (by decide) (by decide)) ((cZ.int (by decide)).trans e14) (u3.g cδ.2.2) (by omega) (by omega)
    rw [d11]
    exact fun p hp => (q11 p (by rw [e]; exact List.mem_append_left _ hp)).g cZ.2.2
theorem endBody_ok (hN : 2 ^ 31 ≤ N) (T : PT c0 α0 c K nb 8 O α) : tV (f_Par_endBody N α) (PI c0 α0) (PX c0 α0) := by
  obtain ⟨f, fs, rfl, hf, hp, hq, e14, hns, hb⟩ := T.top (by decide)
  obtain ⟨⟨k, ek, hk⟩, hor⟩ := hp
  have q := T.1
  obtain ⟨hbi, hfs, hb'⟩ := hor.resolve_right (fun z => hb f rfl hf z.1)
  obtain ⟨a1, a2, a3, a4, a5, ⟨s1, s2, s3, s4, s5⟩, a7⟩ := id q
  obtain ⟨x, ex, qx⟩ := hq
  have efb : sbf f = k := by unfold sbf; rw [hf, if_pos (show nI 8 = (8 : Int32) from rfl), ek, nI_clamp (by omega)]
  obtain ⟨-, z2, z3, -⟩ := zf hf (by omega)
  have s1 : (α.2.1 10).length = spf f + sp fs := s1
  have s2 : (α.2.1 9).length = nb + (sbf f + sb fs) + (acf f + ac fs) := s2
  have s3 : (α.2.1 11).length = nb + (sbf f + sb fs) := s3
  have s4 : nb + (sbf f + sb fs) + (spf f + sp fs) ≤ 3000 := s4
  rw [efb] at s2 s3 s4
  rw [z2 (by decide)] at s1 s4
  rw [z3 (by decide)] at s2
  rw [ph_push (s' := 8) hfs] at a7
  unfold f_Par_endBody
  rw [held2 a1.1 a3, ek, ex]
  have go : ∀ kk, (kk = 6 ∨ kk = 7) → f.2.1 = nI kk → tV (f_Par_endBody_11 N N (nI k) (nI x) α) (PI c0 α0) (PX c0 α0) := fun kk hkk ekk => endBody_go hN hf hkk ekk hfs hb' hns k N x α a1 a2 a3 a4 a5 (by omega) (by omega) (by omega) (by omega) s5 a7 e14 qx hk (by omega)
  rcases hbi with z | z
  · exact go 6 (Or.inl rfl) z
  · exact go 7 (Or.inr rfl) z
end PAROPS4
