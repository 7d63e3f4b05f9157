-- the parser's turns: groups, bodies
section PAROPS3
variable {N c0 c K nb s : Nat} {α0 α : kS} {O : List O3}
theorem endLetBody_ok (hN : 2 ^ 31 ≤ N) (T : PT c0 α0 c K nb 11 O α) : tV (f_Par_endLetBody N α) (PI c0 α0) (PX c0 α0) := by
  obtain ⟨f, fs, rfl, hf, hp, hq, e14, hns, hb⟩ := T.top (by decide)
  obtain ⟨⟨hty, hvl⟩, hfs, hb'⟩ := hp
  have q := T.1
  obtain ⟨z1, z2, -, z4⟩ := zf hf (by omega)
  obtain ⟨a, ea, qa⟩ := hty
  obtain ⟨v, ev, qv⟩ := hvl
  obtain ⟨b, eb, qb⟩ := hq
  unfold f_Par_endLetBody
  rw [held1 q.1.1 q.2.2.1, held2 q.1.1 q.2.2.1, ea, eb, ev]
  refine (mk_ok (k := 9) (by omega) q.1.1 (by decide) (fun _ => ⟨v, b, rfl, rfl, qv.1, qb.1, qv.2, fun z => absurd z qb.2, fun z => by omega⟩) (fun z => by omega) (by decide)).bv (fun w β u => ?_) (fun β u => (q.1.ch u.1 u.2 (by simp) (by simp)).x)
  obtain ⟨u1, u2, j, rfl, u3, u4, -⟩ := u
  have hqa := qa.g u2.2.2
  refine (mk_ok (k := 8) (by omega) u1 (by decide) (fun _ => ⟨a, j, rfl, rfl, hqa.1, u3, hqa.2, fun _ => rfl, fun _ => u4⟩) (fun z => by omega) (by decide)).bv (fun w' β' u' => ?_) (fun β' u' => ((q.1.ch u1 u2 (by simp) (by simp)).ch u'.1 u'.2 (by simp) (by simp)).x)
  obtain ⟨w1, w2, j', rfl, w3, w4, -⟩ := u'
  have c2 : ch [3, 4, 6] [] α β' := u2.tr w2
  have qβ := q.ch w1 c2 (by unfold l12; rw [c2.int (by decide)]; exact q.2.1) (by decide) (by decide)
  obtain ⟨s1, s2, s3, s4, s5⟩ := qβ.2.2.2.2.2.1
  have s2 : (β'.2.1 9).length = nb + (sbf f + sb fs) + (acf f + ac fs) := s2
  rw [z1 (by decide), z4 (Or.inr rfl)] at s2
  obtain ⟨γ, eγ, tγ, cγ, lγ⟩ := pop9 (k := nb + sb fs + ac fs) w1 (by omega)
  rw [eγ]
  obtain ⟨a1, a2, a3, a4, a5, a6, a7⟩ := qβ
  obtain ⟨δ, eδ, t3, c3, -, r8⟩ := drop_e tγ ((cγ.row (by decide) (by decide)).trans a3)
  have cD : ch [14] [8, 9] β' (kSi δ 14 (δ.1 14 - 1)) := (cγ.mo (by decide) (by decide)).tr ((c3.mo (by decide) (by decide)).tr (ch.si (by decide) (by decide)))
  have tD : tT K (kSi δ 14 (δ.1 14 - 1)) := t3.si (by decide)
  have ef : fc (kSi δ 14 (δ.1 14 - 1)) (c - 1) 0 = fc β' (c - 1) 0 := by unfold fc; rw [cD.row (by decide) (by decide)]
  have hn1 : ns false (f :: fs) = ns false fs + 1 := by
    show nsf false f.1 + ns (decide (f.1 = 7)) fs = _
    rw [hf, Nat.add_comm]
    rfl
  have hed : ED c0 c K nb (ph 11 fs) (kSi δ 14 (δ.1 14 - 1)) := by
    rw [ph_push (s' := 11) hfs] at a7
    exact a7.ch cD (by decide) (by decide) (by decide) (by decide) (by decide)
  have hz : SZ nb fs (kSi δ 14 (δ.1 14 - 1)) := by
    have s1 : (β'.2.1 10).length = spf f + sp fs := s1
    have s3 : (β'.2.1 11).length = nb + (sbf f + sb fs) := s3
    have s4 : nb + (sbf f + sb fs) + (spf f + sp fs) ≤ 3000 := s4
    rw [z1 (by decide)] at s3 s4
    rw [z2 (by decide)] at s1 s4
    have c9 : (kSi δ 14 (δ.1 14 - 1)).2.1 9 = γ.2.1 9 := c3.row (by decide) (by decide)
    refine ⟨?_, ?_, ?_, by omega, ?_⟩
    · rw [cD.row (by decide) (by decide)]; omega
    · rw [c9]; exact lγ
    · rw [cD.row (by decide) (by decide)]; omega
    · rw [cD.row (by decide) (by decide)]; exact s5.g cD.2.2
  unfold f_Par_unnest
  rw [eδ]
  have qj : qT β' j' := ⟨w3, by omega⟩
  refine tV.ret (whole_PI (s := 11) ⟨a1.ch tD cD (by decide) (by decide), by unfold l12; rw [cD.int (by decide)]; exact a2, r8, (cD.int (by decide)).trans a4, a5.2.g cD.2.2 (cD.int (by decide)) ef, hz, hed⟩ hfs hb' ?_ (by omega) ⟨j', rfl, qj.g cD.2.2⟩)
  show δ.1 14 - 1 = _
  rw [c3.int (by decide), cγ.int (by decide), c2.int (by decide), e14, hn1]
  exact nI_pred _
/-- the words of a group -/
theorem group_go (hN : 2 ^ 31 ≤ N) {f : O3} {fs : List O3} : ∀ (d i nn : Nat) (β : kS), PE c0 α0 c K β → l12 β → β.2.1 8 = flat3 (f :: fs) → β.1 18 = nI K → po β c (f :: fs) → f.1 = 8 → (β.2.1 10).length = sp (f :: fs) + i → (β.2.1 9).length = nb + sb (f :: fs) + ac (f :: fs) → (β.2.1 11).length = nb + sb (f :: fs) → nb + sb (f :: fs) + (sp (f :: fs) + i) ≤ 3000 → aQ β (β.2.1 11) → ED c0 c K nb (ph 3 (f :: fs)) β → β.1 14 = nI (ns true (f :: fs)) → ns true (f :: fs) ≤ 100 → i + d = 3001 → d < nn → tV (f_Par_startGroup_8 N nn (nI i) β) (PI c0 α0) (PX c0 α0) := by
  intro d
  induction d with
  | zero =>
    intro i nn β hE l r8 e18 hpo hf h10 h9 h11 hs q11 hed e14 hns hi hn
    omega
  | succ d ih =>
    intro i nn β hE l r8 e18 hpo hf h10 h9 h11 hs q11 hed e14 hns hi hn
    obtain ⟨nn, rfl⟩ : ∃ n', nn = n' + 1 := ⟨nn - 1, by omega⟩
    have j102 : tV (f_Par_startGroup_j102 N (nI i) β) (PI c0 α0) (PX c0 α0) := by
      unfold f_Par_startGroup_j102
      refine hE.expect N 21 ?_
      have ca := (adv_t hE.1).2
      have ef : fc (f_Lex_advance β) (c - 1) 0 = fc β (c - 1) 0 := by unfold fc; rw [ca.row (by decide) (by simp)]
      obtain ⟨γ, e, p⟩ := nest_PI (N := N) (n := 7) (a := nI i) (b := 0) (nb := nb) (s := 3) hE.adv (adv_l β) ((ca.row (by decide) (by simp)).trans r8) ((ca.int (by decide)).trans e18) (hpo.g ca.2.2 (ca.int (by decide)) ef) (by
        refine ⟨?_, ?_, ?_, ?_, ?_⟩
        · rw [ca.row (by decide) (by simp), h10]
          show _ = (if (nI 7 : Int32) = 7 then (nI i).toNatClampNeg else 0) + sp (f :: fs)
          rw [if_pos (show nI 7 = (7 : Int32) from rfl), nI_clamp (by omega)]
          omega
        · rw [ca.row (by decide) (by simp), h9]; show _ = nb + (0 + sb (f :: fs)) + (0 + ac (f :: fs)); omega
        · rw [ca.row (by decide) (by simp), h11]; show _ = nb + (0 + sb (f :: fs)); omega
        · show nb + (0 + sb (f :: fs)) + ((if (nI 7 : Int32) = 7 then (nI i).toNatClampNeg else 0) + sp (f :: fs)) ≤ 3000
          rw [if_pos (show nI 7 = (7 : Int32) from rfl), nI_clamp (by omega)]
          omega
        · rw [ca.row (by decide) (by simp)]; exact q11.g ca.2.2) (hed.ch ca (by decide) (by decide) (by decide) (by decide) (by simp)) (by simp) (by omega) ⟨⟨i, rfl, by omega⟩, by simp, fun g hg => by
          have : g = f := by simpa using hg.symm
          rw [this]; exact hf⟩ ((ca.int (by decide)).trans e14) hns
      rw [show f_Par_nest N 7 (nI i) 0 (f_Lex_advance β) = some (some none, γ) from e, kBv_s]
      exact tV.ret p
    have j30 : tV (f_Par_startGroup_j30 N (f_Par_startGroup_8 N nn) (nI i) β) (PI c0 α0) (PX c0 α0) := by
      unfold f_Par_startGroup_j30
      refine tV.ite (fun _ => ?_) (fun _ => hE.refuse N)
      unfold f_Par_startGroup_j45
      refine tV.ite (fun cl => ?_) (fun _ => hE.fail N 10)
      have hlt : nb + sb (f :: fs) + ac (f :: fs) + (sp (f :: fs) + i) < 3000 := by
        unfold fR_size at cl
        rw [h9, h10, nI_add] at cl
        have hac := ac_len (f :: fs)
        have hlen := ns_len (f :: fs) true hpo
        simp only [if_true] at hlen
        exact (nI_ltI (b := 3000) (by omega) (by omega)).mp cl
      unfold f_Par_startGroup_j75
      obtain ⟨M, e1, t1⟩ := push_t (r := 10) (f_Lex_word β) hE.1 (by decide) (by rw [kMx10, h10]; omega)
      rw [e1, kBv_s, nI_1]
      obtain ⟨γ, eγ⟩ : ∃ γ, γ = kRs β 10 (β.2.1 10 ++ [f_Lex_word β]) M := ⟨_, rfl⟩
      rw [← eγ] at t1 ⊢
      have cb : ch [] [10] β γ := by rw [eγ]; exact ch.rs (by decide)
      have r10 : γ.2.1 10 = β.2.1 10 ++ [f_Lex_word β] := by rw [eγ]; rfl
      have ca := (adv_t t1).2
      have cc : ch [9, 10, 11, 12] [10] β (f_Lex_advance γ) := (cb.mo (by decide) (by decide)).tr (ca.mo (by decide) (by decide))
      have ef : fc (f_Lex_advance γ) (c - 1) 0 = fc β (c - 1) 0 := by unfold fc; rw [cc.row (by decide) (by decide)]
      exact ih (i + 1) nn (f_Lex_advance γ) (hE.ch (adv_t t1).1 cc (by decide) (by decide)) (adv_l γ) ((cc.row (by decide) (by decide)).trans r8) ((cc.int (by decide)).trans e18) (hpo.g cc.2.2 (cc.int (by decide)) ef) hf (by rw [ca.row (by decide) (by simp), r10, List.length_append, h10]; show _ + 1 = _; omega) ((congrArg List.length (cc.row (by decide) (by decide))).trans h9) ((congrArg List.length (cc.row (by decide) (by decide))).trans h11) (by omega) (by rw [cc.row (by decide) (by decide)]; exact q11.g cc.2.2) (hed.ch cc (by decide) (by decide) (by decide) (by decide) (by decide)) ((cc.int (by decide)).trans e14) hns (by omega) (by omega)
    rw [f_Par_startGroup_8]
    refine tV.ite (fun _ => j102) (fun _ => tV.ite (fun _ => j30) (fun _ => tV.ite (fun _ => j30) (fun _ => j102)))
theorem startGroup_ok (hN : 2 ^ 31 ≤ N) (T : PT c0 α0 c K nb 3 O α) : tV (f_Par_startGroup N α) (PI c0 α0) (PX c0 α0) := by
  obtain ⟨q, e13, -, e14, hns, hS⟩ := T
  have hO : O ≠ [] := hS.2.1 (by omega)
  have h8 := hS.2.2.2.2.1 rfl
  obtain ⟨f, fs, rfl⟩ := List.exists_cons_of_ne_nil hO
  unfold f_Par_startGroup
  refine q.1.expect N 17 ?_
  obtain ⟨a1, a2, a3, a4, a5, ⟨s1, s2, s3, s4, s5⟩, a7⟩ := q.adv
  have ca := (adv_t q.1.1).2
  exact group_go hN 3001 0 N (f_Lex_advance α) a1 a2 a3 a4 a5 (h8 f rfl) (by omega) s2 s3 (by omega) s5 a7 ((ca.int (by decide)).trans e14) hns (by omega) (by omega)
end PAROPS3
