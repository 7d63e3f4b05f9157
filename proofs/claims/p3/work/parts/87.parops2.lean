-- the parser's turns: atoms, ends of TERMS
section PAROPS2
variable {N c0 c K nb s : Nat} {α0 α : kS} {O : List O3}
theorem kMx9 : kMx 9 = 4096 := by decide
theorem kMx10 : kMx 10 = 4096 := by decide
theorem kMx11 : kMx 11 = 4096 := by decide
theorem ac_len : ∀ (fs : List O3), ac fs ≤ fs.length
  | [] => Nat.le_refl _
  | f :: fs => by
    have := ac_len fs
    show acf f + ac fs ≤ fs.length + 1
    unfold acf
    split <;> omega
theorem O_len (q : PQ c0 α0 c K nb s O α) {b : Bool} (h : ns b O ≤ 101) : O.length ≤ 204 := by
  have := ns_len O b q.2.2.2.2.1
  have : (if b = true then 1 else 0) ≤ 1 := by split <;> omega
  omega
theorem takeAtom_ok (hN : 2 ^ 31 ≤ N) (T : PT c0 α0 c K nb 2 O α) : tV (f_Par_takeAtom N α) (PI c0 α0) (PX c0 α0) := by
  obtain ⟨q, e13, -, e14, hns, hS⟩ := T
  have e14 : α.1 14 = nI (ns false O) := e14
  have hns : ns false O ≤ 100 := hns
  have hO : O ≠ [] := hS.2.1 (Or.inr (Or.inl rfl))
  have hb : nb0 O := hS.2.2.1 (Or.inr (Or.inl rfl))
  have hcur := hS.2.2.2.1 rfl
  have hlen := O_len q (b := false) (by omega)
  have hac := ac_len O
  have app : ∀ (β : kS) (x : Int32) {I : List Nat}, PQ c0 α0 c K nb 2 O β → ch I [] α β → 14 ∉ I → 15 ∉ I → qP β x → tV (kBv (f_Par_apply N x β) fun δ => some (some none, δ)) (PI c0 α0) (PX c0 α0) := fun β x I qβ hc i14 i15 hx =>
    (apply_ok hN qβ hO hb ((hc.int i14).trans e14) hns (by rw [hc.int i15]; exact hcur.imp id (qP.g hc.2.2)) hx).bv (fun δ y => tV.ret y) (fun δ y => y)
  have j36 : tV (f_Par_takeAtom_j36 N α) (PI c0 α0) (PX c0 α0) := by
    unfold f_Par_takeAtom_j36
    refine (sort_ok hN q).bv (fun v β u => ?_) (fun β u => u)
    obtain ⟨u1, u2⟩ := u
    refine (mk_l (k := 2) (by omega) u1.1.1 (by decide) v 0 (fun y => by omega)).bv (fun w γ p => ?_) (fun γ p => (u1.1.ch p.1 p.2 (by simp) (by simp)).x)
    obtain ⟨p1, p2, j, rfl, p3, -⟩ := p
    exact app γ (nI j) (u1.ch p1 p2 (by unfold l12; rw [p2.int (by decide)]; exact u1.2.1) (by decide) (by decide)) ((u2.mo (I' := [3, 4, 6, 9, 10, 11, 12]) (R' := []) (by decide) (by decide)).tr (p2.mo (by decide) (by decide))) (by decide) (by decide) ⟨j, rfl, p3⟩
  unfold f_Par_takeAtom
  refine tV.ite (fun _ => ?_) (fun _ => tV.ite (fun _ => j36) (fun _ => tV.ite (fun _ => j36) (fun _ => tV.ite (fun _ => ?_) (fun _ => tV.ite (fun _ => ?_) (fun _ => tV.ite (fun _ => q.1.refuse N) (fun n1 => tV.ite (fun _ => ?_) (fun _ => ?_)))))))
  · refine (resolve_ok hN q).bv (fun v β u => ?_) (fun β u => u)
    exact app β v u.1 u.2.1 (by decide) (by decide) u.2.2
  · have qa := q.adv
    have ca := (adv_t q.1.1).2
    refine (recursor_ok hN qa).bv (fun v β u => ?_) (fun β u => u)
    exact app β v u.1 ((ca.mo (I' := [3, 4, 6, 9, 10, 11, 12]) (R' := []) (by decide) (by decide)).tr u.2.1) (by decide) (by decide) u.2.2
  · have qa := q.adv
    have ca := (adv_t q.1.1).2
    obtain ⟨a1, a2, a3, a4, a5, a6, a7⟩ := qa
    have hc' : (f_Lex_advance α).1 15 = -1 ∨ qP (f_Lex_advance α) ((f_Lex_advance α).1 15) := by rw [ca.int (by decide)]; exact hcur.imp id (qP.g ca.2.2)
    obtain ⟨γ, e, p⟩ := nest_PI (N := N) (n := 5) (a := (f_Lex_advance α).1 15) (b := 0) a1 a2 a3 a4 a5 (a6.z rfl rfl rfl) a7 hO (by omega) ⟨hc', hO, hb⟩ ((ca.int (by decide)).trans e14) hns
    rw [show f_Par_nest N 5 ((f_Lex_advance α).1 15) 0 (f_Lex_advance α) = some (some none, γ) from e, kBv_s]
    exact tV.ret p
  · have hq := hcur.resolve_left n1
    have qa := q.adv
    have ca := (adv_t q.1.1).2
    obtain ⟨a1, a2, a3, a4, a5, a6, a7⟩ := qa
    obtain ⟨M, e1, t1⟩ := push_t (r := 9) (-1) a1.1 (by decide) (by rw [kMx9, a6.2.1]; have := a6.2.2.2.1; omega)
    rw [e1, kBv_s]
    obtain ⟨β, eβ⟩ : ∃ β, β = kRs (f_Lex_advance α) 9 ((f_Lex_advance α).2.1 9 ++ [-1]) M := ⟨_, rfl⟩
    rw [← eβ] at t1 ⊢
    have cb : ch [] [9] (f_Lex_advance α) β := by rw [eβ]; exact ch.rs (by decide)
    have r9 : β.2.1 9 = (f_Lex_advance α).2.1 9 ++ [-1] := by rw [eβ]; rfl
    have ef : fc β (c - 1) 0 = fc (f_Lex_advance α) (c - 1) 0 := by unfold fc; rw [cb.row (by decide) (by decide)]
    have b15 : β.1 15 = α.1 15 := (cb.int (by decide)).trans (ca.int (by decide))
    have hz : SZ nb ((nI 6, β.1 15, 0) :: O) β := by
      obtain ⟨z1, z2, z3, z4, z5⟩ := a6
      refine ⟨?_, ?_, ?_, ?_, ?_⟩
      · rw [cb.row (by decide) (by decide), z1]; show _ = 0 + sp O; omega
      · rw [r9, List.length_append, z2]
        show nb + sb O + ac O + 1 = nb + (0 + sb O) + (1 + ac O)
        omega
      · rw [cb.row (by decide) (by decide), z3]; show _ = nb + (0 + sb O); omega
      · show nb + (0 + sb O) + (0 + sp O) ≤ 3000; omega
      · rw [cb.row (by decide) (by decide)]; exact z5.g cb.2.2
    obtain ⟨γ, e, p⟩ := nest_PI (N := N) (n := 6) (a := β.1 15) (b := 0) (s := 2) (a1.ch t1 cb (by decide) (by decide)) (by unfold l12; rw [cb.int (by decide)]; exact a2) ((cb.row (by decide) (by decide)).trans a3) ((cb.int (by decide)).trans a4) (a5.g cb.2.2 (cb.int (by decide)) ef) hz (a7.ch cb (by decide) (by decide) (by decide) (by decide) (by decide)) hO (by omega) ⟨by show qP β (β.1 15); rw [b15]; exact hq.g (ca.2.2.tr cb.2.2), hO, hb⟩ ((cb.int (by decide)).trans ((ca.int (by decide)).trans e14)) hns
    rw [show f_Par_nest N 6 (β.1 15) 0 β = some (some none, γ) from e, kBv_s]
    exact tV.ret p
  · exact tV.ret (whole_PI q hO hb e14 hns (hcur.resolve_left n1))
/-- the frame on top is taken away -/
theorem unnest_PQ {f : O3} {fs : List O3} {n : Nat} (q : PQ c0 α0 c K nb s (f :: fs) α) (hf : f.1 = nI n) (hn : n = 5 ∨ n = 6 ∨ n = 7 ∨ n = 9 ∨ n = 10 ∨ n = 11 ∨ n = 8) (hfs : fs ≠ []) (e14 : α.1 14 = nI (ns false (f :: fs))) : ∃ β, f_Par_unnest α = β ∧ tT K β ∧ ch [14] [8] α β ∧ β.2.1 8 = flat3 fs ∧ PE c0 α0 c K β ∧ l12 β ∧ β.1 18 = nI K ∧ po β c fs ∧ ED c0 c K nb (ph s fs) β ∧ β.1 14 = nI (ns (decide (n = 7)) fs) ∧ ns false (f :: fs) = ns (decide (n = 7)) fs + 1 := by
  obtain ⟨a1, a2, a3, a4, a5, a6, a7⟩ := q
  obtain ⟨δ, e, t, hc, hs, r8⟩ := drop_e a1.1 a3
  have e7 : decide (f.1 = (7 : Int32)) = decide (n = 7) := by
    rw [hf]
    by_cases z : n = 7
    · subst z; rfl
    · rw [decide_eq_false z]; exact decide_eq_false (nI_ne (m := 7) (by omega) (by omega) z)
  have hns : ns false (f :: fs) = ns (decide (n = 7)) fs + 1 := by
    show nsf false f.1 + ns (decide (f.1 = 7)) fs = _
    rw [e7, Nat.add_comm, hf]
    congr 1
    rcases hn with rfl | rfl | rfl | rfl | rfl | rfl | rfl <;> rfl
  have c1 : ch [14] [8] α (kSi δ 14 (δ.1 14 - 1)) := (hc.mo (by decide) (by decide)).tr (ch.si (by decide) (by decide))
  have t1 : tT K (kSi δ 14 (δ.1 14 - 1)) := t.si (by decide)
  have ef : fc (kSi δ 14 (δ.1 14 - 1)) (c - 1) 0 = fc α (c - 1) 0 := by unfold fc; rw [c1.row (by decide) (by decide)]
  refine ⟨kSi δ 14 (δ.1 14 - 1), by unfold f_Par_unnest; rw [e], t1, c1, r8, a1.ch t1 c1 (by decide) (by decide), by unfold l12; rw [c1.int (by decide)]; exact a2, (c1.int (by decide)).trans a4, a5.2.g c1.2.2 (c1.int (by decide)) ef, ?_, ?_, hns⟩
  · rw [ph_push (s' := s) hfs] at a7
    exact a7.ch c1 (by decide) (by decide) (by decide) (by decide) (by decide)
  · show δ.1 14 - 1 = _
    rw [hc.int (by decide), e14, hns]
    exact nI_pred _
theorem SZ.un {f : O3} {fs : List O3} (h : SZ nb (f :: fs) α) (h8 : sbf f = 0) (h7 : spf f = 0) (h6 : acf f = 0) : SZ nb fs α := by
  unfold SZ at h ⊢
  have h : (α.2.1 10).length = spf f + sp fs ∧ (α.2.1 9).length = nb + (sbf f + sb fs) + (acf f + ac fs) ∧ (α.2.1 11).length = nb + (sbf f + sb fs) ∧ nb + (sbf f + sb fs) + (spf f + sp fs) ≤ 3000 ∧ aQ α (α.2.1 11) := h
  rw [h8, h7, h6, Nat.zero_add, Nat.zero_add, Nat.zero_add] at h
  exact h
/-- what a turn at the end of a TERM starts from -/
theorem PT.top {n : Nat} (T : PT c0 α0 c K nb n O α) (hn : 5 ≤ n) : ∃ f fs, O = f :: fs ∧ f.1 = nI n ∧ pof α c n f fs ∧ qP α (α.1 15) ∧ α.1 14 = nI (ns false (f :: fs)) ∧ ns false (f :: fs) ≤ 100 ∧ nb0 (f :: fs) := by
  obtain ⟨q, e13, h16, e14, hns, hS⟩ := T
  have hO : O ≠ [] := hS.2.1 (by omega)
  obtain ⟨f, fs, rfl⟩ := List.exists_cons_of_ne_nil hO
  obtain ⟨⟨n', h1, h2, h3⟩, -⟩ := q.2.2.2.2.1
  obtain ⟨hq, hg⟩ := hS.2.2.2.2.2 hn
  have e1 : f.1 = nI n := hg f rfl
  have : n' = n := (nI_eq (by omega) (by omega)).mp (h1.symm.trans e1)
  subst this
  have d3 : decide (n' = 3) = false := decide_eq_false (by omega)
  rw [d3] at e14 hns
  rw [if_neg (by omega)] at hns
  exact ⟨f, fs, rfl, e1, h3, hq, e14, hns, hS.2.2.1 (by omega)⟩
theorem zf {f : O3} {n : Nat} (hf : f.1 = nI n) (hn : n ≤ 16) : (n ≠ 8 → sbf f = 0) ∧ (n ≠ 7 → spf f = 0) ∧ (n ≠ 6 ∧ n ≠ 11 → acf f = 0) ∧ (n = 6 ∨ n = 11 → acf f = 1) := by
  refine ⟨fun z => ?_, fun z => ?_, fun z => ?_, fun z => ?_⟩
  · unfold sbf; rw [hf, if_neg (show ¬ nI n = (8 : Int32) from nI_ne (m := 8) (by omega) (by omega) z)]
  · unfold spf; rw [hf, if_neg (show ¬ nI n = (7 : Int32) from nI_ne (m := 7) (by omega) (by omega) z)]
  · unfold acf; rw [hf, if_neg (fun y => y.elim (nI_ne (m := 6) (by omega) (by omega) z.1) (nI_ne (m := 11) (by omega) (by omega) z.2))]
  · unfold acf; rw [hf, if_pos (z.imp (fun y => by rw [y]; rfl) (fun y => by rw [y]; rfl))]
theorem endParen_ok (hN : 2 ^ 31 ≤ N) (T : PT c0 α0 c K nb 5 O α) : tV (f_Par_endParen N α) (PI c0 α0) (PX c0 α0) := by
  obtain ⟨f, fs, rfl, hf, hp, hq, e14, hns, hb⟩ := T.top (by decide)
  obtain ⟨hcur, hfs, hb'⟩ := hp
  have q := T.1
  obtain ⟨β, e, t, hc, r8, hE, l, e18, hpo, hed, b14, hn1⟩ := unnest_PQ q hf (by omega) hfs e14
  obtain ⟨z1, z2, z3, -⟩ := zf hf (by omega)
  have hz : SZ nb fs β := (q.2.2.2.2.2.1.un (z1 (by decide)) (z2 (by decide)) (z3 (by decide))).ch hc (by decide) (by decide) (by decide)
  have qβ : PQ c0 α0 c K nb 5 fs β := ⟨hE, l, r8, e18, hpo, hz, hed⟩
  unfold f_Par_endParen
  rw [e, held1 q.1.1 q.2.2.1]
  refine hE.expect N 18 ?_
  have qa := qβ.adv
  have ca := (adv_t t).2
  have cs : ch [9, 10, 11, 12, 15] [] β (kSi (f_Lex_advance β) 15 f.2.1) := (ca.mo (by decide) (by decide)).tr (ch.si (by decide) (by decide))
  have gA : grw α (kSi (f_Lex_advance β) 15 f.2.1) := hc.2.2.tr cs.2.2
  refine (apply_ok hN (x := α.1 15) (qa.si (i := 15) (v := f.2.1) (by omega)) hfs hb' ((cs.int (by decide)).trans b14) (by have := hn1; have : ns (decide ((5 : Nat) = 7)) fs = ns false fs := rfl; omega) ?_ (hq.g gA)).bv (fun δ y => tV.ret y) (fun δ y => y)
  show f.2.1 = -1 ∨ qP (kSi (f_Lex_advance β) 15 f.2.1) f.2.1
  exact hcur.imp id (qP.g gA)
/-- a word is bound no more -/
theorem pop9 {β : kS} {k : Nat} (h : tT K β) (hl : (β.2.1 9).length = k + 1) : ∃ γ, (fR_pop β 9).2 = γ ∧ tT K γ ∧ ch [] [9] β γ ∧ (γ.2.1 9).length = k := by
  obtain ⟨L, v, e, hL⟩ := last_of hl
  refine ⟨kSl β 9 L, by rw [pop_e e], h.sl (by decide) (by rw [e, List.length_append]; omega), ch.rs (by decide), hL⟩
theorem endArrow_ok (hN : 2 ^ 31 ≤ N) (T : PT c0 α0 c K nb 6 O α) : tV (f_Par_endArrow N α) (PI c0 α0) (PX c0 α0) := by
  obtain ⟨f, fs, rfl, hf, hp, hq, e14, hns, hb⟩ := T.top (by decide)
  obtain ⟨hd, hfs, hb'⟩ := hp
  have q := T.1
  obtain ⟨z1, z2, -, z4⟩ := zf hf (by omega)
  obtain ⟨a, ea, qa⟩ := hd
  obtain ⟨b, eb, qb⟩ := hq
  unfold f_Par_endArrow
  rw [held1 q.1.1 q.2.2.1, ea, eb]
  refine (mk_n (k := 6) (by omega) q.1.1 (by decide) (by decide) qa qb).bv (fun v β u => ?_) (fun β u => (q.1.ch u.1 u.2 (by simp) (by simp)).x)
  obtain ⟨u1, u2, j, rfl, u3, -⟩ := u
  have qβ := q.ch u1 u2 (by unfold l12; rw [u2.int (by decide)]; exact q.2.1) (by decide) (by decide)
  obtain ⟨s1, s2, s3, s4, s5⟩ := qβ.2.2.2.2.2.1
  have s2 : (β.2.1 9).length = nb + (sbf f + sb fs) + (acf f + ac fs) := s2
  rw [z1 (by decide), z4 (Or.inl rfl)] at s2
  obtain ⟨γ, eγ, tγ, cγ, lγ⟩ := pop9 (k := nb + sb fs + ac fs) u1 (by omega)
  rw [eγ]
  have qγ : PE c0 α0 c K γ := qβ.1.ch tγ cγ (by decide) (by decide)
  -- as if the frame bound none
  obtain ⟨a1, a2, a3, a4, a5, a6, a7⟩ := qβ
  obtain ⟨δ, eδ, t3, c3, -, r8⟩ := drop_e tγ ((cγ.row (by decide) (by decide)).trans a3)
  have cD : ch [14] [8, 9] β (kSi δ 14 (δ.1 14 - 1)) := (cγ.mo (by decide) (by decide)).tr ((c3.mo (by decide) (by decide)).tr (ch.si (by decide) (by decide)))
  have tD : tT K (kSi δ 14 (δ.1 14 - 1)) := t3.si (by decide)
  have ef : fc (kSi δ 14 (δ.1 14 - 1)) (c - 1) 0 = fc β (c - 1) 0 := by unfold fc; rw [cD.row (by decide) (by decide)]
  have hn1 : ns false (f :: fs) = ns false fs + 1 := by
    show nsf false f.1 + ns (decide (f.1 = 7)) fs = _
    rw [hf, Nat.add_comm]
    rfl
  have hed : ED c0 c K nb (ph 6 fs) (kSi δ 14 (δ.1 14 - 1)) := by
    rw [ph_push (s' := 6) hfs] at a7
    exact a7.ch cD (by decide) (by decide) (by decide) (by decide) (by decide)
  have hz : SZ nb fs (kSi δ 14 (δ.1 14 - 1)) := by
    have s1 : (β.2.1 10).length = spf f + sp fs := s1
    have s3 : (β.2.1 11).length = nb + (sbf f + sb fs) := s3
    have s4 : nb + (sbf f + sb fs) + (spf f + sp fs) ≤ 3000 := s4
    rw [z1 (by decide)] at s3 s4
    rw [z2 (by decide)] at s1 s4
    have c9 : (kSi δ 14 (δ.1 14 - 1)).2.1 9 = γ.2.1 9 := c3.row (by decide) (by decide)
    refine ⟨?_, ?_, ?_, by omega, ?_⟩
    · rw [cD.row (by decide) (by decide)]; omega
    · rw [c9]; exact lγ
    · rw [cD.row (by decide) (by decide)]; omega
    · rw [cD.row (by decide) (by decide)]; exact s5.g cD.2.2
  unfold f_Par_unnest
  rw [eδ]
  refine tV.ret (whole_PI (s := 6) ⟨a1.ch tD cD (by decide) (by decide), by unfold l12; rw [cD.int (by decide)]; exact a2, r8, (cD.int (by decide)).trans a4, a5.2.g cD.2.2 (cD.int (by decide)) ef, hz, hed⟩ hfs hb' ?_ (by omega) ⟨j, rfl, u3.g cD.2.2⟩)
  show δ.1 14 - 1 = _
  rw [c3.int (by decide), cγ.int (by decide), u2.int (by decide), e14, hn1]
  exact nI_pred _
theorem endLetType_ok (hN : 2 ^ 31 ≤ N) (T : PT c0 α0 c K nb 9 O α) : tV (f_Par_endLetType N α) (PI c0 α0) (PX c0 α0) := by
  obtain ⟨f, fs, rfl, hf, hp, hq, e14, hns, hb⟩ := T.top (by decide)
  obtain ⟨hfs, hb'⟩ := hp
  have q := T.1
  obtain ⟨β, e, t, hc, r8, hE, l, e18, hpo, hed, b14, hn1⟩ := unnest_PQ q hf (by omega) hfs e14
  obtain ⟨z1, z2, z3, -⟩ := zf hf (by omega)
  have hz : SZ nb fs β := (q.2.2.2.2.2.1.un (z1 (by decide)) (z2 (by decide)) (z3 (by decide))).ch hc (by decide) (by decide) (by decide)
  have qβ : PQ c0 α0 c K nb 9 fs β := ⟨hE, l, r8, e18, hpo, hz, hed⟩
  have hn1 : ns false (f :: fs) = ns false fs + 1 := hn1
  unfold f_Par_endLetType
  rw [e, held1 q.1.1 q.2.2.1]
  refine hE.expect N 25 ?_
  have ca := (adv_t t).2
  obtain ⟨a1, a2, a3, a4, a5, a6, a7⟩ := qβ.adv
  have q15 : qP (f_Lex_advance β) ((f_Lex_advance β).1 15) := by rw [ca.int (by decide), hc.int (by decide)]; exact hq.g (hc.2.2.tr ca.2.2)
  obtain ⟨γ, e2, p⟩ := nest_PI (N := N) (n := 10) (a := f.2.1) (b := (f_Lex_advance β).1 15) a1 a2 a3 a4 a5 (a6.z rfl rfl rfl) a7 hfs (by omega) ⟨q15, hfs, hb'⟩ ((ca.int (by decide)).trans b14) (by show ns false fs ≤ 100; omega)
  rw [show f_Par_nest N 10 f.2.1 ((f_Lex_advance β).1 15) (f_Lex_advance β) = some (some none, γ) from e2, kBv_s]
  exact tV.ret p
theorem endLetValue_ok (hN : 2 ^ 31 ≤ N) (T : PT c0 α0 c K nb 10 O α) : tV (f_Par_endLetValue N α) (PI c0 α0) (PX c0 α0) := by
  obtain ⟨f, fs, rfl, hf, hp, hq, e14, hns, hb⟩ := T.top (by decide)
  obtain ⟨hty, hfs, hb'⟩ := hp
  have q := T.1
  have hlen := O_len q (b := false) (by omega)
  obtain ⟨β, e, t, hc, r8, hE, l, e18, hpo, hed, b14, hn1⟩ := unnest_PQ q hf (by omega) hfs e14
  obtain ⟨z1, z2, z3, -⟩ := zf hf (by omega)
  have hz : SZ nb fs β := (q.2.2.2.2.2.1.un (z1 (by decide)) (z2 (by decide)) (z3 (by decide))).ch hc (by decide) (by decide) (by decide)
  have qβ : PQ c0 α0 c K nb 10 fs β := ⟨hE, l, r8, e18, hpo, hz, hed⟩
  have hn1 : ns false (f :: fs) = ns false fs + 1 := hn1
  have hac := ac_len fs
  have hlen : fs.length + 1 ≤ 204 := hlen
  unfold f_Par_endLetValue
  rw [e, held1 q.1.1 q.2.2.1, held2 q.1.1 q.2.2.1]
  refine hE.expect N 13 ?_
  have ca := (adv_t t).2
  obtain ⟨a1, a2, a3, a4, a5, a6, a7⟩ := qβ.adv
  obtain ⟨M, e1, t1⟩ := push_t (r := 9) f.2.1 a1.1 (by decide) (by rw [kMx9, a6.2.1]; have := a6.2.2.2.1; omega)
  rw [e1, kBv_s]
  obtain ⟨γ, eγ⟩ : ∃ γ, γ = kRs (f_Lex_advance β) 9 ((f_Lex_advance β).2.1 9 ++ [f.2.1]) M := ⟨_, rfl⟩
  rw [← eγ] at t1 ⊢
  have cb : ch [] [9] (f_Lex_advance β) γ := by rw [eγ]; exact ch.rs (by decide)
  have r9 : γ.2.1 9 = (f_Lex_advance β).2.1 9 ++ [f.2.1] := by rw [eγ]; rfl
  have ef : fc γ (c - 1) 0 = fc (f_Lex_advance β) (c - 1) 0 := by unfold fc; rw [cb.row (by decide) (by decide)]
  have g15 : γ.1 15 = α.1 15 := (cb.int (by decide)).trans ((ca.int (by decide)).trans (hc.int (by decide)))
  have gA : grw α γ := (hc.2.2.tr ca.2.2).tr cb.2.2
  have hz2 : SZ nb ((nI 11, f.2.2, γ.1 15) :: fs) γ := by
    obtain ⟨y1, y2, y3, y4, y5⟩ := a6
    refine ⟨?_, ?_, ?_, ?_, ?_⟩
    · rw [cb.row (by decide) (by decide), y1]; show _ = 0 + sp fs; omega
    · rw [r9, List.length_append, y2]
      show nb + sb fs + ac fs + 1 = nb + (0 + sb fs) + (1 + ac fs)
      omega
    · rw [cb.row (by decide) (by decide), y3]; show _ = nb + (0 + sb fs); omega
    · show nb + (0 + sb fs) + (0 + sp fs) ≤ 3000; omega
    · rw [cb.row (by decide) (by decide)]; exact y5.g cb.2.2
  obtain ⟨δ, e2, p⟩ := nest_PI (N := N) (n := 11) (a := f.2.2) (b := γ.1 15) (s := 10) (a1.ch t1 cb (by decide) (by decide)) (by unfold l12; rw [cb.int (by decide)]; exact a2) ((cb.row (by decide) (by decide)).trans a3) ((cb.int (by decide)).trans a4) (a5.g cb.2.2 (cb.int (by decide)) ef) hz2 (a7.ch cb (by decide) (by decide) (by decide) (by decide) (by decide)) hfs (by omega) ⟨⟨hty.g gA, by show qP γ (γ.1 15); rw [g15]; exact hq.g gA⟩, hfs, hb'⟩ ((cb.int (by decide)).trans ((ca.int (by decide)).trans b14)) (by show ns false fs ≤ 100; omega)
  rw [show f_Par_nest N 11 f.2.2 (γ.1 15) γ = some (some none, δ) from e2, kBv_s]
  exact tV.ret p
end PAROPS2
