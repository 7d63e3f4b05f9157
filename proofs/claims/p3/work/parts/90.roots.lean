-- the parser's turns: DECLARATIONS
section ROOTS
variable {N c0 c K nb : Nat} {α0 α : kS} {O : List O3}
/-- a TERM stands here; what waits for it waits alone -/
theorem await_PI {n : Nat} {a b : Int32} (hE : PE c0 α0 c K α) (l : l12 α) (r8 : α.2.1 8 = []) (e18 : α.1 18 = nI K) (e14 : α.1 14 = nI 0) (hz : SZ nb [] α) (hn : 12 ≤ n ∧ n ≤ 16) (hp : pof α c n (nI n, a, b) []) (hed : ED c0 c K nb n α) : ∃ β, f_Par_await N (nI n) a b α = some (some none, β) ∧ PI c0 α0 β := by
  obtain ⟨β, e, t, hc, -, r8'⟩ := hold_e (N := N) (fs := []) hE.1 r8 (by decide) (nI n) a b
  have ef : fc β (c - 1) 0 = fc α (c - 1) 0 := by unfold fc; rw [hc.row (by decide) (by decide)]
  obtain ⟨ζ, eζ⟩ : ∃ ζ, ζ = kSi β 13 1 := ⟨_, rfl⟩
  have tζ : tT K ζ := by rw [eζ]; exact t.si (by decide)
  have cζ : ch [13] [8] α ζ := by rw [eζ]; exact (hc.mo (by decide) (by decide)).tr (ch.si (by decide) (by decide))
  have ef : fc ζ (c - 1) 0 = fc α (c - 1) 0 := by unfold fc; rw [cζ.row (by decide) (by decide)]
  obtain ⟨z1, z2, z3, -⟩ := zf (f := (nI n, a, b)) rfl hn.2
  refine ⟨ζ, ?_, c, K, nb, 1, [(nI n, a, b)], ⟨hE.ch tζ cζ (by decide) (by decide), by unfold l12; rw [cζ.int (by decide)]; exact l, by rw [eζ]; exact r8', (cζ.int (by decide)).trans e18, ⟨⟨n, rfl, hn.2, pof_g hn.2 cζ.2.2 (cζ.int (by decide)) ef hp⟩, trivial⟩, (hz.z (z1 (by omega)) (z2 (by omega)) (z3 (by omega))).ch cζ (by decide) (by decide) (by decide), ?_⟩, by rw [eζ]; rfl, by omega, ?_, ?_, fun y => by omega, fun _ => by simp, fun _ g hg h8 => ?_, fun y => by omega, fun y => by omega, fun y => by omega⟩
  · unfold f_Par_await
    rw [e, eζ]
    rfl
  · rw [ph_root (f := (nI n, a, b)) rfl hn.2]
    exact hed.ch cζ (by decide) (by decide) (by decide) (by decide) (by decide)
  · rw [cζ.int (by decide), e14]
    have : n = 12 ∨ n = 13 ∨ n = 14 ∨ n = 15 ∨ n = 16 := by omega
    rcases this with rfl | rfl | rfl | rfl | rfl <;> rfl
  · have : n = 12 ∨ n = 13 ∨ n = 14 ∨ n = 15 ∨ n = 16 := by omega
    rcases this with rfl | rfl | rfl | rfl | rfl <;> exact Nat.zero_le 101
  · have : g = (nI n, a, b) := by simpa using hg.symm
    rw [this] at h8
    have h8 : nI n = nI 8 := h8
    have := (nI_eq (by omega) (by omega)).mp h8
    omega
/-- the DECLARATION, or its head, is read -/
theorem done_PI {s' : Nat} (hE : PE c0 α0 c K α) (l : l12 α) (r8 : α.2.1 8 = []) (e18 : α.1 18 = nI K) (e14 : α.1 14 = nI 0) (hz : SZ nb [] α) (hs : s' = 0 ∨ s' = 4) (hed : ED c0 c K nb s' α) : PI c0 α0 (kSi α 13 (nI s')) := by
  have cs : ch [13] [] α (kSi α 13 (nI s')) := ch.si (by decide) (by decide)
  refine ⟨c, K, nb, s', [], ⟨hE.ch (hE.1.si (by decide)) cs (by decide) (by decide), l, r8, e18, trivial, hz.ch cs (by decide) (by decide) (by decide), hed.ch cs (by decide) (by decide) (by decide) (by decide) (by decide)⟩, rfl, by omega, ?_, ?_, fun _ => rfl, fun y => by omega, fun y => by omega, fun y => by omega, fun y => by omega, fun y => by omega⟩
  · exact e14
  · show 0 ≤ _
    omega
/-- what a turn at the end of a whole TERM starts from -/
theorem PT.root {n : Nat} (T : PT c0 α0 c K nb n O α) (hn : 12 ≤ n) : ∃ f, O = [f] ∧ f.1 = nI n ∧ pof α c n f [] ∧ qP α (α.1 15) ∧ α.1 14 = nI 0 ∧ ED c0 c K nb n α ∧ SZ nb [] α := by
  obtain ⟨f, fs, rfl, hf, hp, hq, e14, hns, hb⟩ := T.top (by omega)
  have h16 := T.2.2.1
  have hfs : fs = [] := by
    have : n = 12 ∨ n = 13 ∨ n = 14 ∨ n = 15 ∨ n = 16 := by omega
    rcases this with rfl | rfl | rfl | rfl | rfl
    · exact hp.1
    · exact hp.1
    · exact hp.1
    · exact hp.1
    · exact hp.1
  subst hfs
  obtain ⟨z1, z2, z3, -⟩ := zf hf h16
  have hed := T.1.2.2.2.2.2.2
  rw [ph_root hf h16] at hed
  refine ⟨f, rfl, hf, hp, hq, ?_, hed, T.1.2.2.2.2.2.1.un (z1 (by omega)) (z2 (by omega)) (z3 (by omega))⟩
  rw [e14]
  show nI (nsf false f.1 + 0) = nI 0
  rw [hf]
  have : n = 12 ∨ n = 13 ∨ n = 14 ∨ n = 15 ∨ n = 16 := by omega
  rcases this with rfl | rfl | rfl | rfl | rfl <;> rfl
/-- the int k is set, the frame dropped -/
theorem PT.cut {n k : Nat} {f : O3} (T : PT c0 α0 c K nb n [f] α) (v : Int32) (hk : k = 21 ∨ k = 22) : ∃ β, f_Par_drop (kSi α k v) = β ∧ PE c0 α0 c K β ∧ l12 β ∧ β.2.1 8 = [] ∧ ch [k] [8] α β ∧ β.1 k = v := by
  have q := T.1
  have t1 : tT K (kSi α k v) := q.1.1.si (by omega)
  obtain ⟨β, e, t, hc, -, r8⟩ := drop_e (α := kSi α k v) (f := f) (fs := []) t1 q.2.2.1
  have cA : ch [k] [8] α β := (ch.si (by simp) (by omega)).tr (hc.mo (by simp) (by simp))
  refine ⟨β, e, q.1.ch t cA (by decide) (by decide) (by simp; omega), ?_, r8, cA, ?_⟩
  · unfold l12
    rw [cA.int (by simp; omega)]
    exact q.2.1
  · rw [hc.int (by simp)]
    exact kup_s
theorem endType_ok (hN : 2 ^ 31 ≤ N) (T : PT c0 α0 c K nb 12 O α) : tV (f_Par_endType N α) (PI c0 α0) (PX c0 α0) := by
  obtain ⟨f, rfl, hf, hp, hq, e14, hed, hz⟩ := T.root (by decide)
  have q := T.1
  obtain ⟨β, e, hE, l, r8, hc, b21⟩ := T.cut (k := 21) (α.1 15) (Or.inl rfl)
  have eh : f_Par_held 1 (kSi α 21 (α.1 15)) = f.2.1 := held1 (q.1.1.si (by decide)) q.2.2.1
  have hed : α.1 20 = 28 ∧ K = c0 ∧ nb = 0 ∧ CD c0 c α ∧ (α.1 22 = -1 ∨ qP α (α.1 22)) := by
    rcases hed with ⟨-, z⟩ | ⟨z, -⟩ | ⟨z, -⟩ | ⟨z, -⟩ | ⟨z, -⟩ | ⟨z, -⟩
    · exact z
    all_goals omega
  obtain ⟨d1, d2, d3, d4, d5⟩ := hed
  have q21 : qP β (β.1 21) := by rw [b21]; exact hq.g hc.2.2
  unfold f_Par_endType
  rw [eh, e]
  have j28 : tV (f_Par_endType_j28 N β) (PI c0 α0) (PX c0 α0) := by
    unfold f_Par_endType_j28
    refine hE.expect N 25 ?_
    have ca := (adv_t hE.1).2
    have cA : ch [9, 10, 11, 12, 21] [8] α (f_Lex_advance β) := (hc.mo (by decide) (by decide)).tr (ca.mo (by decide) (by decide))
    obtain ⟨γ, e2, p⟩ := await_PI (N := N) (n := 13) (a := 0) (b := 0) hE.adv (adv_l β) ((ca.row (by decide) (by simp)).trans r8) ((cA.int (by decide)).trans q.2.2.2.1) ((cA.int (by decide)).trans e14) (hz.ch cA (by decide) (by decide) (by decide)) (by omega) ⟨rfl, trivial⟩ (Or.inr (Or.inr (Or.inl ⟨rfl, d2, d3, d4.ch (cA.int (by decide)), Or.inl ⟨(cA.int (by decide)).trans d1, by rw [ca.int (by decide)]; exact q21.g ca.2.2⟩⟩)))
    rw [show f_Par_await N 13 0 0 (f_Lex_advance β) = some (some none, γ) from e2, kBv_s]
    exact tV.ret p
  refine tV.ite (fun _ => j28) (fun k1 => tV.ite (fun _ => j28) (fun _ => ?_))
  refine hE.expect N 23 ?_
  have ca := (adv_t hE.1).2
  have cA : ch [9, 10, 11, 12, 21] [8] α (f_Lex_advance β) := (hc.mo (by decide) (by decide)).tr (ca.mo (by decide) (by decide))
  refine tV.ret (done_PI (nb := nb) (s' := 0) hE.adv (adv_l β) ((ca.row (by decide) (by simp)).trans r8) ((cA.int (by decide)).trans q.2.2.2.1) ((cA.int (by decide)).trans e14) (hz.ch cA (by decide) (by decide) (by decide)) (Or.inl rfl) (Or.inr (Or.inr (Or.inr (Or.inr (Or.inr ⟨rfl, Or.inr ⟨d2, d3, d4.ch (cA.int (by decide)), Or.inl ⟨(cA.int (by decide)).trans d1, by rw [ca.int (by decide)]; exact q21.g ca.2.2, by rw [cA.int (by decide)]; exact d5.imp id (qP.g cA.2.2), ?_⟩⟩⟩))))))
  rw [cA.int (by decide), show fc (f_Lex_advance β) c0 0 = fc α c0 0 by unfold fc; rw [cA.row (by decide) (by decide)]]
  rcases d4 with ⟨z, -⟩ | ⟨z, zc⟩
  · exact Or.inl z
  · rcases hp.2 with y | y
    · exact Or.inl y
    · rw [zc, Nat.add_sub_cancel] at y
      exact Or.inr (Or.inl (by rw [← y]; exact k1))
theorem endValue_ok (hN : 2 ^ 31 ≤ N) (T : PT c0 α0 c K nb 13 O α) : tV (f_Par_endValue N α) (PI c0 α0) (PX c0 α0) := by
  obtain ⟨f, rfl, hf, hp, hq, e14, hed, hz⟩ := T.root (by decide)
  have q := T.1
  obtain ⟨β, e, hE, l, r8, hc, b22⟩ := T.cut (k := 22) (α.1 15) (Or.inr rfl)
  have hed : K = c0 ∧ nb = 0 ∧ CD c0 c α ∧ (α.1 20 = 28 ∧ qP α (α.1 21) ∨ α.1 20 = 30 ∧ α.1 19 = -1 ∧ c = c0) := by
    rcases hed with ⟨z, -⟩ | ⟨z, -⟩ | ⟨-, z⟩ | ⟨z, -⟩ | ⟨z, -⟩ | ⟨z, -⟩
    · omega
    · omega
    · exact z
    all_goals omega
  obtain ⟨d2, d3, d4, d5⟩ := hed
  have q22 : qP β (β.1 22) := by rw [b22]; exact hq.g hc.2.2
  unfold f_Par_endValue
  rw [e]
  refine hE.expect N 23 ?_
  have ca := (adv_t hE.1).2
  have cA : ch [9, 10, 11, 12, 22] [8] α (f_Lex_advance β) := (hc.mo (by decide) (by decide)).tr (ca.mo (by decide) (by decide))
  have q22' : qP (f_Lex_advance β) ((f_Lex_advance β).1 22) := by rw [ca.int (by decide)]; exact q22.g ca.2.2
  refine tV.ret (done_PI (nb := nb) (s' := 0) hE.adv (adv_l β) ((ca.row (by decide) (by simp)).trans r8) ((cA.int (by decide)).trans q.2.2.2.1) ((cA.int (by decide)).trans e14) (hz.ch cA (by decide) (by decide) (by decide)) (Or.inl rfl) (Or.inr (Or.inr (Or.inr (Or.inr (Or.inr ⟨rfl, Or.inr ⟨d2, d3, d4.ch (cA.int (by decide)), ?_⟩⟩))))))
  rcases d5 with ⟨y1, y2⟩ | ⟨y1, y2, y3⟩
  · exact Or.inl ⟨(cA.int (by decide)).trans y1, by rw [cA.int (by decide)]; exact y2.g cA.2.2, Or.inr q22', Or.inr (Or.inr q22')⟩
  · exact Or.inr ⟨(cA.int (by decide)).trans y1, q22', (cA.int (by decide)).trans y2, y3⟩
theorem endChecked_ok (hN : 2 ^ 31 ≤ N) (T : PT c0 α0 c K nb 14 O α) : tV (f_Par_endChecked N α) (PI c0 α0) (PX c0 α0) := by
  obtain ⟨f, rfl, hf, hp, hq, e14, hed, hz⟩ := T.root (by decide)
  have q := T.1
  obtain ⟨β, e, hE, l, r8, hc, b22⟩ := T.cut (k := 22) (α.1 15) (Or.inr rfl)
  have hed : α.1 20 = 28 ∧ K = c0 ∧ nb = 0 ∧ α.1 19 = -1 ∧ c = c0 := by
    rcases hed with ⟨z, -⟩ | ⟨-, z⟩ | ⟨z, -⟩ | ⟨z, -⟩ | ⟨z, -⟩ | ⟨z, -⟩
    · omega
    · exact z
    all_goals omega
  obtain ⟨d1, d2, d3, d4, d5⟩ := hed
  unfold f_Par_endChecked
  rw [e]
  refine hE.expect N 21 ?_
  have ca := (adv_t hE.1).2
  have cA : ch [9, 10, 11, 12, 22] [8] α (f_Lex_advance β) := (hc.mo (by decide) (by decide)).tr (ca.mo (by decide) (by decide))
  have q22' : qP (f_Lex_advance β) ((f_Lex_advance β).1 22) := by rw [ca.int (by decide), b22]; exact hq.g (hc.2.2.tr ca.2.2)
  obtain ⟨γ, e2, p⟩ := await_PI (N := N) (n := 12) (a := 0) (b := 0) hE.adv (adv_l β) ((ca.row (by decide) (by simp)).trans r8) ((cA.int (by decide)).trans q.2.2.2.1) ((cA.int (by decide)).trans e14) (hz.ch cA (by decide) (by decide) (by decide)) (by omega) ⟨rfl, Or.inl ((cA.int (by decide)).trans d4)⟩ (Or.inl ⟨rfl, (cA.int (by decide)).trans d1, d2, d3, Or.inl ⟨(cA.int (by decide)).trans d4, d5⟩, Or.inr q22'⟩)
  rw [show f_Par_await N 12 0 0 (f_Lex_advance β) = some (some none, γ) from e2, kBv_s]
  exact tV.ret p
theorem endFamilyType_ok (hN : 2 ^ 31 ≤ N) (T : PT c0 α0 c K nb 15 O α) : tV (f_Par_endFamilyType N α) (PI c0 α0) (PX c0 α0) := by
  obtain ⟨f, rfl, hf, hp, hq, e14, hed, hz⟩ := T.root (by decide)
  have q := T.1
  obtain ⟨β, e, hE, l, r8, hc, b21⟩ := T.cut (k := 21) (α.1 15) (Or.inl rfl)
  have hed : α.1 20 = 32 ∧ K = c0 ∧ ((15 : Nat) = 8 → nb = 0) ∧ α.1 19 = nI c0 ∧ c = c0 + 1 ∧ fc α c0 0 = 3 := by
    rcases hed with ⟨z, -⟩ | ⟨z, -⟩ | ⟨z, -⟩ | ⟨-, z⟩ | ⟨z, -⟩ | ⟨z, -⟩
    · omega
    · omega
    · omega
    · exact z
    all_goals omega
  obtain ⟨d1, d2, -, d4, d5, d6⟩ := hed
  subst d2 d5
  unfold f_Par_endFamilyType
  rw [e]
  refine hE.expect N 25 ?_
  refine hE.adv.expect N 19 ?_
  have ca := (adv_t hE.1).2.tr (adv_t hE.adv.1).2
  obtain ⟨γ, eγ⟩ : ∃ γ, γ = f_Lex_advance (f_Lex_advance β) := ⟨_, rfl⟩
  have lγ : l12 γ := by rw [eγ]; exact adv_l _
  have hEγ : PE K α0 (K + 1) K γ := by rw [eγ]; exact hE.adv.adv
  rw [← eγ] at ca ⊢
  have cA : ch [9, 10, 11, 12, 21] [8] α γ := (hc.mo (by decide) (by decide)).tr (ca.mo (by decide) (by decide))
  obtain ⟨t, et, qt⟩ := hq
  have g21 : γ.1 21 = nI t := (ca.int (by decide)).trans (b21.trans et)
  rw [g21]
  obtain ⟨s1, s2, s3, s4, s5⟩ := hz
  refine (over_ok hN hEγ.1 (fun p hp => (s5 p (by rw [← cA.row (r := 11) (by decide) (by decide)]; exact hp)).g cA.2.2) (qt.g cA.2.2)).bv (fun v δ u => ?_) (fun δ u => (hEγ.ch u.1 u.2 (by simp) (by simp)).x)
  obtain ⟨u1, u2, j, rfl, u3, u4⟩ := u
  have hEδ := hEγ.ch u1 u2 (by simp) (by simp)
  have cB : ch [3, 4, 6, 9, 10, 11, 12, 21] [8] α δ := (cA.mo (by decide) (by decide)).tr (u2.mo (by decide) (by decide))
  rw [show δ.1 19 = nI K from (cB.int (by decide)).trans d4]
  obtain ⟨ζ, f1, t1, c1, l1, g1, p1⟩ := fix_l (c := K + 1) (k := K) (w := 1) (x := 1) u1 hEδ.2.1.1 (by omega) (by decide) rfl (nI j)
  rw [f1]
  have cZ : ch [3, 4, 6, 9, 10, 11, 12, 21] [5, 8] α ζ := (cB.mo (by decide) (by decide)).tr (c1.mo (by decide) (by decide))
  have tnz : tn ζ = tn δ := by unfold tn; rw [c1.int (by decide)]
  have I1 : eI (K + 1) K (tn ζ) ζ := by rw [tnz]; exact fixT_eI hEδ.2.1 c1 l1 g1 (Or.inl rfl) (vM_of ⟨j, rfl, u3⟩)
  have fz : fc ζ K 1 = nI j := by rw [g1 K 1 (by decide), if_pos ⟨rfl, rfl⟩]
  have fz0 : fc ζ K 0 = 3 := by
    rw [g1 K 0 (by decide), if_neg (fun y => by have := y.2; omega)]
    have : fc δ K 0 = fc α K 0 := by unfold fc; rw [cB.row (by decide) (by decide)]
    rw [this, d6]
  have qjz : qP ζ (nI j) := ⟨j, rfl, u3.g c1.2.2⟩
  have I2 : eI (K + 1) (K + 1) (tn ζ) ζ := I1.next (by omega) (by rw [fz]; exact vM_of qjz) (by rw [fz0]; decide)
  obtain ⟨η, eη⟩ : ∃ η, η = kSi (kSi ζ 17 (f_Terms_size (nI j) ζ)) 18 (ζ.1 19 + 1) := ⟨_, rfl⟩
  show tV (some (some none, kSi (kSi (kSi ζ 17 (f_Terms_size (nI j) ζ)) 18 (ζ.1 19 + 1)) 13 4)) _ _
  rw [← eη]
  have tη : tT (K + 1) η := by rw [eη]; exact ((t1.up (by omega)).si (by decide)).si (by decide)
  have cη : ch [17, 18] [] ζ η := by rw [eη]; exact (ch.si (by decide) (by decide)).tr (ch.si (by decide) (by decide))
  have cT : ch [3, 4, 6, 9, 10, 11, 12, 17, 18, 21] [5, 8] α η := (cZ.mo (by decide) (by decide)).tr (cη.mo (by decide) (by decide))
  have hd2 := (u1.2.1 j u3.1).2.2.1.2
  have hd1 := (hEγ.1.2.1 t (Nat.lt_of_lt_of_le qt.1 cA.2.2.1)).2.2.1.1
  have hnb : nb ≤ 200 := by
    have : (γ.2.1 11).length = nb := by rw [cA.row (by decide) (by decide), s3]; rfl
    omega
  refine tV.ret (done_PI (c := K + 1) (K := K + 1) (nb := nb) (s' := 4) ⟨tη, (I2.ch cη (by decide) (by decide)).up cη.2.2.1 (Nat.le_refl _), by omega, ⟨hEδ.2.2.2.1.1.tr (c1.2.2.tr cη.2.2), fun i hi => ?_⟩, cη.nf (by decide) (c1.nf (by decide) hEδ.2.2.2.2)⟩ ?_ ?_ ?_ ((cT.int (by decide)).trans e14) ⟨?_, ?_, ?_, ?_, ?_⟩ (Or.inr rfl) (Or.inr (Or.inr (Or.inr (Or.inr (Or.inl ⟨Or.inl rfl, (cT.int (by decide)).trans d1, rfl, (cT.int (by decide)).trans d4, hnb, ?_, ⟨by omega, fun y => by omega⟩, fun k h1 h2 => by omega⟩))))))
  · rw [cη.row (by decide) (by simp), p1 i (by omega)]; exact hEδ.2.2.2.1.2 i hi
  · unfold l12
    rw [cη.int (by decide), c1.int (by decide), u2.int (by decide)]
    exact lγ
  · rw [cη.row (by decide) (by simp), c1.row (by decide) (by decide), u2.row (by decide) (by simp), ca.row (by decide) (by simp)]; exact r8
  · rw [eη]
    show ζ.1 19 + 1 = _
    rw [cZ.int (by decide), d4, nI_1]
  · rw [cT.row (by decide) (by decide)]; exact s1
  · rw [cT.row (by decide) (by decide)]; exact s2
  · rw [cT.row (by decide) (by decide)]; exact s3
  · exact s4
  · rw [cT.row (by decide) (by decide)]; exact s5.g cT.2.2
  · have : η.1 21 = nI t := by rw [cη.int (by decide), c1.int (by decide), u2.int (by decide), g21]
    rw [this]; exact ⟨t, rfl, qt.g cT.2.2⟩
theorem endMember_ok (T : PT c0 α0 c K nb 16 O α) : PI c0 α0 (f_Par_endMember α) := by
  obtain ⟨f, rfl, hf, hp, hq, e14, hed, hz⟩ := T.root (by decide)
  have q := T.1
  obtain ⟨-, k, ek, hk⟩ := hp
  have hed : FA c0 c K nb 16 α := by
    rcases hed with ⟨z, -⟩ | ⟨z, -⟩ | ⟨z, -⟩ | ⟨z, -⟩ | ⟨-, z⟩ | ⟨z, -⟩
    · omega
    · omega
    · omega
    · omega
    · exact z
    · omega
  obtain ⟨d1, d2, d3, d4, d5, ⟨d6, d7⟩, d8⟩ := hed
  have d7 := d7 rfl
  unfold f_Par_endMember
  rw [held1 q.1.1 q.2.2.1, ek]
  obtain ⟨ζ, f1, t1, c1, l1, g1, p1⟩ := fix_l (c := c) (k := k) (w := 1) (x := 1) q.1.1 q.1.2.1.1 (by omega) (by decide) rfl (α.1 15)
  rw [f1]
  have tnz : tn ζ = tn α := by unfold tn; rw [c1.int (by decide)]
  have I1 : eI c K (tn ζ) ζ := by rw [tnz]; exact fixT_eI q.1.2.1 c1 l1 g1 (Or.inl rfl) (vM_of hq)
  obtain ⟨η, eη⟩ : ∃ η, η = kSi ζ 17 (ζ.1 17 + f_Terms_size (ζ.1 15) ζ) := ⟨_, rfl⟩
  rw [← eη]
  have tη : tT K η := by rw [eη]; exact t1.si (by decide)
  have cη : ch [17] [] ζ η := by rw [eη]; exact ch.si (by decide) (by decide)
  obtain ⟨δ, e, t, hc, -, r8⟩ := drop_e (α := η) (f := f) (fs := []) tη (by rw [cη.row (by decide) (by simp), c1.row (by decide) (by decide)]; exact q.2.2.1)
  rw [e]
  have cT : ch [17] [5, 8] α δ := (c1.mo (by decide) (by decide)).tr ((cη.mo (by decide) (by decide)).tr (hc.mo (by decide) (by decide)))
  have c5 : ch [17] [8] ζ δ := (cη.mo (by decide) (by decide)).tr (hc.mo (by decide) (by decide))
  have fd : ∀ k' w', w' < 12 → fc δ k' w' = if k' = k ∧ w' = 1 then α.1 15 else fc α k' w' := fun k' w' hw => by
    have : fc δ k' w' = fc ζ k' w' := by unfold fc; rw [c5.row (by decide) (by decide)]
    rw [this, g1 k' w' hw]
  have hz' := hz.ch cT (by decide) (by decide) (by decide)
  refine done_PI (nb := nb) (s' := 4) ⟨t, (I1.ch c5 (by decide) (by decide)).up c5.2.2.1 (Nat.le_refl _), q.1.2.2.1, ⟨q.1.2.2.2.1.1.tr cT.2.2, fun i hi => ?_⟩, cT.nf (by decide) q.1.2.2.2.2⟩ ?_ r8 ((cT.int (by decide)).trans q.2.2.2.1) ((cT.int (by decide)).trans e14) hz' (Or.inr rfl) (Or.inr (Or.inr (Or.inr (Or.inr (Or.inl ⟨Or.inl rfl, (cT.int (by decide)).trans d1, d2, (cT.int (by decide)).trans d3, d4, ?_, ⟨d6, fun y => by omega⟩, fun k' h1 h2 => ?_⟩)))))
  · rw [c5.row (by decide) (by decide), p1 i (by omega)]; exact q.1.2.2.2.1.2 i hi
  · unfold l12; rw [cT.int (by decide)]; exact q.2.1
  · rw [cT.int (by decide)]; exact d5.g cT.2.2
  · obtain ⟨y1, y2⟩ := d8 k' h1 h2
    rw [fd k' 0 (by decide), if_neg (fun y => by have := y.2; omega), fd k' 1 (by decide)]
    refine ⟨y1, fun _ => ?_⟩
    by_cases z : k' = k
    · rw [if_pos ⟨z, rfl⟩]; exact hq.g cT.2.2
    · rw [if_neg (fun y => z y.1)]; exact (y2 (fun _ => by omega)).g cT.2.2
/-- a new NAME is taken -/
theorem name_ok (hN : 2 ^ 31 ≤ N) {kd : Int32} (hE : PE c0 α0 c K α) (l : l12 α) : tI (f_Par_takeNewName N kd α) (fun v β => v = nI c ∧ PE c0 α0 (c + 1) K β ∧ l12 β ∧ ch [9, 10, 11, 12] [5, 6] α β ∧ fc β c 0 = kd ∧ ∀ k w, k < c → w < 12 → fc β k w = fc α k w) (PX c0 α0) := by
  have hc3 := hE.2.1.2.1
  unfold f_Par_takeNewName
  refine tI.ite (fun _ => ?_) (fun _ => hE.refuseI N)
  unfold f_Par_takeNewName_j15
  obtain ⟨v2, e2, -⟩ := find_ok (N := N) hN hE.1 hE.2.1.1 hc3 (L := 300) (by omega)
  rw [show f_Env_find N 300 α = some v2 from e2, obs]
  refine tI.ite (fun _ => ?_) (fun _ => hE.failAtI N 2 _)
  unfold f_Par_takeNewName_j48
  rw [len_e hE.1 hE.2.1.1]
  refine tI.ite (fun cl => ?_) (fun _ => hE.failI N 10)
  have hc : c < 300 := (nI_ltI (b := 300) (by omega) (by omega)).mp cl
  unfold f_Par_takeNewName_j70
  obtain ⟨γ, e, t, hc', I, hp, h0⟩ := add_ok (N := N) (kd := kd) hN hE.1 hE.2.1 hc l
  rw [e, kBi_s]
  have ca := (adv_t t).2
  have cA : ch [9, 10, 11, 12] [5, 6] α (f_Lex_advance γ) := (hc'.mo (by decide) (by decide)).tr (ca.mo (by decide) (by decide))
  have hf : ∀ k w, fc (f_Lex_advance γ) k w = fc γ k w := fun k w => by unfold fc; rw [ca.row (by decide) (by simp)]
  refine tI.ret ⟨rfl, ⟨(adv_t t).1, (I.ch ca (by simp) (by simp)).up (Nat.le_trans hc'.2.2.1 ca.2.2.1) (Nat.le_refl _), by have := hE.2.2.1; omega, ⟨hE.2.2.2.1.1.tr cA.2.2, fun i hi => ?_⟩, cA.nf (by decide) hE.2.2.2.2⟩, adv_l γ, cA, by rw [hf]; exact h0, fun k w hk hw => ?_⟩
  · rw [ca.row (by decide) (by simp), hp i (by have := hE.2.2.1; omega)]; exact hE.2.2.2.1.2 i hi
  · rw [hf]
    unfold fc
    exact hp _ (by omega)
theorem takeMember_ok (hN : 2 ^ 31 ≤ N) (T : PT c0 α0 c K nb 4 O α) : tV (f_Par_takeMember N α) (PI c0 α0) (PX c0 α0) := by
  obtain ⟨q, e13, -, e14, hns, hS⟩ := T
  have hO : O = [] := hS.1 (Or.inr rfl)
  subst hO
  have e14 : α.1 14 = nI 0 := e14
  obtain ⟨a1, a2, a3, a4, a5, a6, a7⟩ := id q
  have hed : FA c0 c K nb 4 α := by
    rcases a7 with ⟨z, -⟩ | ⟨z, -⟩ | ⟨z, -⟩ | ⟨z, -⟩ | ⟨-, z⟩ | ⟨z, -⟩
    · exact absurd z (by decide)
    · exact absurd z (by decide)
    · exact absurd z (by decide)
    · exact absurd z (by decide)
    · exact z
    · exact absurd z (by decide)
  obtain ⟨d1, d2, d3, d4, d5, ⟨d6, -⟩, d8⟩ := hed
  unfold f_Par_takeMember
  refine tV.ite (fun _ => ?_) (fun _ => ?_)
  · have qa := q.adv
    have ca := (adv_t a1.1).2
    refine (name_ok hN qa.1 qa.2.1).bv (fun v β u => ?_) (fun β u => u)
    obtain ⟨rfl, hE, l, hc, h0, hf⟩ := u
    refine hE.expect N 21 ?_
    have cb := (adv_t hE.1).2
    have cA : ch [9, 10, 11, 12] [5, 6] α (f_Lex_advance β) := (ca.mo (by decide) (by decide)).tr (hc.tr (cb.mo (by decide) (by decide)))
    have fa : ∀ k w, w < 12 → k < c → fc (f_Lex_advance β) k w = fc α k w := fun k w hw hk => by
      have x1 : fc (f_Lex_advance β) k w = fc β k w := by unfold fc; rw [cb.row (by decide) (by simp)]
      have x2 : fc (f_Lex_advance α) k w = fc α k w := by unfold fc; rw [ca.row (by decide) (by simp)]
      rw [x1, hf k w hk hw, x2]
    obtain ⟨γ, e2, p⟩ := await_PI (N := N) (n := 16) (a := nI c) (b := 0) (nb := nb) hE.adv (adv_l β) ((cA.row (by decide) (by decide)).trans a3) ((cA.int (by decide)).trans a4) ((cA.int (by decide)).trans e14) (a6.ch cA (by decide) (by decide) (by decide)) (by omega) ⟨rfl, c, rfl, rfl⟩ (Or.inr (Or.inr (Or.inr (Or.inr (Or.inl ⟨Or.inr rfl, (cA.int (by decide)).trans d1, d2, (cA.int (by decide)).trans d3, d4, by rw [cA.int (by decide)]; exact d5.g cA.2.2, ⟨by omega, fun _ => by omega⟩, fun k h1 h2 => by
      rcases Nat.lt_or_ge k c with y | y
      · obtain ⟨y1, y2⟩ := d8 k h1 y
        rw [fa k 0 (by decide) y, fa k 1 (by decide) y]
        exact ⟨y1, fun _ => (y2 (fun z => absurd z (by decide))).g cA.2.2⟩
      · have : k = c := by omega
        subst this
        refine ⟨?_, fun z => absurd rfl (z rfl)⟩
        have x1 : fc (f_Lex_advance β) k 0 = fc β k 0 := by unfold fc; rw [cb.row (by decide) (by simp)]
        rw [x1]; exact h0⟩)))))
    rw [show f_Par_await N 16 (nI c) 0 (f_Lex_advance β) = some (some none, γ) from e2, kBv_s]
    exact tV.ret p
  · refine a1.expect N 20 ?_
    have qa := q.adv
    refine qa.1.expect N 23 ?_
    have qb := qa.adv
    have cb := (adv_t a1.1).2.tr (adv_t qa.1.1).2
    refine tV.ite (fun _ => ?_) (fun _ => qb.1.fail N 10)
    refine tV.ret (done_PI (nb := nb) (s' := 0) qb.1 qb.2.1 qb.2.2.1 qb.2.2.2.1 ((cb.int (by decide)).trans e14) qb.2.2.2.2.2.1 (Or.inl rfl) (Or.inr (Or.inr (Or.inr (Or.inr (Or.inr ⟨rfl, Or.inl ?_⟩))))))
    have : FA c0 c K nb 0 α := ⟨d1, d2, d3, d4, d5, ⟨d6, fun y => by omega⟩, fun k h1 h2 => ⟨(d8 k h1 h2).1, fun _ => (d8 k h1 h2).2 (fun z => absurd z (by decide))⟩⟩
    exact this.ch cb (by decide) (by decide) (by decide) (by simp)
end ROOTS
