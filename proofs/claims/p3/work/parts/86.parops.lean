-- the parser's turns
section PAROPS
variable {N c0 c K nb s : Nat} {α0 α : kS} {O : List O3}
/-- what is known of a turn's start -/
def PT (c0 : Nat) (α0 : kS) (c K nb s : Nat) (O : List O3) (α : kS) : Prop := PQ c0 α0 c K nb s O α ∧ α.1 13 = nI s ∧ s ≤ 16 ∧ α.1 14 = nI (ns (decide (s = 3)) O) ∧ ns (decide (s = 3)) O ≤ (if s = 1 then 101 else 100) ∧ SS s O α
theorem startTerm_ok (hN : 2 ^ 31 ≤ N) (T : PT c0 α0 c K nb 1 O α) : tV (f_Par_startTerm N α) (PI c0 α0) (PX c0 α0) := by
  obtain ⟨q, e13, -, e14, hns, hS⟩ := T
  have e14 : α.1 14 = nI (ns false O) := e14
  have hns : ns false O ≤ 101 := hns
  have hO : O ≠ [] := hS.2.1 (Or.inl rfl)
  have hb : nb0 O := hS.2.2.1 (Or.inl rfl)
  unfold f_Par_startTerm
  rw [e14]
  refine tV.ite (fun c1 => ?_) (fun _ => q.1.failAt N 3 _)
  have hns : ns false O ≤ 100 := Nat.not_lt.mp fun y => absurd c1 (nI_ge (a := 100) (b := ns false O) y (by omega))
  have hlen := ns_len O false q.2.2.2.2.1
  have hl : O.length < 255 := by simp only [Bool.false_eq_true, if_false] at hlen; omega
  unfold f_Par_startTerm_j24
  obtain ⟨β, eβ⟩ : ∃ β, β = kSi (kSi α 15 (-1)) 13 2 := ⟨_, rfl⟩
  have qβ : PQ c0 α0 c K nb 2 O β := by rw [eβ]; exact ((q.st hO).si (by omega)).si (by omega)
  have b13 : β.1 13 = nI 2 := by rw [eβ]; rfl
  have b14 : β.1 14 = nI (ns false O) := by rw [eβ]; exact e14
  have b15 : β.1 15 = -1 := by rw [eβ]; rfl
  rw [← eβ]
  have j77 : ∀ t0, (t0 = 6 ∨ t0 = 7) → tV (f_Par_startTerm_j77 N t0 8 (f_Lex_advance β)) (PI c0 α0) (PX c0 α0) := by
    intro t0 ht
    have qa := qβ.adv
    obtain ⟨a1, a2, a3, a4, a5, a6, a7⟩ := qa
    unfold f_Par_startTerm_j77
    obtain ⟨γ, e, qγ, hc⟩ := hold_PQ (N := N) (n := 8) (s' := 3) (a := t0) (b := 0) a1 a2 a3 a4 a5 (a6.z rfl rfl rfl) a7 hO hl (by decide) ⟨⟨0, rfl, by omega⟩, Or.inl ⟨ht, hO, hb⟩⟩
    rw [show f_Par_hold N 8 t0 0 (f_Lex_advance β) = some (some none, γ) from e, kBv_s]
    have h14 : (kSi γ 13 3).1 14 = nI (ns false O) := (hc.int (i := 14) (by decide)).trans (((adv_t qβ.1.1).2.int (by decide)).trans b14)
    refine tV.ret ⟨c, K, nb, 3, _, qγ.si (by omega), rfl, by omega, ?_, ?_, ?_⟩
    · rw [h14]
      show nI _ = nI (nsf true 8 + ns false O)
      rw [show nsf true 8 = 0 from rfl, Nat.zero_add]
    · show nsf true 8 + ns false O ≤ 100
      rw [show nsf true 8 = 0 from rfl]
      omega
    · refine ⟨fun y => by omega, fun _ => by simp, fun y => by omega, fun y => by omega, fun _ g hg => ?_, fun y => by omega⟩
      have : g = (nI 8, t0, 0) := by simpa using hg.symm
      rw [this]; rfl
  have j54 : ∀ y, tV (f_Par_startTerm_j54 N y β) (PI c0 α0) (PX c0 α0) := fun y => by
    unfold f_Par_startTerm_j54
    exact tV.ite (fun _ => j77 7 (Or.inr rfl)) (fun _ => j77 6 (Or.inl rfl))
  refine tV.ite (fun _ => j54 _) (fun _ => tV.ite (fun _ => j54 _) (fun _ => tV.ite (fun _ => ?_) (fun _ => ?_)))
  · have qa := qβ.adv
    refine qa.1.expect N 2 ?_
    have qb := qa.adv
    refine qb.1.expect N 21 ?_
    have qc := qb.adv
    obtain ⟨a1, a2, a3, a4, a5, a6, a7⟩ := qc
    obtain ⟨γ, e, p⟩ := nest_PI (N := N) (n := 9) (a := f_Lex_word (f_Lex_advance β)) (b := 0) a1 a2 a3 a4 a5 (a6.z rfl rfl rfl) a7 hO (by omega) ⟨hO, hb⟩ (((adv_t qb.1.1).2.int (by decide)).trans (((adv_t qa.1.1).2.int (by decide)).trans (((adv_t qβ.1.1).2.int (by decide)).trans b14))) hns
    rw [show f_Par_nest N 9 (f_Lex_word (f_Lex_advance β)) 0 (f_Lex_advance (f_Lex_advance (f_Lex_advance β))) = some (some none, γ) from e, kBv_s]
    exact tV.ret p
  · exact tV.ret ⟨c, K, nb, 2, O, qβ, b13, by omega, b14, hns, fun y => by omega, fun _ => hO, fun _ => hb, fun _ => Or.inl b15, fun y => by omega, fun y => by omega⟩
/-- a TERM is put behind what is at hand -/
theorem apply_ok (hN : 2 ^ 31 ≤ N) {x : Int32} (q : PQ c0 α0 c K nb s O α) (hO : O ≠ []) (hb : nb0 O) (e14 : α.1 14 = nI (ns false O)) (hns : ns false O ≤ 100) (hc : α.1 15 = -1 ∨ qP α (α.1 15)) (hx : qP α x) : tV (f_Par_apply N x α) (PI c0 α0) (PX c0 α0) := by
  have fin : ∀ (β : kS) (v : Int32), PQ c0 α0 c K nb s O β → β.1 14 = nI (ns false O) → qP β v → PI c0 α0 (kSi (kSi β 15 v) 13 2) := fun β v qβ b14 hv => by
    refine ⟨c, K, nb, 2, O, ((qβ.st hO).si (by omega)).si (by omega), rfl, by omega, b14, hns, fun y => by omega, fun _ => hO, fun _ => hb, fun _ => Or.inr ?_, fun y => by omega, fun y => by omega⟩
    exact hv.g ((ch.si (I := [13, 15]) (R := []) (α := β) (i := 15) (v := v) (by decide) (by decide)).tr (ch.si (by decide) (by decide))).2.2
  unfold f_Par_apply
  refine tV.ite (fun _ => tV.ret (fin α x q e14 hx)) (fun n1 => ?_)
  obtain ⟨a, ea, qa⟩ := hc.resolve_left n1
  obtain ⟨b, rfl, qb⟩ := hx
  rw [ea]
  refine (mk_n (k := 5) (by omega) q.1.1 (by decide) (by decide) qa qb).bv (fun v β u => ?_) (fun β u => (q.1.ch u.1 u.2 (by simp) (by simp)).x)
  obtain ⟨u1, u2, j, rfl, u3, -⟩ := u
  exact tV.ret (fin β _ (q.ch u1 u2 (by unfold l12; rw [u2.int (by decide)]; exact q.2.1) (by decide) (by decide)) ((u2.int (by decide)).trans e14) ⟨j, rfl, u3⟩)
/-- what a word means -/
theorem resolve_ok (hN : 2 ^ 31 ≤ N) (q : PQ c0 α0 c K nb s O α) : tI (f_Par_resolve N α) (fun v β => PQ c0 α0 c K nb s O β ∧ ch [3, 4, 6, 9, 10, 11, 12] [] α β ∧ qP β v) (PX c0 α0) := by
  obtain ⟨v1, e1⟩ := bat_ok (N := N) hN q.1.1
  have hK := q.1.2.1.2.2.1
  have hc3 := q.1.2.1.2.1
  have qa := q.adv
  have ca := (adv_t q.1.1).2
  have fin : ∀ (k : Nat) (x : Int32), k < 5 → k ≠ 1 → (k = 3 ∨ k = 4 → ∃ c, x = nI c ∧ c < K) → tI (kBi (f_Terms_make N (nI k) x 0 (f_Lex_advance α)) fun v β => some (some (some v), β)) (fun v β => PQ c0 α0 c K nb s O β ∧ ch [3, 4, 6, 9, 10, 11, 12] [] α β ∧ qP β v) (PX c0 α0) := by
    intro k x hk h1 hx
    refine (mk_l (by omega) qa.1.1 hk x 0 hx h1).bi (fun v β u => ?_) (fun β u => (qa.1.ch u.1 u.2 (by simp) (by simp)).x)
    obtain ⟨u1, u2, j, rfl, u3, -⟩ := u
    exact tI.ret ⟨qa.ch u1 u2 (by unfold l12; rw [u2.int (by decide)]; exact qa.2.1) (by decide) (by decide), (ca.mo (by decide) (by decide)).tr (u2.mo (by decide) (by decide)), j, rfl, u3⟩
  have j28 : ∀ t0, (v1 < 0 → t0 = -1 ∨ ∃ k, t0 = nI k ∧ k < K) → tI (f_Par_resolve_j28 N v1 t0 α) (fun v β => PQ c0 α0 c K nb s O β ∧ ch [3, 4, 6, 9, 10, 11, 12] [] α β ∧ qP β v) (PX c0 α0) := by
    intro t0 ht
    unfold f_Par_resolve_j28
    refine tI.ite (fun _ => q.1.failAtI N 2 _) (fun n1 => ?_)
    unfold f_Par_resolve_j49
    refine tI.ite (fun hv => ?_) (fun _ => fin 0 _ (by decide) (by decide) (fun y => by omega))
    exact fin 3 t0 (by decide) (by decide) (fun _ => (ht hv).resolve_left n1)
  unfold f_Par_resolve
  rw [e1, obs]
  refine tI.ite (fun hv => ?_) (fun hv => j28 _ (fun y => absurd y hv))
  obtain ⟨v2, e2, h2⟩ := find_ok (N := N) hN q.1.1 q.1.2.1.1 hc3 (L := K) (by omega)
  rw [q.2.2.2.1, e2, obs]
  exact j28 _ (fun _ => h2.imp id (fun ⟨k, y1, y2, _⟩ => ⟨k, y1, y2⟩))
theorem sort_ok (hN : 2 ^ 31 ≤ N) (q : PQ c0 α0 c K nb s O α) : tI (f_Par_takeSort N α) (fun _ β => PQ c0 α0 c K nb s O β ∧ ch [9, 10, 11, 12] [] α β) (PX c0 α0) := by
  have qa := q.adv
  have ca := (adv_t q.1.1).2
  have j37 : tI (f_Par_takeSort_j37 N α) (fun _ β => PQ c0 α0 c K nb s O β ∧ ch [9, 10, 11, 12] [] α β) (PX c0 α0) := by
    unfold f_Par_takeSort_j37
    refine tI.ite (fun _ => ?_) (fun _ => qa.1.refuseI N)
    unfold f_Par_takeSort_j59
    obtain ⟨v, ev⟩ := value_ok (N := N) (α := f_Lex_advance α) hN
    rw [ev, obs]
    refine tI.ite (fun _ => ?_) (fun _ => qa.1.failAtI N 3 _)
    unfold f_Par_takeSort_j88
    exact tI.ret ⟨qa.adv, ca.tr (adv_t qa.1.1).2⟩
  unfold f_Par_takeSort
  exact tI.ite (fun _ => tI.ret ⟨qa, ca⟩) (fun _ => tI.ite (fun _ => j37) (fun _ => q.1.refuseI N))
theorem recursor_ok (hN : 2 ^ 31 ≤ N) (q : PQ c0 α0 c K nb s O α) : tI (f_Par_takeRecursor N α) (fun v β => PQ c0 α0 c K nb s O β ∧ ch [3, 4, 6, 9, 10, 11, 12] [] α β ∧ qP β v) (PX c0 α0) := by
  have hK := q.1.2.1.2.2.1
  have hc3 := q.1.2.1.2.1
  have j78 : ∀ y, tI (f_Par_takeRecursor_j78 N y α) (fun v β => PQ c0 α0 c K nb s O β ∧ ch [3, 4, 6, 9, 10, 11, 12] [] α β ∧ qP β v) (PX c0 α0) := fun y => by
    unfold f_Par_takeRecursor_j78
    exact q.1.failAtI N 2 _
  have j93 : ∀ k, k < K → tI (f_Par_takeRecursor_j93 N (nI k) α) (fun v β => PQ c0 α0 c K nb s O β ∧ ch [3, 4, 6, 9, 10, 11, 12] [] α β ∧ qP β v) (PX c0 α0) := by
    intro k hk
    unfold f_Par_takeRecursor_j93
    have qa := q.adv
    have ca := (adv_t q.1.1).2
    refine (sort_ok hN qa).bi (fun v β u => ?_) (fun β u => u)
    obtain ⟨u1, u2⟩ := u
    refine (mk_l (k := 4) (by omega) u1.1.1 (by decide) (nI k) v (fun _ => ⟨k, rfl, hk⟩)).bi (fun w γ p => ?_) (fun γ p => (u1.1.ch p.1 p.2 (by simp) (by simp)).x)
    obtain ⟨p1, p2, j, rfl, p3, -⟩ := p
    exact tI.ret ⟨u1.ch p1 p2 (by unfold l12; rw [p2.int (by decide)]; exact u1.2.1) (by decide) (by decide), ((ca.tr u2).mo (by decide) (by decide)).tr (p2.mo (by decide) (by decide)), j, rfl, p3⟩
  have j55 : ∀ y1 t0, (y1 = -1 ∨ ∃ k, y1 = nI k ∧ k < K) → tI (f_Par_takeRecursor_j55 N y1 t0 α) (fun v β => PQ c0 α0 c K nb s O β ∧ ch [3, 4, 6, 9, 10, 11, 12] [] α β ∧ qP β v) (PX c0 α0) := by
    intro y1 t0 hy
    unfold f_Par_takeRecursor_j55
    refine tI.ite (fun _ => j78 _) (fun n1 => tI.ite (fun _ => tI.ite (fun _ => ?_) (fun _ => j78 _)) (fun _ => j78 _))
    obtain ⟨k, rfl, hk⟩ := hy.resolve_left n1
    exact j93 k hk
  have j41 : ∀ y1, (y1 = -1 ∨ ∃ k, y1 = nI k ∧ k < K) → tI (f_Par_takeRecursor_j41 N y1 α) (fun v β => PQ c0 α0 c K nb s O β ∧ ch [3, 4, 6, 9, 10, 11, 12] [] α β ∧ qP β v) (PX c0 α0) := by
    intro y1 hy
    unfold f_Par_takeRecursor_j41
    exact tI.ite (fun _ => j55 _ _ hy) (fun _ => j55 _ _ hy)
  unfold f_Par_takeRecursor
  refine tI.ite (fun _ => ?_) (fun _ => q.1.refuseI N)
  unfold f_Par_takeRecursor_j15
  obtain ⟨v1, e1⟩ := bat_ok (N := N) hN q.1.1
  rw [e1, obs]
  refine tI.ite (fun _ => ?_) (fun _ => j41 _ (Or.inl rfl))
  obtain ⟨v2, e2, h2⟩ := find_ok (N := N) hN q.1.1 q.1.2.1.1 hc3 (L := K) (by omega)
  rw [q.2.2.2.1, e2, obs]
  exact j41 _ (h2.imp id (fun ⟨k, y1, y2, _⟩ => ⟨k, y1, y2⟩))
/-- the TERM at hand is whole -/
theorem whole_PI {β : kS} {x : Int32} (q : PQ c0 α0 c K nb s O β) (hO : O ≠ []) (hb : nb0 O) (e14 : β.1 14 = nI (ns false O)) (hns : ns false O ≤ 100) (hx : qP β x) : PI c0 α0 (f_Par_beWhole x β) := by
  obtain ⟨f, fs, rfl⟩ := List.exists_cons_of_ne_nil hO
  obtain ⟨⟨n, h1, h2, h3⟩, -⟩ := q.2.2.2.2.1
  have hn : 5 ≤ n := by
    have : n = 0 ∨ n = 1 ∨ n = 2 ∨ n = 3 ∨ n = 4 ∨ 5 ≤ n := by omega
    rcases this with rfl | rfl | rfl | rfl | rfl | z
    · exact False.elim h3
    · exact False.elim h3
    · exact False.elim h3
    · exact False.elim h3
    · exact False.elim h3
    · exact z
  have q1 : PQ c0 α0 c K nb s (f :: fs) (kSi β 15 x) := q.si (by omega)
  unfold f_Par_beWhole
  rw [held0 q1.1.1 q1.2.2.1, h1]
  have d3 : decide (n = 3) = false := decide_eq_false (by omega)
  refine ⟨c, K, nb, n, f :: fs, (q1.st hO).si (by omega), rfl, h2, ?_, ?_, fun y => by omega, fun _ => hO, fun _ => hb, fun y => by omega, fun y => by omega, fun _ => ⟨?_, fun g hg => ?_⟩⟩
  · rw [d3]; exact e14
  · rw [d3, if_neg (by omega)]; exact hns
  · exact hx.g ((ch.si (I := [13, 15]) (R := []) (α := β) (i := 15) (v := x) (by decide) (by decide)).tr (ch.si (by decide) (by decide))).2.2
  · have : g = f := by simpa using hg.symm
    rw [this]; exact h1
end PAROPS
