-- Lexer: scan and begin end
theorem word_go {N T : Nat} (hN : 2 ^ 31 < N) (hT : T < 2 ^ 30) : ∀ (d p n : Nat) (β : kS), (β.2.1 0).length = T → β.1 8 = nI p → p < 2 ^ 30 → T ≤ p + d → d < n → ∃ γ q, f_Lex_scanWord_0 N n β = some (some none, γ) ∧ (γ.2 = β.2 ∧ (∀ j, j ≠ 8 → j ≠ 10 → j ≠ 12 → γ.1 j = β.1 j) ∧ γ.1 8 = nI q ∧ p ≤ q) ∧ q ≤ max p T := by
  have fin : ∀ (p : Nat) (β : kS), β.1 8 = nI p → ∃ γ q, f_Lex_scanWord_j44 N β = some (some none, γ) ∧ (γ.2 = β.2 ∧ (∀ j, j ≠ 8 → j ≠ 10 → j ≠ 12 → γ.1 j = β.1 j) ∧ γ.1 8 = nI q ∧ p ≤ q) ∧ q ≤ max p T := fun p β h2 => by
    have e : ∀ (y t : Int32), ∃ γ q, f_Lex_scanWord_j82 N y t β = some (some none, γ) ∧ (γ.2 = β.2 ∧ (∀ j, j ≠ 8 → j ≠ 10 → j ≠ 12 → γ.1 j = β.1 j) ∧ γ.1 8 = nI q ∧ p ≤ q) ∧ q ≤ max p T := fun y t => by
      unfold f_Lex_scanWord_j82
      by_cases h : y = 0
      · rw [if_pos h]
        exact ⟨_, p, rfl, ⟨rfl, fun j a b c => (kup_n b).trans (kup_n c), h2, Nat.le_refl _⟩, by omega⟩
      · rw [if_neg h]
        obtain ⟨v, ev, -⟩ := wordKind_ok (N := N) (α := kSi β 12 t) (by omega)
        rw [ev]
        exact ⟨_, p, rfl, ⟨rfl, fun j a b c => (kup_n b).trans (kup_n c), h2, Nat.le_refl _⟩, by omega⟩
    unfold f_Lex_scanWord_j44
    by_cases h : 31 < β.1 8 - β.1 11
    · rw [if_pos h]
      unfold f_Lex_scanWord_j63
      rw [if_pos rfl]; exact e _ _
    · rw [if_neg h]
      unfold f_Lex_scanWord_j63
      rw [if_neg (by decide)]; exact e _ _
  intro d
  induction d with
  | zero =>
    intro p n β h1 h2 h3 h4 h5
    obtain ⟨n, rfl⟩ : ∃ n', n = n' + 1 := ⟨n - 1, by omega⟩
    have c : fR_size β 0 ≤ β.1 8 := by unfold fR_size; rw [h1, h2]; exact nI_le (by omega) (by omega)
    rw [f_Lex_scanWord_0, if_pos c]
    exact fin p β h2
  | succ d ih =>
    intro p n β h1 h2 h3 h4 h5
    obtain ⟨n, rfl⟩ : ∃ n', n = n' + 1 := ⟨n - 1, by omega⟩
    rw [f_Lex_scanWord_0]
    by_cases c : fR_size β 0 ≤ β.1 8
    · rw [if_pos c]; exact fin p β h2
    · rw [if_neg c]
      have hp : p < T := by
        unfold fR_size at c
        rw [h1, h2] at c
        exact Nat.not_le.mp fun q => c (nI_le q (by omega))
      by_cases c2 : f_Lex_isInWord (fR_at β 0 (β.1 8)) β = 0
      · rw [if_pos c2]; exact fin p β h2
      · rw [if_neg c2]
        have e : (kSi β 8 (β.1 8 + 1)).1 8 = nI (p + 1) := by
          show β.1 8 + 1 = nI (p + 1)
          rw [h2]; exact nI_1 p
        obtain ⟨γ, q, g1, g2, g3⟩ := ih (p + 1) n (kSi β 8 (β.1 8 + 1)) h1 e (by omega) (by omega) (by omega)
        exact ⟨γ, q, g1, ⟨g2.1, fun j a b c => (g2.2.1 j a b c).trans (kup_n a), g2.2.2.1, by have := g2.2.2.2; omega⟩, by omega⟩
theorem word_first {N T p : Nat} {β : kS} (hN : 2 ^ 31 < N) (hT : T < 2 ^ 30) (h1 : (β.2.1 0).length = T) (h2 : β.1 8 = nI p) (hp : p < T) (hl : ¬ f_Lex_isInWord (fR_at β 0 (β.1 8)) β = 0) : ∃ γ q, f_Lex_scanWord N β = some (some none, γ) ∧ γ.2 = β.2 ∧ (∀ j, j ≠ 8 → j ≠ 10 → j ≠ 12 → γ.1 j = β.1 j) ∧ γ.1 8 = nI q ∧ p < q ∧ q ≤ T := by
  obtain ⟨n, rfl⟩ : ∃ n', N = n' + 1 := ⟨N - 1, by omega⟩
  have c : ¬ fR_size β 0 ≤ β.1 8 := by unfold fR_size; rw [h1, h2]; exact nI_ge (by omega) (by omega)
  have e : (kSi β 8 (β.1 8 + 1)).1 8 = nI (p + 1) := by
    show β.1 8 + 1 = nI (p + 1)
    rw [h2]; exact nI_1 p
  obtain ⟨γ, q, g1, g2, g3⟩ := word_go (N := n + 1) hN hT T (p + 1) n (kSi β 8 (β.1 8 + 1)) h1 e (by omega) (by omega) (by omega)
  refine ⟨γ, q, ?_, g2.1, fun j a b c => (g2.2.1 j a b c).trans (kup_n a), g2.2.2.1, by have := g2.2.2.2; omega, by omega⟩
  show f_Lex_scanWord_0 (n + 1) (n + 1) β = _
  rw [f_Lex_scanWord_0, if_neg c, if_neg hl]
  exact g1
theorem number_first {N T p : Nat} {β : kS} (hN : 2 ^ 31 < N) (hT : T < 2 ^ 30) (h1 : (β.2.1 0).length = T) (h2 : β.1 8 = nI p) (hp : p < T) (hl : ¬ f_Lex_isDigit (fR_at β 0 (β.1 8)) β = 0) : ∃ γ q, f_Lex_scanNumber N β = some (some none, γ) ∧ γ.2 = β.2 ∧ (∀ j, j ≠ 8 → j ≠ 10 → j ≠ 12 → γ.1 j = β.1 j) ∧ γ.1 8 = nI q ∧ p < q ∧ q ≤ T := by
  obtain ⟨n, rfl⟩ : ∃ n', N = n' + 1 := ⟨N - 1, by omega⟩
  have c : ¬ fR_size β 0 ≤ β.1 8 := by unfold fR_size; rw [h1, h2]; exact nI_ge (by omega) (by omega)
  have e : (kSi β 8 (β.1 8 + 1)).1 8 = nI (p + 1) := by
    show β.1 8 + 1 = nI (p + 1)
    rw [h2]; exact nI_1 p
  obtain ⟨γ, q, g1, g2, g3⟩ := number_go (N := n + 1) hT T (p + 1) n (kSi β 8 (β.1 8 + 1)) h1 e (by omega) (by omega) (by omega)
  refine ⟨γ, q, ?_, g2.1, fun j a b c => (g2.2.1 j a b c).trans (kup_n a), g2.2.2.1, by have := g2.2.2.2.1; omega, by omega⟩
  show f_Lex_scanNumber_0 (n + 1) (n + 1) β = _
  rw [f_Lex_scanNumber_0, if_neg c, if_neg hl]
  exact g1
def sg (β : kS) (p : Nat) (γ : kS) : Prop := γ.2 = β.2 ∧ (∀ j, j ≠ 8 → j ≠ 10 → γ.1 j = β.1 j) ∧ ∃ q, γ.1 8 = nI q ∧ p < q ∧ q ≤ p + 2
theorem sg_ite {β : kS} {p : Nat} {c : Prop} [Decidable c] {a b : kS} (ha : sg β p a) (hb : sg β p b) : sg β p (if c then a else b) := by
  by_cases h : c
  · rw [if_pos h]; exact ha
  · rw [if_neg h]; exact hb
theorem sign_ok {β : kS} {p : Nat} (h2 : β.1 8 = nI p) (a b : Int32) : sg β p (f_Lex_scanSign a b β) := by
  have e56 : ∀ (y3 t0 : Int32) (k : Nat), t0 = nI k → 1 ≤ k → k ≤ 2 → sg β p (f_Lex_scanSign_j56 y3 a t0 (β.1 8) β) := by
    intro y3 t0 k e h1 h3
    subst e
    have hx : ∀ w : Int32, sg β p (kSi (kSi β 8 (β.1 8 + nI k)) 10 w) := fun w => by
      refine ⟨rfl, fun j a b => (kup_n b).trans (kup_n a), p + k, ?_, by omega, by omega⟩
      show β.1 8 + nI k = _
      rw [h2, nI_add]
    unfold f_Lex_scanSign_j56
    repeat' first | exact hx _ | apply sg_ite
  have e41 : ∀ t0 : Int32, sg β p (f_Lex_scanSign_j41 a t0 β) := by
    intro t0
    unfold f_Lex_scanSign_j41
    exact sg_ite (e56 _ _ 1 rfl (by decide) (by decide)) (e56 _ _ 2 rfl (by decide) (by decide))
  unfold f_Lex_scanSign f_Lex_scanSign_j12 f_Lex_scanSign_j24 f_Lex_scanSign_j36 f_Lex_scanSign_j40
  repeat' first | exact e41 _ | apply sg_ite
theorem scan_ok {N T p : Nat} {α : kS} (hN : 2 ^ 31 < N) (hT : T < 2 ^ 20) (h1 : (α.2.1 0).length = T) (h2 : α.1 8 = nI p) (hp : p ≤ T + 1) : ∃ γ q, f_Lex_scan N α = some (some none, γ) ∧ γ.2 = α.2 ∧ (∀ j, j ≠ 8 → j ≠ 10 → j ≠ 11 → j ≠ 12 → γ.1 j = α.1 j) ∧ γ.1 8 = nI q ∧ q ≤ T + 1 ∧ (γ.1 10 = 0 ∨ p < q) := by
  obtain ⟨α1, q, e, ⟨i1, i2⟩, e8, q1, q2⟩ := skip_ok (N := N) (T := T) (p := p) (by omega) (by omega) h1 h2 (by omega)
  obtain ⟨β, eβ⟩ : ∃ β, β = kSi (kSi α1 11 (α1.1 8)) 12 0 := ⟨_, rfl⟩
  have b2 : β.2 = α.2 := by rw [eβ]; exact i1
  have b8 : β.1 8 = nI q := by rw [eβ]; exact e8
  have bj : ∀ j, j ≠ 8 → j ≠ 11 → j ≠ 12 → β.1 j = α.1 j := fun j a b c => by rw [eβ]; exact (kup_n c).trans ((kup_n b).trans (i2 j a))
  have bl : (β.2.1 0).length = T := by rw [b2]; exact h1
  have e18 : α1.1 8 = β.1 8 := by rw [b8]; exact e8
  unfold f_Lex_scan
  rw [e]
  show ∃ γ q', (if α1.1 8 < fR_size (kSi (kSi α1 11 (α1.1 8)) 12 0) 0 then _ else _) = some (some none, γ) ∧ _
  rw [← eβ, e18]
  by_cases c : β.1 8 < fR_size β 0
  · rw [if_pos c]
    have hq : q < T := by
      unfold fR_size at c
      rw [bl, b8] at c
      exact (nI_ltI (by omega) (by omega)).mp c
    by_cases c1 : f_Lex_isLetter (fR_at β 0 (β.1 8)) β = 0
    · rw [if_pos c1]
      by_cases c2 : f_Lex_isDigit (fR_at β 0 (β.1 8)) β = 0
      · rw [if_pos c2]
        obtain ⟨s1, s2, q', s3, s4, s5⟩ := sign_ok b8 (fR_at β 0 (β.1 8)) (fR_at β 0 (β.1 8 + 1))
        exact ⟨_, q', rfl, s1.trans b2, fun j a b c d => (s2 j a b).trans (bj j a c d), s3, by omega, Or.inr (by omega)⟩
      · rw [if_neg c2]
        obtain ⟨γ, q', s1, s2, s3, s4, s5, s6⟩ := number_first hN (by omega) bl b8 hq c2
        rw [s1]
        exact ⟨_, q', rfl, s2.trans b2, fun j a b c d => (s3 j a b d).trans (bj j a c d), s4, by omega, Or.inr (by omega)⟩
    · rw [if_neg c1]
      have c3 : ¬ f_Lex_isInWord (fR_at β 0 (β.1 8)) β = 0 := by
        unfold f_Lex_isInWord
        rw [if_neg c1]
        decide
      obtain ⟨γ, q', s1, s2, s3, s4, s5, s6⟩ := word_first hN (by omega) bl b8 hq c3
      rw [s1]
      exact ⟨_, q', rfl, s2.trans b2, fun j a b c d => (s3 j a b d).trans (bj j a c d), s4, by omega, Or.inr (by omega)⟩
  · rw [if_neg c]
    exact ⟨_, q, rfl, b2, fun j a b c d => (kup_n b).trans (bj j a c d), b8, by omega, Or.inl rfl⟩
theorem same_t {K : Nat} {α β : kS} (h : tT K α) (e : β.2 = α.2) (e6 : β.1 6 = α.1 6) : tT K β := by
  obtain ⟨b1, b2⟩ := β
  obtain ⟨a1, a2⟩ := α
  have e' : b2 = a2 := e
  subst e'
  have en : tn (b1, b2) = tn (a1, b2) := by unfold tn; rw [e6]
  obtain ⟨⟨x, y, z⟩, u, w⟩ := h
  refine ⟨⟨?_, y, ?_⟩, ?_, ?_⟩
  · unfold kOk at x ⊢
    rw [e6]
    exact x
  · unfold tHs at z ⊢
    rw [en]
    exact z
  · unfold tWf at u ⊢
    rw [en]
    exact u
  · unfold tC at w ⊢
    rw [en]
    exact w
theorem same_ch {I R : List Nat} {α β : kS} (e : β.2 = α.2) (e6 : β.1 6 = α.1 6) (hi : ∀ i, i ∉ I → β.1 i = α.1 i) : ch I R α β := by
  have en : tn β = tn α := by unfold tn; rw [e6]
  have hg : grw α β := by
    refine ⟨by rw [en]; exact Nat.le_refl _, fun i _ => ?_⟩
    unfold tLf tRt
    rw [e]
    exact ⟨rfl, rfl, rfl⟩
  exact ⟨⟨hi, fun _ q => q.eq hg en⟩, fun r _ _ => by rw [e]; exact ⟨rfl, rfl⟩, hg⟩
theorem kMx7 : kMx 7 = 16384 := by decide
theorem begin_go {N K T : Nat} (hN : 2 ^ 31 < N) (hT : T ≤ 12000) : ∀ (d p n : Nat) (x : Int32) (β : kS), tT K β → (β.2.1 0).length = T → β.1 8 = nI p → p ≤ T + 1 → (β.2.1 7).length ≤ p + (if β.1 10 = 0 then 1 else 0) → T + 2 ≤ p + d → d < n → ∃ γ, f_Lex_begin_20 N n x β = some (some none, γ) ∧ tT K γ ∧ ch [8, 9, 10, 11, 12] [7] β γ := by
  have fin : ∀ β, tT K β → ∃ γ, f_Lex_begin_j69 N β = some (some none, γ) ∧ tT K γ ∧ ch [8, 9, 10, 11, 12] [7] β γ := fun β h => by
    have hi : ∀ i, i ∉ [8, 9, 10, 11, 12] → (f_Lex_advance (kSi β 9 (-1))).1 i = β.1 i := fun i hi => by
      simp only [List.mem_cons, List.not_mem_nil, or_false, not_or] at hi
      obtain ⟨h1, h2, h3, h4, h5⟩ := hi
      exact (kup_n h4).trans ((kup_n h5).trans ((kup_n h3).trans ((kup_n h2).trans (kup_n h2))))
    exact ⟨_, rfl, same_t h rfl (hi 6 (by decide)), same_ch rfl (hi 6 (by decide)) hi⟩
  intro d
  induction d with
  | zero => intro p n x β h h1 h2 h3 h4 h5; omega
  | succ d ih =>
    intro p n x β h h1 h2 h3 h4 h5 h6
    obtain ⟨n, rfl⟩ : ∃ n', n = n' + 1 := ⟨n - 1, by omega⟩
    rw [f_Lex_begin_20]
    by_cases c1 : 65536 < x
    · rw [if_pos c1]; exact fin β h
    rw [if_neg c1]
    by_cases c2 : β.1 10 = 0
    · rw [if_pos c2]; exact fin β h
    rw [if_neg c2]
    rw [if_neg c2] at h4
    obtain ⟨γ, q, e, g1, g2, g3, g4, g5⟩ := scan_ok hN (by omega) h1 h2 h3
    rw [e]
    have t1 : tT K γ := same_t h g1 (g2 6 (by decide) (by decide) (by decide) (by decide))
    have m1 : ch [8, 9, 10, 11, 12] [7] β γ := same_ch g1 (g2 6 (by decide) (by decide) (by decide) (by decide)) fun i hi => by
      simp only [List.mem_cons, List.not_mem_nil, or_false, not_or] at hi
      exact g2 i hi.1 hi.2.2.1 hi.2.2.2.1 hi.2.2.2.2
    have l7 : (γ.2.1 7).length = (β.2.1 7).length := by rw [g1]
    obtain ⟨M, e2, t2⟩ := push_t (r := 7) (f_Lex_named (γ.1 11) (γ.1 12) γ * 32 + γ.1 10) t1 (by decide) (by rw [kMx7, l7]; omega)
    show ∃ γ', kBv (fR_push γ 7 _) _ = _ ∧ _
    rw [e2]
    have m2 : ch [8, 9, 10, 11, 12] [7] γ (kRs γ 7 (γ.2.1 7 ++ [f_Lex_named (γ.1 11) (γ.1 12) γ * 32 + γ.1 10]) M) := ch.rs (by decide)
    have hrow : ((kRs γ 7 (γ.2.1 7 ++ [f_Lex_named (γ.1 11) (γ.1 12) γ * 32 + γ.1 10]) M).2.1 7).length = (β.2.1 7).length + 1 := by
      show (γ.2.1 7 ++ [_]).length = _
      rw [List.length_append, l7]; rfl
    rcases Nat.lt_or_ge p q with hq | hq
    · obtain ⟨δ, e3, t3, m3⟩ := ih q n (x + 1) (kRs γ 7 (γ.2.1 7 ++ [f_Lex_named (γ.1 11) (γ.1 12) γ * 32 + γ.1 10]) M) t2 (by show (γ.2.1 0).length = T; rw [g1]; exact h1) g3 g4 (by rw [hrow]; omega) (by omega) (by omega)
      exact ⟨δ, e3, t3, (m1.tr m2).tr m3⟩
    · have z : γ.1 10 = 0 := by
        rcases g5 with z | z
        · exact z
        · omega
      obtain ⟨n, rfl⟩ : ∃ n', n = n' + 1 := ⟨n - 1, by omega⟩
      obtain ⟨δ, e3, t3, m3⟩ := fin _ t2
      refine ⟨δ, ?_, t3, (m1.tr m2).tr m3⟩
      show f_Lex_begin_20 N (n + 1) (x + 1) _ = _
      rw [f_Lex_begin_20]
      by_cases c3 : 65536 < x + 1
      · rw [if_pos c3]; exact e3
      · rw [if_neg c3]
        exact (if_pos z).trans e3
/-- the whole TEXT becomes tokens -/
theorem lexer_ok {N K : Nat} {α : kS} (hN : 2 ^ 31 < N) (h : tT K α) (hT : (α.2.1 0).length ≤ 12000) : ∃ γ, f_Lex_begin N α = some (some none, γ) ∧ tT K γ ∧ ch [8, 9, 10, 11, 12] [7] α γ := by
  have a1 : tT K (kSl α 7 []) := h.sl (by decide) (Nat.zero_le _)
  unfold f_Lex_begin
  rw [cut0 h (by decide)]
  have m0 : ch [8, 9, 10, 11, 12] [7] α (kSi (kSi (kSl α 7 []) 8 0) 10 1) := ((ch.rs (by decide)).tr (ch.si (by decide) (by decide))).tr (ch.si (by decide) (by decide))
  obtain ⟨γ, e, t1, m1⟩ := begin_go (N := N) (K := K) (T := (α.2.1 0).length) hN hT ((α.2.1 0).length + 2) 0 N 0 (kSi (kSi (kSl α 7 []) 8 0) 10 1) ((a1.si (by decide)).si (by decide)) rfl rfl (by omega) (Nat.zero_le _) (by omega) (by omega)
  exact ⟨γ, e, t1, m0.tr m1⟩
theorem adv_t {K : Nat} {α : kS} (h : tT K α) : tT K (f_Lex_advance α) ∧ ch [9, 10, 11, 12] [] α (f_Lex_advance α) := by
  have hi : ∀ i, i ∉ [9, 10, 11, 12] → (f_Lex_advance α).1 i = α.1 i := fun i hi => by
    simp only [List.mem_cons, List.not_mem_nil, or_false, not_or] at hi
    obtain ⟨h2, h3, h4, h5⟩ := hi
    exact (kup_n h4).trans ((kup_n h5).trans ((kup_n h3).trans (kup_n h2)))
  exact ⟨same_t h rfl (hi 6 (by decide)), same_ch rfl (hi 6 (by decide)) hi⟩
