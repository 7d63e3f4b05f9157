-- the tests of a family: what they use
section OVER
variable {N K m : Nat}
/-- PI PARAMETERS -/
theorem over_go (hN : 524288 < N) : ∀ (i nn x : Nat) (β : kS), tT K β → i ≤ (β.2.1 11).length → (∀ p, p ∈ β.2.1 11 → qP β p) → qT β x → i < nn → i < 2 ^ 20 →
    tI (f_Par_overParameters_12 N nn (nI i - 1) (nI x) β) (fun v γ => tT K γ ∧ ch [3, 4, 6] [] β γ ∧ ∃ j, v = nI j ∧ qT γ j ∧ i + nD β x ≤ nD γ j) (fun γ => tT K γ ∧ ch [3, 4, 6] [] β γ)
  | 0, nn, x, β, h, _, _, hx, hn, _ => by
    obtain ⟨nn, rfl⟩ : ∃ n', nn = n' + 1 := ⟨nn - 1, by omega⟩
    rw [f_Par_overParameters_12, if_pos (by decide)]
    exact tI.ret ⟨h, ch.rf, x, rfl, hx, by omega⟩
  | i + 1, nn, x, β, h, hl, hq, hx, hn, hi => by
    obtain ⟨nn, rfl⟩ : ∃ n', nn = n' + 1 := ⟨nn - 1, by omega⟩
    have hp : qP β (fR_at β 11 (nI i)) := by
      rw [at_e h (by decide) (by omega)]
      refine hq _ ?_
      rw [List.getD_eq_getElem?_getD, List.getElem?_eq_getElem (by omega)]
      exact List.getElem_mem _
    obtain ⟨a, ea, qa⟩ := hp
    rw [f_Par_overParameters_12, nI_pred, if_neg (nI_pos (by omega)), ea]
    refine (mk_n (k := 6) hN h (by decide) (by decide) qa hx).bi (fun v γ q => ?_) (fun γ q => q)
    obtain ⟨q1, q2, j, rfl, q3, q4, q5, q6⟩ := q
    rw [← Int32.sub_eq_add_neg]
    have hd : nD β x + 1 ≤ nD γ j := by
      have hn' := q1.1.1.n.2.1
      have hx1 := hx.1
      have hg1 := q2.2.2.1
      obtain ⟨-, e2, -, -, -, -, -, e3⟩ := partsN q1.1.1 q1.2.1 q3.1 (by omega)
      have e4 : rtN γ j = x := by unfold rtN; rw [q6, nI_clamp (by omega)]
      rw [e4, if_neg (by omega), if_neg (by omega), (g_n q2.2.2 hx.1).2.2.1] at e3
      omega
    refine (over_go hN i nn j γ q1 (by rw [q2.row (by decide) (by decide)]; omega) (fun p hp => (hq p (by rw [← q2.row (r := 11) (by decide) (by decide)]; exact hp)).g q2.2.2) q3 (by omega) (by omega)).mono (fun v δ u => ?_) (fun δ u => ⟨u.1, q2.tr u.2⟩)
    obtain ⟨u1, u2, j2, u3, u4, u5⟩ := u
    exact ⟨u1, q2.tr u2, j2, u3, u4, by omega⟩
theorem over_ok {β : kS} {x : Nat} (hN : 2 ^ 31 ≤ N) (h : tT K β) (hq : ∀ p, p ∈ β.2.1 11 → qP β p) (hx : qT β x) :
    tI (f_Par_overParameters N (nI x) β) (fun v γ => tT K γ ∧ ch [3, 4, 6] [] β γ ∧ ∃ j, v = nI j ∧ qT γ j ∧ (β.2.1 11).length + nD β x ≤ nD γ j) (fun γ => tT K γ ∧ ch [3, 4, 6] [] β γ) := by
  have := row_sm h (r := 11) (by decide)
  exact over_go (by omega) (β.2.1 11).length N x β h (Nat.le_refl _) hq hx (by omega) this
end OVER
section ENDS
variable {N K fam n q : Nat}
theorem ends_go (hN : 2 ^ 31 ≤ N) {a : Nat} {k : Nat} (hk : k ≤ 1499) : ∀ (d i nn : Nat) (β : kS), tT K β → qT β a → aP β k (nI a) → i + d = k → d < nn → ∃ v γ, f_Fam_endsInFamily_63 N nn (nI i) (nI k) (nI a) β = some (some (some v), γ) ∧ tT K γ ∧ ch [] [2, 3] β γ
  | 0, i, nn, β, h, ha, hp, hi, hn => by
    obtain ⟨nn, rfl⟩ : ∃ n', nn = n' + 1 := ⟨nn - 1, by omega⟩
    rw [f_Fam_endsInFamily_63, if_pos (nI_le (by omega) (by omega))]
    exact ⟨_, _, rfl, h, ch.rf⟩
  | d + 1, i, nn, β, h, ha, hp, hi, hn => by
    obtain ⟨nn, rfl⟩ : ∃ n', nn = n' + 1 := ⟨nn - 1, by omega⟩
    have ek : (nI k - 1) - nI i = nI (k - 1 - i) := by
      rw [show nI k - 1 = nI (k - 1) from pk_sub (a := k) (b := 1) (by omega), pk_sub (a := k - 1) (b := i) (by omega)]
    have nx : ∀ (t0 : Int32) (γ : kS), tT K γ → ch [] [2, 3] β γ → ∃ v δ, f_Fam_endsInFamily_j151 N (f_Fam_endsInFamily_63 N nn) (nI i) (nI k) (nI a) t0 γ = some (some (some v), δ) ∧ tT K δ ∧ ch [] [2, 3] β δ := by
      intro t0 γ g1 g2
      unfold f_Fam_endsInFamily_j151
      by_cases z : t0 = 0
      · rw [if_pos z]; exact ⟨_, _, rfl, g1, g2⟩
      · rw [if_neg z, nI_1]
        obtain ⟨v, δ, e, d1, d2⟩ := ends_go hN hk d (i + 1) nn γ g1 (ha.g g2.2.2) (aP_g h.1.1 h.2.1 g1.1.1 g2.2.2 k ⟨a, rfl, ha⟩ hp) (by omega) (by omega)
        exact ⟨v, δ, e, d1, g2.tr d2⟩
    rw [f_Fam_endsInFamily_63, if_neg (nI_ge (by omega) (by omega)), ek, fromLast_ok (N := N) (by omega) (by omega), obs]
    obtain ⟨t, et, qt⟩ := fromLast_vP h.1.1 h.2.1 (k := k - 1 - i) (p := nI a) ⟨a, rfl, ha⟩ (aP_le k _ hp (by omega))
    rw [et]
    by_cases z1 : β.1 26 ≤ nI i
    · rw [if_pos z1]
      obtain ⟨v, γ, e, g1, g2, -⟩ := has_ok (N := N) (x2 := 3) (x3 := β.1 25) (by omega) h qt.1
      rw [e, kBi_s]
      by_cases z2 : v = 0
      · rw [if_pos z2]; exact nx _ γ g1 g2
      · rw [if_neg z2]; exact nx _ γ g1 g2
    · rw [if_neg z1]
      unfold f_Fam_endsInFamily_j125
      by_cases z2 : f_Terms_kind (nI t) β = 1
      · rw [if_pos z2]
        by_cases z3 : f_Terms_left (nI t) β = nI i
        · rw [if_pos z3]; exact nx _ β h ch.rf
        · rw [if_neg z3]; exact nx _ β h ch.rf
      · rw [if_neg z2]; exact nx _ β h ch.rf
/-- a TERM ends in the family or not; what it says is so -/
theorem ends_ok (hN : 2 ^ 31 ≤ N) {a : Nat} {β : kS} (h : tT K β) (ha : qT β a) (e26 : β.1 26 = nI n) (e27 : β.1 27 = nI q) (hn : n ≤ 4096) (hq : q ≤ 4096) : ∃ v γ, f_Fam_endsInFamily N (nI a) β = some (some (some v), γ) ∧ tT K γ ∧ ch [] [2, 3] β γ ∧ (v ≠ 0 → aP β (n + q) (nI a)) := by
  obtain ⟨p, ep, -⟩ := head_ok (N := N) (by omega) h.1.1 h.2.1 (p := nI a) ⟨a, rfl, ha⟩
  obtain ⟨k, ek, hk, ak⟩ := behind_sz (N := N) (by omega) h.1.1 h.2.1 (nI a)
  have no : ∃ v γ, some (some (some (0 : Int32)), β) = some (some (some v), γ) ∧ tT K γ ∧ ch [] [2, 3] β γ ∧ (v ≠ 0 → aP β (n + q) (nI a)) := ⟨0, β, rfl, h, ch.rf, fun z => absurd rfl z⟩
  unfold f_Fam_endsInFamily
  rw [ep, obs]
  by_cases z1 : f_Terms_kind p β = 3
  · rw [if_pos z1]
    by_cases z2 : f_Terms_left p β = β.1 25
    · rw [if_pos z2, ek, obs, e26, e27, nI_add]
      by_cases z3 : nI k = nI (n + q)
      · rw [if_pos z3]
        have e : k = n + q := (nI_eq (by omega) (by omega)).mp z3
        rw [← e]
        obtain ⟨v, γ, e1, g1, g2⟩ := ends_go (N := N) hN hk k 0 N β h ha ak (by omega) (by omega)
        exact ⟨v, γ, e1, g1, g2, fun _ => ak⟩
      · rw [if_neg z3]; exact no
    · rw [if_neg z2]; exact no
  · rw [if_neg z1]; exact no
/-- an ARGUMENT that names the family is RECURSIVE or not -/
theorem isrec_go (hN : 2 ^ 31 ≤ N) (hn : n ≤ 4096) (hq : q ≤ 4096) : ∀ (l : List Nat) (t e i nn : Nat) (β : kS), tT K β → qT β t → pc β t l e → β.1 26 = nI n → β.1 27 = nI q → i + l.length < 3000 → l.length < nn → ∃ v γ, f_Fam_isRecursive_4 N nn (nI i) (nI t) β = some (some (some v), γ) ∧ tT K γ ∧ ch [] [2, 3] β γ ∧ (v ≠ 0 → aP β (n + q) (nI e))
  | [], t, e, i, nn, β, h, ht, hp, e26, e27, hi, hnn => by
    obtain ⟨nn, rfl⟩ : ∃ n', nn = n' + 1 := ⟨nn - 1, by omega⟩
    obtain ⟨rfl, h6⟩ := hp
    obtain ⟨v, γ, e1, g1, g2, g3⟩ := ends_ok (N := N) hN h ht e26 e27 hn hq
    have hi : i + 0 < 3000 := hi
    have k6 : ¬ f_Terms_kind (nI e) β = 6 := fun z => h6 (kd_is h.1.1 ht.1 (k := 6) (by decide) z)
    rw [f_Fam_isRecursive_4, if_neg (l3_lt (by omega)), if_neg k6, e1, kBi_s]
    refine ⟨_, γ, rfl, g1, g2, fun z => g3 fun y => z ?_⟩
    rw [y]
    decide
  | d :: l, t, e, i, nn, β, h, ht, hp, e26, e27, hi, hnn => by
    obtain ⟨nn, rfl⟩ : ∃ n', nn = n' + 1 := ⟨nn - 1, by omega⟩
    have hi : i + (l.length + 1) < 3000 := hi
    have hnn : l.length + 1 < nn + 1 := hnn
    obtain ⟨h6, rfl, hp⟩ := hp
    obtain ⟨e1, e2, hl, hr, h9, h8, -⟩ := partsN h.1.1 h.2.1 ht.1 (by omega)
    have k6 : f_Terms_kind (nI t) β = 6 := by rw [kd_at h.1.1 ht.1, h6]; rfl
    have ht1 := ht.1
    rw [f_Fam_isRecursive_4, if_neg (l3_lt (by omega)), if_pos k6, lf_in h.1.1 ht.1, e1]
    obtain ⟨v, γ, e3, g1, g2, -⟩ := has_ok (N := N) (x2 := 3) (x3 := β.1 25) (t := lfN β t) (by omega) h (by omega)
    rw [e3, kBi_s]
    by_cases z : v = 0
    · rw [if_pos z, nI_1]
      have er : f_Terms_right (nI t) γ = nI (rtN β t) := by
        rw [rt_in g1.1.1 (Nat.lt_of_lt_of_le ht.1 g2.2.2.1), (g_n g2.2.2 ht.1).2.2.2.2.2, e2]
      rw [er]
      have qr : qT β (rtN β t) := ⟨by omega, fun y => by have := h8.mp y; omega⟩
      obtain ⟨v2, δ, e4, d1, d2, d3⟩ := isrec_go hN hn hq l (rtN β t) e (i + 1) nn γ g1 (qr.g g2.2.2) ((pc_g h.1.1 h.2.1 g2.2.2 l _ e qr.1).mpr hp) ((g2.int (by decide)).trans e26) ((g2.int (by decide)).trans e27) (by omega) (by omega)
      have he := (pc_in h.1.1 h.2.1 l _ e qr.1 hp).1
      exact ⟨v2, δ, e4, d1, g2.tr d2, fun y => (aP_gi h.1.1 h.2.1 g1.1.1 g2.2.2 (n + q) e (by omega)).mp (d3 y)⟩
    · rw [if_neg z]
      exact ⟨0, γ, rfl, g1, g2, fun y => absurd rfl y⟩
theorem isrec_ok (hN : 2 ^ 31 ≤ N) {t : Nat} {β : kS} (h : tT K β) (ht : qT β t) (e26 : β.1 26 = nI n) (e27 : β.1 27 = nI q) (hn : n ≤ 4096) (hq : q ≤ 4096) : ∃ v γ, f_Fam_isRecursive N (nI t) β = some (some (some v), γ) ∧ tT K γ ∧ ch [] [2, 3] β γ ∧ (v ≠ 0 → eN β (n + q) t) := by
  obtain ⟨l, e, hp⟩ := pc_ex h.1.1 h.2.1 t ht.1
  have hd := (pc_in h.1.1 h.2.1 l t e ht.1 hp).2.1
  have := (h.2.1 t ht.1).2.2.1.2
  obtain ⟨v, γ, e1, g1, g2, g3⟩ := isrec_go (N := N) hN hn hq l t e 0 N β h ht hp e26 e27 (by omega) (by omega)
  exact ⟨v, γ, e1, g1, g2, fun z => ⟨l, e, hp, g3 z⟩⟩
/-- whether a VARIABLE is an INDEX -/
theorem isidx_go (hN : 2 ^ 31 ≤ N) {β : kS} {x : Int32} (e27 : β.1 27 = nI q) (hq : q ≤ 4096) : ∀ (d i nn : Nat), i + d = q → d < nn → ∃ v, f_Fam_isIndex_2 N β nn (nI i) x = some v
  | 0, i, nn, hi, hn => by
    obtain ⟨nn, rfl⟩ : ∃ n', nn = n' + 1 := ⟨nn - 1, by omega⟩
    rw [f_Fam_isIndex_2, e27, if_pos (nI_le (by omega) (by omega))]
    exact ⟨_, rfl⟩
  | d + 1, i, nn, hi, hn => by
    obtain ⟨nn, rfl⟩ : ∃ n', nn = n' + 1 := ⟨nn - 1, by omega⟩
    rw [f_Fam_isIndex_2, e27, if_neg (nI_ge (by omega) (by omega)), fromLast_ok (N := N) (by omega) (by omega)]
    show ∃ v, (if _ = x then some (1 : Int32) else f_Fam_isIndex_2 N β nn (nI i + 1) x) = some v
    split
    · exact ⟨_, rfl⟩
    · rw [nI_1]
      exact isidx_go hN e27 hq d (i + 1) nn (by omega) (by omega)
theorem isdet_go (hN : 2 ^ 31 ≤ N) (hq : q ≤ 4096) : ∀ (d i nn : Nat) (β : kS), tT K β → β.1 27 = nI q → (β.2.1 15).length = i + d → d < nn →
    tI (f_Fam_isDetermined_2 N nn (nI i) β) (fun _ γ => tT K γ ∧ ch [3, 4, 6, 100] [] β γ) (fun γ => tT K γ ∧ ch [3, 4, 6, 100] [] β γ)
  | 0, i, nn, β, h, e27, hl, hn => by
    obtain ⟨nn, rfl⟩ : ∃ n', nn = n' + 1 := ⟨nn - 1, by omega⟩
    have := row_sm h (r := 15) (by decide)
    rw [f_Fam_isDetermined_2, if_pos (by unfold fR_size; rw [hl]; exact nI_le (by omega) (by omega))]
    exact tI.ret ⟨h, ch.rf⟩
  | d + 1, i, nn, β, h, e27, hl, hn => by
    obtain ⟨nn, rfl⟩ : ∃ n', nn = n' + 1 := ⟨nn - 1, by omega⟩
    have := row_sm h (r := 15) (by decide)
    rw [f_Fam_isDetermined_2, if_neg (by unfold fR_size; rw [hl]; exact nI_ge (by omega) (by omega)), nI_1]
    refine tI.ite (fun _ => isdet_go hN hq d (i + 1) nn β h e27 (by omega) (by omega)) (fun _ => ?_)
    refine (mk_f (by omega) h _ 0).bi (fun v γ u => ?_) (fun γ u => u)
    obtain ⟨g1, g2, -⟩ := u
    obtain ⟨w, ew⟩ := isidx_go (N := N) hN (β := γ) (x := v) ((g2.int (by decide)).trans e27) hq q 0 N (by omega) (by omega)
    rw [show f_Fam_isIndex N v γ = some w from ew, obs]
    refine tI.ite (fun _ => tI.ret ⟨g1, g2⟩) (fun _ => ?_)
    refine (isdet_go hN hq d (i + 1) nn γ g1 ((g2.int (by decide)).trans e27) (by rw [g2.row (by decide) (by decide)]; omega) (by omega)).mono (fun _ δ y => ⟨y.1, g2.tr y.2⟩) (fun δ y => ⟨y.1, g2.tr y.2⟩)
end ENDS
