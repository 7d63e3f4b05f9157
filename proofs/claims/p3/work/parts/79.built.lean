-- a family's TERMS are built: what is used
theorem tT.up {K K' : Nat} {α : kS} (h : tT K α) (hk : K ≤ K') : tT K' α := ⟨h.1, h.2.1, fun i hi h34 => by
  obtain ⟨c, e, hc⟩ := h.2.2 i hi h34
  exact ⟨c, e, by omega⟩⟩
section BUILT
variable {N K : Nat}
/-- the answer is a TERM -/
abbrev bQ (K : Nat) (I R : List Nat) (α : kS) (v : Int32) (β : kS) : Prop := tT K β ∧ ch I R α β ∧ qP β v
abbrev bX (K : Nat) (I R : List Nat) (α β : kS) : Prop := tT K β ∧ ch I R α β
theorem split_go {r2 : Nat} (hr : r2 = 16 ∨ r2 = 18) : ∀ (l : List Nat) (t e i nn : Nat) (β : kS), tT K β → t < tn β → pc β t l e → (β.2.1 r2).length + l.length ≤ 256 → i + l.length < 3000 → l.length < nn → ∃ γ, f_Fam_split_10 N r2 nn (nI i) (nI t) β = some (some (some (nI e)), γ) ∧ tT K γ ∧ ch [] [r2] β γ ∧ γ.2.1 r2 = β.2.1 r2 ++ l.map nI
  | [], t, e, i, nn, β, h, ht, hp, hl, hi, hn => by
    obtain ⟨nn, rfl⟩ : ∃ n', nn = n' + 1 := ⟨nn - 1, by omega⟩
    obtain ⟨rfl, h6⟩ := hp
    have hi : i + 0 < 3000 := hi
    have k6 : ¬ f_Terms_kind (nI e) β = 6 := fun z => h6 (kd_is h.1.1 ht (k := 6) (by decide) z)
    refine ⟨β, ?_, h, ch.rf, by simp⟩
    rw [f_Fam_split_10, if_neg (l3_lt (by omega)), if_neg k6]
  | d :: l, t, e, i, nn, β, h, ht, hp, hl, hi, hn => by
    obtain ⟨nn, rfl⟩ : ∃ n', nn = n' + 1 := ⟨nn - 1, by omega⟩
    have hi : i + (l.length + 1) < 3000 := hi
    have hn : l.length + 1 < nn + 1 := hn
    have hl : (β.2.1 r2).length + (l.length + 1) ≤ 256 := hl
    obtain ⟨h6, rfl, hp⟩ := hp
    obtain ⟨e1, e2, hl', hr', -⟩ := partsN h.1.1 h.2.1 ht (by omega)
    have k6 : f_Terms_kind (nI t) β = 6 := by rw [kd_at h.1.1 ht, h6]; rfl
    have hmx : kMx r2 = 256 := by rcases hr with rfl | rfl <;> decide
    have hr21 : r2 < 21 := by omega
    obtain ⟨M, e3, t3⟩ := push_t (r := r2) (nI (lfN β t)) h hr21 (by rw [hmx]; omega)
    have c3 : ch [] [r2] β (kRs β r2 (β.2.1 r2 ++ [nI (lfN β t)]) M) := ch.rs (List.mem_singleton.mpr rfl)
    have er : f_Terms_right (nI t) (kRs β r2 (β.2.1 r2 ++ [nI (lfN β t)]) M) = nI (rtN β t) := (rt_in h.1.1 ht).trans e2
    have row : (kRs β r2 (β.2.1 r2 ++ [nI (lfN β t)]) M).2.1 r2 = β.2.1 r2 ++ [nI (lfN β t)] := krs_row
    obtain ⟨γ, g1, g2, g3, g4⟩ := split_go hr l (rtN β t) e (i + 1) nn _ t3 (Nat.lt_trans hr' ht) ((pc_g h.1.1 h.2.1 c3.2.2 l _ e (by omega)).mpr hp) (by rw [row, List.length_append]; show _ + 1 + _ ≤ _; omega) (by omega) (by omega)
    refine ⟨γ, ?_, g2, c3.tr g3, ?_⟩
    · rw [f_Fam_split_10, if_neg (l3_lt (by omega)), if_pos k6, lf_in h.1.1 ht, e1]
      refine (psh rfl e3).trans ?_
      rw [er, nI_1]
      exact g1
    · rw [g4, row, List.append_assoc]
      rfl
theorem split_ok {r2 t : Nat} {β : kS} (hN : 2 ^ 31 ≤ N) (hr : r2 = 16 ∨ r2 = 18) (h : tT K β) (ht : t < tn β) : ∃ l e γ, pc β t l e ∧ f_Fam_split N (nI t) r2 β = some (some (some (nI e)), γ) ∧ tT K γ ∧ ch [] [r2] β γ ∧ γ.2.1 r2 = l.map nI ∧ l.length ≤ 199 := by
  obtain ⟨l, e, hp⟩ := pc_ex h.1.1 h.2.1 t ht
  obtain ⟨he, hd, -⟩ := pc_in h.1.1 h.2.1 l t e ht hp
  have h1 := (h.2.1 t ht).2.2.1.2
  have h2 := (h.2.1 e (by omega)).2.2.1.1
  have hr21 : r2 < 21 := by omega
  have t1 : tT K (kSl β r2 []) := h.sl hr21 (Nat.zero_le _)
  have c1 : ch [] [r2] β (kSl β r2 []) := ch.rs (List.mem_singleton.mpr rfl)
  have row : (kSl β r2 []).2.1 r2 = [] := krs_row
  obtain ⟨γ, g1, g2, g3, g4⟩ := split_go (N := N) hr l t e 0 N (kSl β r2 []) t1 ht ((pc_g h.1.1 h.2.1 c1.2.2 l _ e ht).mpr hp) (by rw [row]; show 0 + _ ≤ _; omega) (by omega) (by omega)
  refine ⟨l, e, γ, hp, ?_, g2, c1.tr g3, by rw [g4, row]; rfl, by omega⟩
  unfold f_Fam_split
  rw [cut0 h hr21]
  exact g1
theorem app_go (hN : 524288 < N) {x2 x4 : Int32} {k : Nat} (hk : k < 2 ^ 31) : ∀ (d i nn x : Nat) (β : kS), tT K β → qT β x → i + d = k → d < nn → tI (f_Fam_applied_6 N nn (nI i) (nI x) x2 (nI k) x4 β) (bQ K [3, 4, 6] [] β) (bX K [3, 4, 6] [] β)
  | 0, i, nn, x, β, h, hx, hi, hn => by
    obtain ⟨nn, rfl⟩ : ∃ n', nn = n' + 1 := ⟨nn - 1, by omega⟩
    rw [f_Fam_applied_6, if_pos (nI_le (by omega) (by omega))]
    exact tI.ret ⟨h, ch.rf, x, rfl, hx⟩
  | d + 1, i, nn, x, β, h, hx, hi, hn => by
    obtain ⟨nn, rfl⟩ : ∃ n', nn = n' + 1 := ⟨nn - 1, by omega⟩
    rw [f_Fam_applied_6, if_neg (nI_ge (by omega) (by omega)), nI_1]
    refine (mk_l (k := 0) hN h (by decide) _ 0 (fun y => by omega)).bi (fun v γ q => ?_) (fun γ q => q)
    obtain ⟨q1, q2, j, rfl, q3, -⟩ := q
    refine (mk_n (k := 5) hN q1 (by decide) (by decide) (hx.g q2.2.2) q3).bi (fun w δ u => ?_) (fun δ u => ⟨u.1, q2.tr u.2⟩)
    obtain ⟨u1, u2, j2, rfl, u3, -⟩ := u
    have c := q2.tr u2
    exact (app_go hN hk d (i + 1) nn j2 δ u1 u3 (by omega) (by omega)).mono (fun _ ε y => ⟨y.1, c.tr y.2.1, y.2.2⟩) (fun ε y => ⟨y.1, c.tr y.2⟩)
theorem app_ok {β : kS} {x : Int32} (hN : 2 ^ 31 ≤ N) (h : tT K β) (hx : qP β x) (x2 x3 x4 : Int32) : tI (f_Fam_applied N x x2 x3 x4 β) (bQ K [3, 4, 6] [] β) (bX K [3, 4, 6] [] β) := by
  obtain ⟨j, rfl, hj⟩ := hx
  by_cases h0 : x3 < 0
  · obtain ⟨n, rfl⟩ : ∃ n', N = n' + 1 := ⟨N - 1, by omega⟩
    show tI (f_Fam_applied_6 (n + 1) (n + 1) 0 (nI j) x2 x3 x4 β) _ _
    rw [f_Fam_applied_6, if_pos (Int32.le_of_lt h0)]
    exact tI.ret ⟨h, ch.rf, j, rfl, hj⟩
  · obtain ⟨k, hk, rfl⟩ := nI_of h0
    exact app_go (by omega) hk k 0 N j β h hj (by omega) (by omega)
theorem bnd_go (hN : 524288 < N) {r2 kk : Nat} (hr : r2 < 21) (hk : kk = 6 ∨ kk = 7) : ∀ (i nn x : Nat) (β : kS), tT K β → i ≤ (β.2.1 r2).length → aQ β (β.2.1 r2) → qT β x → i < nn → tI (f_Fam_bound_11 N r2 nn (nI i - 1) (nI x) (nI kk) β) (bQ K [3, 4, 6] [] β) (bX K [3, 4, 6] [] β)
  | 0, nn, x, β, h, _, _, hx, hn => by
    obtain ⟨nn, rfl⟩ : ∃ n', nn = n' + 1 := ⟨nn - 1, by omega⟩
    rw [f_Fam_bound_11, if_pos (by decide)]
    exact tI.ret ⟨h, ch.rf, x, rfl, hx⟩
  | i + 1, nn, x, β, h, hl, hq, hx, hn => by
    obtain ⟨nn, rfl⟩ : ∃ n', nn = n' + 1 := ⟨nn - 1, by omega⟩
    have hsm := row_sm h hr
    have hp : qP β (fR_at β r2 (nI i)) := by
      rw [at_e h hr (by omega)]
      refine hq _ ?_
      rw [List.getD_eq_getElem?_getD, List.getElem?_eq_getElem (by omega)]
      exact List.getElem_mem _
    obtain ⟨a, ea, qa⟩ := hp
    rw [f_Fam_bound_11, nI_pred, if_neg (nI_pos (by omega)), ea]
    refine (mk_n (k := kk) hN h (by omega) (by omega) qa hx).bi (fun v γ q => ?_) (fun γ q => q)
    obtain ⟨q1, q2, j, rfl, q3, -⟩ := q
    rw [← Int32.sub_eq_add_neg]
    have row := q2.row hr (by simp)
    exact (bnd_go hN hr hk i nn j γ q1 (by rw [row]; omega) (by rw [row]; exact hq.g q2.2.2) q3 (by omega)).mono (fun _ ε y => ⟨y.1, q2.tr y.2.1, y.2.2⟩) (fun ε y => ⟨y.1, q2.tr y.2⟩)
theorem bnd_ok {β : kS} {x kd : Int32} {r2 kk : Nat} (hN : 2 ^ 31 ≤ N) (hr : r2 < 21) (hk : kk = 6 ∨ kk = 7) (ek : kd = nI kk) (h : tT K β) (hq : aQ β (β.2.1 r2)) (hx : qP β x) : tI (f_Fam_bound N kd r2 x β) (bQ K [3, 4, 6] [] β) (bX K [3, 4, 6] [] β) := by
  obtain ⟨j, rfl, hj⟩ := hx
  subst ek
  have := row_sm h hr
  exact bnd_go (by omega) hr hk (β.2.1 r2).length N j β h (Nat.le_refl _) hq hj (by omega)
theorem lam_go (hN : 524288 < N) : ∀ (i nn x : Nat) (β : kS), tT K β → i ≤ (β.2.1 11).length → aQ β (β.2.1 11) → qT β x → i < nn → tI (f_Fam_rule_210 N nn (nI i - 1) (nI x) β) (bQ K [3, 4, 6] [] β) (bX K [3, 4, 6] [] β)
  | 0, nn, x, β, h, _, _, hx, hn => by
    obtain ⟨nn, rfl⟩ : ∃ n', nn = n' + 1 := ⟨nn - 1, by omega⟩
    rw [f_Fam_rule_210, if_pos (by decide)]
    exact tI.ret ⟨h, ch.rf, x, rfl, hx⟩
  | i + 1, nn, x, β, h, hl, hq, hx, hn => by
    obtain ⟨nn, rfl⟩ : ∃ n', nn = n' + 1 := ⟨nn - 1, by omega⟩
    have hsm := row_sm h (r := 11) (by decide)
    have hp : qP β (f_Par_parameterType (nI i) β) := by
      unfold f_Par_parameterType
      rw [at_e h (by decide) (by omega)]
      refine hq _ ?_
      rw [List.getD_eq_getElem?_getD, List.getElem?_eq_getElem (by omega)]
      exact List.getElem_mem _
    obtain ⟨a, ea, qa⟩ := hp
    rw [f_Fam_rule_210, nI_pred, if_neg (nI_pos (by omega)), ea]
    refine (mk_n (k := 7) hN h (by decide) (by decide) qa hx).bi (fun v γ q => ?_) (fun γ q => q)
    obtain ⟨q1, q2, j, rfl, q3, -⟩ := q
    rw [← Int32.sub_eq_add_neg]
    have row := q2.row (r := 11) (by decide) (by simp)
    exact (lam_go hN i nn j γ q1 (by rw [row]; omega) (by rw [row]; exact hq.g q2.2.2) q3 (by omega)).mono (fun _ ε y => ⟨y.1, q2.tr y.2.1, y.2.2⟩) (fun ε y => ⟨y.1, q2.tr y.2⟩)
theorem var_t {β : kS} (hN : 524288 < N) (h : tT K β) (x y : Int32) : tI (f_Fam_variable N x y β) (bQ K [3, 4, 6] [] β) (bX K [3, 4, 6] [] β) := by
  unfold f_Fam_variable
  refine (mk_l (k := 0) hN h (by decide) _ 0 (fun y => by omega)).bi (fun v γ q => ?_) (fun γ q => q)
  obtain ⟨q1, q2, j, rfl, q3, -⟩ := q
  exact tI.ret ⟨q1, q2, j, rfl, q3⟩
/-- the head applied to the INDICES -/
theorem idx_go (hN : 2 ^ 31 ≤ N) {x2 x3 : Int32} {e k : Nat} (ex : x2 = nI e) (hk : k ≤ 1499) : ∀ (i nn x : Nat) (β : kS), tT K β → qT β e → aP β k (nI e) → i ≤ k → qT β x → i < nn → tI (f_Fam_withIndices_11 N nn (nI i - 1) (nI x) x2 x3 β) (bQ K [2, 3, 4, 6] [2, 3, 4] β) (bX K [2, 3, 4, 6] [2, 3, 4] β)
  | 0, nn, x, β, h, _, _, _, hx, hn => by
    obtain ⟨nn, rfl⟩ : ∃ n', nn = n' + 1 := ⟨nn - 1, by omega⟩
    rw [f_Fam_withIndices_11, if_pos (by decide)]
    exact tI.ret ⟨h, ch.rf, x, rfl, hx⟩
  | i + 1, nn, x, β, h, he, ha, hi, hx, hn => by
    obtain ⟨nn, rfl⟩ : ∃ n', nn = n' + 1 := ⟨nn - 1, by omega⟩
    subst ex
    obtain ⟨t, et, qt⟩ := fromLast_vP h.1.1 h.2.1 (k := i) (p := nI e) ⟨e, rfl, he⟩ (aP_le k _ ha hi)
    rw [f_Fam_withIndices_11, nI_pred, if_neg (nI_pos (by omega)), fromLast_ok (N := N) (by omega) (by omega), obs, et]
    refine (rewrite_ok (m' := 3) (by omega) h (by decide) qt.1 (fun y => absurd y (by decide))).bi (fun v γ q => ?_) (fun γ q => q)
    obtain ⟨q1, q2, j, rfl, q3, q4, -⟩ := q
    refine (mk_n (k := 5) (by omega) q1 (by decide) (by decide) (hx.g q2.2.2) ⟨q3, fun y => qt.2 (q4.mp y)⟩).bi (fun w δ u => ?_) (fun δ u => ⟨u.1, q2.tr (u.2.mo (by decide) (by decide))⟩)
    obtain ⟨u1, u2, j2, rfl, u3, -⟩ := u
    have c : ch [2, 3, 4, 6] [2, 3, 4] β δ := q2.tr (u2.mo (by decide) (by decide))
    rw [← Int32.sub_eq_add_neg]
    exact (idx_go hN rfl hk i nn j2 δ u1 (he.g c.2.2) (aP_g h.1.1 h.2.1 u1.1.1 c.2.2 k ⟨e, rfl, he⟩ ha) (by omega) u3 (by omega)).mono (fun _ ε y => ⟨y.1, c.tr y.2.1, y.2.2⟩) (fun ε y => ⟨y.1, c.tr y.2⟩)
theorem map_q {β : kS} {l : List Nat} (h : ∀ d, d ∈ l → qT β d) : aQ β (l.map nI) := fun p hp => by
  obtain ⟨d, h1, rfl⟩ := List.mem_map.mp hp
  exact ⟨d, rfl, h d h1⟩
theorem hyp_go (hN : 2 ^ 31 ≤ N) {x8 x5 x1 : Int32} {e k kk : Nat} (ex : x5 = nI e) (hk : k ≤ 1499) (hkk : kk = 6 ∨ kk = 7) (ekk : x1 = nI kk) : ∀ (i nn x : Nat) (β : kS), tT K β → qT β e → aP β k (nI e) → i ≤ k → qT β x → qP β x8 → aQ β (β.2.1 18) → i < nn → tI (f_Fam_hypothesis_108 N nn (nI i - 1) x8 (nI x) x5 x1 β) (bQ K [3, 4, 6] [] β) (bX K [3, 4, 6] [] β)
  | 0, nn, x, β, h, _, _, _, hx, h8, hq, hn => by
    obtain ⟨nn, rfl⟩ : ∃ n', nn = n' + 1 := ⟨nn - 1, by omega⟩
    obtain ⟨y, rfl, hy⟩ := h8
    rw [f_Fam_hypothesis_108, if_pos (by decide)]
    refine (mk_n (k := 5) (by omega) h (by decide) (by decide) hx hy).bi (fun w δ u => ?_) (fun δ u => u)
    obtain ⟨u1, u2, j2, rfl, u3, -⟩ := u
    refine (bnd_ok hN (r2 := 18) (by decide) hkk ekk u1 (by rw [u2.row (by decide) (by simp)]; exact hq.g u2.2.2) ⟨j2, rfl, u3⟩).bi (fun v ε y => tI.ret ⟨y.1, u2.tr y.2.1, y.2.2⟩) (fun ε y => ⟨y.1, u2.tr y.2⟩)
  | i + 1, nn, x, β, h, he, ha, hi, hx, h8, hq, hn => by
    obtain ⟨nn, rfl⟩ : ∃ n', nn = n' + 1 := ⟨nn - 1, by omega⟩
    subst ex
    obtain ⟨t, et, qt⟩ := fromLast_vP h.1.1 h.2.1 (k := i) (p := nI e) ⟨e, rfl, he⟩ (aP_le k _ ha hi)
    rw [f_Fam_hypothesis_108, nI_pred, if_neg (nI_pos (by omega)), fromLast_ok (N := N) (by omega) (by omega), obs, et]
    refine (mk_n (k := 5) (by omega) h (by decide) (by decide) hx qt).bi (fun w δ u => ?_) (fun δ u => u)
    obtain ⟨u1, u2, j2, rfl, u3, -⟩ := u
    rw [← Int32.sub_eq_add_neg]
    exact (hyp_go hN rfl hk hkk ekk i nn j2 δ u1 (he.g u2.2.2) (aP_g h.1.1 h.2.1 u1.1.1 u2.2.2 k ⟨e, rfl, he⟩ ha) (by omega) u3 (h8.g u2.2.2) (by rw [u2.row (by decide) (by simp)]; exact hq.g u2.2.2) (by omega)).mono (fun _ ε y => ⟨y.1, u2.tr y.2.1, y.2.2⟩) (fun ε y => ⟨y.1, u2.tr y.2⟩)
theorem aP_1499 {β : kS} {e k : Nat} (h : tT K β) (he : e < tn β) (ha : aP β k (nI e)) : k ≤ 1499 := by
  have h1 := aP_sz h.1.1 h.2.1 k e he ha
  have h2 := (h.2.1 e he).2.1.2
  omega
/-- what a RECURSIVE ARGUMENT adds -/
theorem hyp_ok {β : kS} {fam q k kk t : Nat} (hN : 2 ^ 31 ≤ N) (hkk : kk = 6 ∨ kk = 7) (h : tT K β) (ht : qT β t) (hen : eN β k t) (hqk : q ≤ k) (e25 : β.1 25 = nI fam) (hfam : fam < K) (e27 : β.1 27 = nI q) (x y : Int32) : tI (f_Fam_hypothesis N (nI kk) (nI t) x y β) (bQ K [3, 4, 6] [18] β) (bX K [3, 4, 6] [18] β) := by
  obtain ⟨l, e, γ, hp, eγ, tγ, cγ, rγ, hl⟩ := split_ok (N := N) hN (Or.inr rfl) h ht.1
  obtain ⟨l', e', hp', ha⟩ := hen
  obtain ⟨el, ee⟩ := pc_un l l' t e e' hp hp'
  subst el ee
  obtain ⟨he, -, he9, -, hdl⟩ := pc_in h.1.1 h.2.1 l' t e' ht.1 hp
  have ht1 := ht.1
  have qe : qT β e' := ⟨by omega, he9 ht.2⟩
  have hk := aP_1499 h qe.1 ha
  have qrow : aQ γ (γ.2.1 18) := by
    rw [rγ]
    exact (map_q (β := β) fun d hd => ⟨by have := (hdl d hd).1; omega, (hdl d hd).2⟩).g cγ.2.2
  have cm : ch [3, 4, 6] [18] β γ := cγ.mo (by decide) (by decide)
  unfold f_Fam_hypothesis
  rw [eγ, kBi_s]
  have j74 : ∀ (y6 t0 : Int32) (δ : kS), tT K δ → ch [3, 4, 6] [] γ δ → qP δ t0 → tI (f_Fam_hypothesis_j74 N y6 (nI e') (nI kk) x y t0 δ) (bQ K [3, 4, 6] [18] β) (bX K [3, 4, 6] [18] β) := by
    intro y6 t0 δ tδ cδ q0
    have c1 : ch [3, 4, 6] [18] β δ := cm.tr (cδ.mo (by decide) (by decide))
    unfold f_Fam_hypothesis_j74
    refine (var_t (by omega) tδ _ _).bi (fun v ε u => ?_) (fun ε u => ⟨u.1, c1.tr (u.2.mo (by decide) (by decide))⟩)
    obtain ⟨u1, u2, u3⟩ := u
    refine (app_ok hN u1 u3 _ _ _).bi (fun w ζ p => ?_) (fun ζ p => ⟨p.1, c1.tr ((u2.tr p.2).mo (by decide) (by decide))⟩)
    obtain ⟨p1, p2, p3⟩ := p
    have c2 : ch [3, 4, 6] [] γ ζ := (cδ.tr u2).tr p2
    have c3 : ch [3, 4, 6] [18] β ζ := cm.tr (c2.mo (by decide) (by decide))
    obtain ⟨j0, rfl, qj0⟩ := q0
    rw [show ζ.1 27 = nI q from (c3.int (by decide)).trans e27]
    exact (hyp_go hN rfl hk hkk rfl q N j0 ζ p1 (qe.g c3.2.2) (aP_g h.1.1 h.2.1 p1.1.1 c3.2.2 k ⟨e', rfl, qe⟩ ha) hqk (qj0.g (u2.tr p2).2.2) p3 (by rw [c2.row (by decide) (by simp)]; exact qrow.g c2.2.2) (by omega)).mono (fun _ η y => ⟨y.1, c3.tr (y.2.1.mo (by decide) (by decide)), y.2.2⟩) (fun η y => ⟨y.1, c3.tr (y.2.mo (by decide) (by decide))⟩)
  refine tI.ite (fun _ => ?_) (fun _ => ?_)
  · refine (var_t (by omega) tγ _ _).bi (fun v δ u => j74 _ v δ u.1 u.2.1 u.2.2) (fun δ u => ⟨u.1, cm.tr (u.2.mo (by decide) (by decide))⟩)
  · refine (mk_l (k := 4) (by omega) tγ (by decide) _ 101 (fun _ => ⟨fam, (cγ.int (by decide)).trans e25, hfam⟩)).bi (fun v δ u => ?_) (fun δ u => ⟨u.1, cm.tr (u.2.mo (by decide) (by decide))⟩)
    obtain ⟨u1, u2, j, rfl, u3, -⟩ := u
    refine (app_ok hN u1 ⟨j, rfl, u3⟩ _ _ _).bi (fun w ε p => j74 _ w ε p.1 (u2.tr p.2.1) p.2.2) (fun ε p => ⟨p.1, cm.tr ((u2.tr p.2).mo (by decide) (by decide))⟩)
end BUILT
