-- a family's TERMS are built
/-- while it is built: the CONSTRUCTORS from i0 on hold their TERMS -/
def BI (c m fam n M q i0 : Nat) (β : kS) : Prop := c = fam + 1 + M ∧ c ≤ 300 ∧ (β.2.1 5).length = 12 * c ∧ β.1 25 = nI fam ∧ β.1 26 = nI n ∧ β.1 27 = nI q ∧ β.1 28 = nI M ∧ m ≤ tn β ∧ (β.2.1 11).length = n ∧ (∀ p, p ∈ β.2.1 11 → vM β m p) ∧ vM β m (β.1 21) ∧ ∀ i, i0 ≤ i → i < M → vM β m (fc β (fam + 1 + i) 1) ∧ GM β (nI fam) (n + q) (mbt β fam i)
section BUILD
variable {N c m fam n M q i0 : Nat}
theorem BI.ch {α β : kS} {I R : List Nat} (h : BI c m fam n M q i0 α) (hα : tT c α) (hβ : tT c β) (hc : ch I R α β) (i21 : 21 ∉ I) (i25 : 25 ∉ I) (i26 : 26 ∉ I) (i27 : 27 ∉ I) (i28 : 28 ∉ I) (r5 : 5 ∉ R) (r11 : 11 ∉ R) : BI c m fam n M q i0 β := by
  obtain ⟨a1, a2, a3, a4, a5, a6, a7, a8, a9, a10, a11, a12⟩ := h
  have e5 := hc.row (by decide) r5
  have e11 := hc.row (by decide) r11
  have hn := hα.1.1.n.2.1
  have hf : ∀ k, fc β k 1 = fc α k 1 := fun k => by unfold fc; rw [e5]
  refine ⟨a1, a2, by rw [e5]; exact a3, (hc.int i25).trans a4, (hc.int i26).trans a5, (hc.int i27).trans a6, (hc.int i28).trans a7, Nat.le_trans a8 hc.2.2.1, by rw [e11]; exact a9, fun p hp => (a10 p (by rw [← e11]; exact hp)).g a8 hc.2.2, by rw [hc.int i21]; exact a11.g a8 hc.2.2, fun i h1 h2 => ?_⟩
  obtain ⟨b1, b2⟩ := a12 i h1 h2
  rw [hf]
  refine ⟨b1.g a8 hc.2.2, ?_⟩
  have e : mbt β fam i = mbt α fam i := by unfold mbt; rw [hf]
  obtain ⟨j, ej, hj, -⟩ := b1
  have : mbt α fam i = j := by unfold mbt; rw [ej, nI_clamp (by omega)]
  rw [e]
  exact (GM_g hα.1.1 hα.2.1 hβ.1.1 hc.2.2 (by omega)).mpr b2
theorem BI.mem {β : kS} (h : BI c m fam n M q i0 β) (hβ : tT c β) {i : Nat} (hi : i0 ≤ i) (hi2 : i < M) : f_Fam_memberTerm (nI i) β = nI (mbt β fam i) ∧ qT β (mbt β fam i) ∧ mbt β fam i < m ∧ GM β (nI fam) (n + q) (mbt β fam i) := by
  obtain ⟨a1, a2, a3, a4, a5, a6, a7, a8, a9, a10, a11, a12⟩ := h
  have hn := hβ.1.1.n.2.1
  obtain ⟨⟨j, ej, hj, h9⟩, b2⟩ := a12 i hi hi2
  have : mbt β fam i = j := by unfold mbt; rw [ej, nI_clamp (by omega)]
  rw [this] at b2 ⊢
  refine ⟨?_, ⟨by omega, h9⟩, hj, b2⟩
  unfold f_Fam_memberTerm
  rw [a4, nI_1, nI_add, fact_l (k := fam + 1 + i) (w := 1) hβ (by omega) (by decide) 1 rfl]
  exact ej
abbrev bI : List Nat := [2, 3, 4, 6]
abbrev bR : List Nat := [2, 3, 4, 16, 17, 18]
theorem minor_go (hN : 2 ^ 31 ≤ N) {fam q k e ix : Nat} {x2 x3 : Int32} {l : List Nat} (ex : x3 = nI e) (hqk : q ≤ k) (hl : l.length ≤ 199) (hix : fam + 1 + ix < c) : ∀ (d i nn : Nat) (β : kS), tT c β → β.2.1 16 = l.map nI → i + d = l.length → (β.2.1 17).length ≤ i → aQ β (β.2.1 17) → (∀ d, d ∈ l → qT β d ∧ (hc β (nI fam) d → eN β k d)) → qT β e → aP β k (nI e) → β.1 25 = nI fam → β.1 27 = nI q → d < nn →
    tI (f_Fam_minor_54 N nn (nI i) (nI l.length) x3 x2 (nI ix) β) (bQ c [2, 3, 4, 6] [2, 3, 4, 17, 18] β) (bX c [2, 3, 4, 6] [2, 3, 4, 17, 18] β)
  | 0, i, nn, β, h, r16, hi, r17, q17, hd, he, ha, e25, e27, hn => by
    obtain ⟨nn, rfl⟩ : ∃ n', nn = n' + 1 := ⟨nn - 1, by omega⟩
    subst ex
    have hk := aP_1499 h he.1 ha
    have q16 : aQ β (β.2.1 16) := by rw [r16]; exact map_q fun d hd' => (hd d hd').1
    rw [f_Fam_minor_54, if_pos (nI_le (by omega) (by omega)), e25, nI_1, nI_add]
    refine (mk_l (k := 3) (by omega) h (by decide) _ 0 (fun _ => ⟨fam + 1 + ix, rfl, hix⟩)).bi (fun v β1 u => ?_) (fun γ u => ⟨u.1, u.2.mo (by decide) (by decide)⟩)
    obtain ⟨t1, c1, j, rfl, q1, -⟩ := u
    refine (app_ok hN t1 ⟨j, rfl, q1⟩ _ _ _).bi (fun v2 β2 u => ?_) (fun γ u => ⟨u.1, (c1.tr u.2).mo (by decide) (by decide)⟩)
    obtain ⟨t2, c2, q2⟩ := u
    refine (app_ok hN t2 q2 _ _ _).bi (fun v3 β3 u => ?_) (fun γ u => ⟨u.1, ((c1.tr c2).tr u.2).mo (by decide) (by decide)⟩)
    obtain ⟨t3, c3, q3⟩ := u
    refine (var_t (by omega) t3 _ _).bi (fun v4 β4 u => ?_) (fun γ u => ⟨u.1, (((c1.tr c2).tr c3).tr u.2).mo (by decide) (by decide)⟩)
    obtain ⟨t4, c4, j4, rfl, q4⟩ := u
    have c04 : ch [3, 4, 6] [] β β4 := ((c1.tr c2).tr c3).tr c4
    unfold f_Fam_withIndices
    rw [show β4.1 27 = nI q from (c04.int (by decide)).trans e27]
    refine (idx_go hN (x2 := nI e) rfl hk q N j4 β4 t4 (he.g c04.2.2) (aP_g h.1.1 h.2.1 t4.1.1 c04.2.2 k ⟨e, rfl, he⟩ ha) hqk q4 (by omega)).bi (fun v5 β5 u => ?_) (fun γ u => ⟨u.1, (c04.mo (by decide) (by decide)).tr (u.2.mo (by decide) (by decide))⟩)
    obtain ⟨t5, c5, j5, rfl, q5⟩ := u
    have c05 : ch [2, 3, 4, 6] [2, 3, 4] β β5 := (c04.mo (by decide) (by decide)).tr c5
    obtain ⟨j3, rfl, q3⟩ := q3
    refine (mk_n (k := 5) (by omega) t5 (by decide) (by decide) q5 (q3.g (c4.2.2.tr c5.2.2))).bi (fun v6 β6 u => ?_) (fun γ u => ⟨u.1, (c05.mo (by decide) (by decide)).tr (u.2.mo (by decide) (by decide))⟩)
    obtain ⟨t6, c6, j6, rfl, q6, -⟩ := u
    have c06 : ch [2, 3, 4, 6] [2, 3, 4] β β6 := c05.tr (c6.mo (by decide) (by decide))
    refine (bnd_ok hN (r2 := 17) (kk := 6) (by decide) (Or.inl rfl) rfl t6 (by rw [c06.row (by decide) (by decide)]; exact q17.g c06.2.2) ⟨j6, rfl, q6⟩).bi (fun v7 β7 u => ?_) (fun γ u => ⟨u.1, (c06.mo (by decide) (by decide)).tr (u.2.mo (by decide) (by decide))⟩)
    obtain ⟨t7, c7, q7⟩ := u
    have c07 : ch [2, 3, 4, 6] [2, 3, 4] β β7 := c06.tr (c7.mo (by decide) (by decide))
    refine (bnd_ok hN (r2 := 16) (kk := 6) (by decide) (Or.inl rfl) rfl t7 (by rw [c07.row (by decide) (by decide)]; exact q16.g c07.2.2) q7).bi (fun v8 β8 u => ?_) (fun γ u => ⟨u.1, (c07.mo (by decide) (by decide)).tr (u.2.mo (by decide) (by decide))⟩)
    exact tI.ret ⟨u.1, (c07.mo (by decide) (by decide)).tr (u.2.1.mo (by decide) (by decide)), u.2.2⟩
  | d + 1, i, nn, β, h, r16, hi, r17, q17, hd, he, ha, e25, e27, hn => by
    obtain ⟨nn, rfl⟩ : ∃ n', nn = n' + 1 := ⟨nn - 1, by omega⟩
    have hil : i < l.length := by omega
    have eat : ∀ γ : kS, tT c γ → γ.2.1 16 = l.map nI → fR_at γ 16 (nI i) = nI (l[i]'hil) := fun γ tγ rγ => by
      rw [at_e tγ (by decide) (by omega), rγ, List.getD_eq_getElem?_getD, List.getElem?_map, List.getElem?_eq_getElem hil]
      rfl
    obtain ⟨qd, hrec⟩ := hd (l[i]'hil) (List.getElem_mem _)
    have go : ∀ γ, tT c γ → ch [2, 3, 4, 6] [2, 3, 4, 17, 18] β γ → (γ.2.1 17).length ≤ i + 1 → aQ γ (γ.2.1 17) → tI (f_Fam_minor_54 N nn (nI (i + 1)) (nI l.length) x3 x2 (nI ix) γ) (bQ c [2, 3, 4, 6] [2, 3, 4, 17, 18] β) (bX c [2, 3, 4, 6] [2, 3, 4, 17, 18] β) := by
      intro γ tγ cγ l17 a17
      refine (minor_go hN ex hqk hl hix d (i + 1) nn γ tγ ((cγ.row (by decide) (by decide)).trans r16) (by omega) l17 a17 (fun d' hd' => ?_) (he.g cγ.2.2) (aP_g h.1.1 h.2.1 tγ.1.1 cγ.2.2 k ⟨e, rfl, he⟩ ha) ((cγ.int (by decide)).trans e25) ((cγ.int (by decide)).trans e27) (by omega)).mono (fun _ ε y => ⟨y.1, cγ.tr y.2.1, y.2.2⟩) (fun ε y => ⟨y.1, cγ.tr y.2⟩)
      obtain ⟨z1, z2⟩ := hd d' hd'
      exact ⟨z1.g cγ.2.2, fun y => (eN_g h.1.1 h.2.1 tγ.1.1 cγ.2.2 z1.1).mpr (z2 ((hc_g h.1.1 h.2.1 cγ.2.2 d' z1.1).mp y))⟩
    rw [f_Fam_minor_54, if_neg (nI_ge (by omega) (by omega)), eat β h r16, e25, nI_1]
    obtain ⟨w, γ, e3, t3, c3, -, hw⟩ := has_ok (N := N) (x2 := 3) (x3 := nI fam) (by omega) h qd.1
    have hw := hw rfl
    rw [e3, kBi_s]
    have c3' : ch [2, 3, 4, 6] [2, 3, 4, 17, 18] β γ := c3.mo (by decide) (by decide)
    refine tI.ite (fun _ => go γ t3 c3' (by rw [c3.row (by decide) (by decide)]; omega) (by rw [c3.row (by decide) (by decide)]; exact q17.g c3.2.2)) (fun w0 => ?_)
    have hen := hrec (hw.mp w0)
    rw [eat γ t3 ((c3.row (by decide) (by decide)).trans r16)]
    refine (rewrite_ok (m' := 3) (by omega) t3 (by decide) (Nat.lt_of_lt_of_le qd.1 c3.2.2.1) (fun y => absurd y (by decide))).bi (fun v δ u => ?_) (fun δ u => ⟨u.1, c3'.tr (u.2.mo (by decide) (by decide))⟩)
    obtain ⟨u1, u2, j, rfl, u3, u4, u5⟩ := u
    have us := u5 (Or.inl rfl)
    have c4 : ch [2, 3, 4, 6] [2, 3, 4, 17, 18] β δ := c3'.tr (u2.mo (by decide) (by decide))
    have hen' : eN δ k j := eN_sh u1.1.1 u1.2.1 (Nat.lt_of_lt_of_le qd.1 c4.2.2.1) u3 us ((eN_g h.1.1 h.2.1 u1.1.1 c4.2.2 qd.1).mpr hen)
    have qj : qT δ j := ⟨u3, fun y => by
      have := u4.mp y
      rw [(g_n c3.2.2 qd.1).1] at this
      exact qd.2 this⟩
    refine (hyp_ok hN (kk := 6) (Or.inl rfl) u1 qj hen' hqk ((c4.int (by decide)).trans e25) (by omega) ((c4.int (by decide)).trans e27) _ _).bi (fun v ε p => ?_) (fun ε p => ⟨p.1, c4.tr (p.2.mo (by decide) (by decide))⟩)
    obtain ⟨p1, p2, p3⟩ := p
    have l17 : ε.2.1 17 = β.2.1 17 := (p2.row (by decide) (by decide)).trans ((u2.row (by decide) (by decide)).trans (c3.row (by decide) (by decide)))
    obtain ⟨M1, e5, t5⟩ := push_t (r := 17) v p1 (by decide) (by rw [show kMx 17 = 256 by decide, l17]; omega)
    rw [e5, kBv_s]
    have c5 : ch [2, 3, 4, 6] [2, 3, 4, 17, 18] β ε := c4.tr (p2.mo (by decide) (by decide))
    refine go _ t5 (c5.tr (ch.rs (by decide))) ?_ ?_
    · rw [krs_row, l17, List.length_append]
      show _ + 1 ≤ _
      omega
    · rw [krs_row, l17]
      intro p hp
      rcases List.mem_append.mp hp with hp | hp
      · exact (q17 p hp).g c5.2.2
      · rw [List.mem_singleton.mp hp]; exact p3
/-- a TERM that was tested, split after a LIFT -/
theorem lifted {K k t : Nat} {f key : Int32} {β : kS} (hN : 2 ^ 31 ≤ N) (h : tT K β) (ht : qT β t) (hG : GM β f k t) {kk : Int32 → kS → Option (kO × kS)} {Q : Int32 → kS → Prop} {X : kS → Prop}
    (hk : ∀ (e : Nat) (l : List Nat) (γ : kS), tT K γ → ch [2, 3, 4, 6] [2, 3, 4, 16] β γ → γ.2.1 16 = l.map nI → l.length ≤ 199 → (∀ d, d ∈ l → qT γ d ∧ (hc γ f d → eN γ k d)) → qT γ e → aP γ k (nI e) → tI (kk (nI e) γ) Q X) (hX : ∀ γ, tT K γ → ch [2, 3, 4, 6] [2, 3, 4, 16] β γ → X γ) :
    tI (kBi (f_Terms_rewrite N 3 (nI t) key β) fun v γ => kBi (f_Fam_split N v 16 γ) kk) Q X := by
  refine (rewrite_ok (m' := 3) (by omega) h (by decide) ht.1 (fun y => absurd y (by decide))).bi (fun v γ u => ?_) (fun γ u => hX γ u.1 (u.2.mo (by decide) (by decide)))
  obtain ⟨u1, u2, j, rfl, u3, u4, u5⟩ := u
  have us := u5 (Or.inl rfl)
  have hG2 : GM γ f k j := GM_sh u1.1.1 u1.2.1 (Nat.lt_of_lt_of_le ht.1 u2.2.2.1) u3 us ((GM_g h.1.1 h.2.1 u1.1.1 u2.2.2 ht.1).mpr hG)
  obtain ⟨l, e, δ, hp, eδ, tδ, cδ, rδ, hl⟩ := split_ok (N := N) hN (Or.inl rfl) u1 u3
  rw [eδ, kBi_s]
  obtain ⟨l', e', hp', ha, hd⟩ := hG2
  obtain ⟨el, ee⟩ := pc_un l l' j e e' hp hp'
  subst el ee
  obtain ⟨he, -, he9, -, hdl⟩ := pc_in u1.1.1 u1.2.1 l' j e' u3 hp
  have qe : qT γ e' := ⟨by omega, he9 (fun y => ht.2 (u4.mp y))⟩
  refine hk e' l' δ tδ ((u2.mo (by decide) (by decide)).tr (cδ.mo (by decide) (by decide))) rδ hl (fun d hd' => ?_) (qe.g cδ.2.2) (aP_g u1.1.1 u1.2.1 tδ.1.1 cδ.2.2 k ⟨e', rfl, qe⟩ ha)
  obtain ⟨z1, z2⟩ := hdl d hd'
  have qd : qT γ d := ⟨by omega, z2⟩
  exact ⟨qd.g cδ.2.2, fun y => (eN_g u1.1.1 u1.2.1 tδ.1.1 cδ.2.2 qd.1).mpr (hd d hd' ((hc_g u1.1.1 u1.2.1 cδ.2.2 d qd.1).mp y))⟩
theorem minor_ok (hN : 2 ^ 31 ≤ N) {β : kS} {i : Nat} (h : tT c β) (hB : BI c m fam n M q i0 β) (hi : i0 ≤ i) (hi2 : i < M) : tI (f_Fam_minor N (nI i) β) (bQ c [2, 3, 4, 6] [2, 3, 4, 16, 17, 18] β) (bX c [2, 3, 4, 6] [2, 3, 4, 16, 17, 18] β) := by
  obtain ⟨em, qm, -, hG⟩ := hB.mem h hi hi2
  unfold f_Fam_minor
  rw [em]
  refine lifted hN h qm hG (fun e l γ t1 c1 r1 hl hd qe ha => ?_) (fun γ t1 c1 => ⟨t1, c1.mo (by decide) (by decide)⟩)
  rw [cut0 t1 (by decide)]
  have t2 : tT c (kSl γ 17 []) := t1.sl (by decide) (Nat.zero_le _)
  have c2 : ch [2, 3, 4, 6] [2, 3, 4, 16, 17, 18] β (kSl γ 17 []) := (c1.mo (by decide) (by decide)).tr (ch.rs (by decide))
  have es : fR_size γ 16 = nI l.length := by unfold fR_size; rw [r1, List.length_map]
  rw [es]
  have hcM := hB.1
  have g17 : grw γ (kSl γ 17 []) := grw.rf
  exact (minor_go hN (x3 := nI e) rfl (show q ≤ n + q by omega) hl (show fam + 1 + i < c by omega) l.length 0 N (kSl γ 17 []) t2 r1 (by omega) (Nat.zero_le _) (fun p hp => by cases hp) (fun d hd' => ⟨(hd d hd').1.g g17, fun y => (eN_g t1.1.1 t1.2.1 t2.1.1 g17 (hd d hd').1.1).mpr ((hd d hd').2 ((hc_g t1.1.1 t1.2.1 g17 d (hd d hd').1.1).mp y))⟩) (qe.g g17) (aP_g t1.1.1 t1.2.1 t2.1.1 g17 (n + q) ⟨e, rfl, qe⟩ ha) ((c2.int (by decide)).trans hB.2.2.2.1) ((c2.int (by decide)).trans hB.2.2.2.2.2.1) (by omega)).mono (fun _ ε y => ⟨y.1, c2.tr (y.2.1.mo (by decide) (by decide)), y.2.2⟩) (fun ε y => ⟨y.1, c2.tr (y.2.mo (by decide) (by decide))⟩)
theorem rule_go (hN : 2 ^ 31 ≤ N) {fam n q k : Nat} {x4 x2 : Int32} {l : List Nat} (hqk : q ≤ k) (hl : l.length ≤ 199) (hfam : fam < c) : ∀ (d i nn x : Nat) (β : kS), tT c β → β.2.1 16 = l.map nI → i + d = l.length → (∀ d, d ∈ l → qT β d ∧ (hc β (nI fam) d → eN β k d)) → qT β x → aQ β (β.2.1 19) → qP β (β.1 30) → (β.2.1 11).length = n → aQ β (β.2.1 11) → β.1 26 = nI n → β.1 25 = nI fam → β.1 27 = nI q → d < nn →
    tI (f_Fam_rule_80 N nn (nI i) (nI x) x4 (nI l.length) x2 β) (bQ c [2, 3, 4, 6] [2, 3, 4, 18] β) (bX c [2, 3, 4, 6] [2, 3, 4, 18] β)
  | 0, i, nn, x, β, h, r16, hi, hd, hx, q19, q30, l11, q11, e26, e25, e27, hn => by
    obtain ⟨nn, rfl⟩ : ∃ n', nn = n' + 1 := ⟨nn - 1, by omega⟩
    have q16 : aQ β (β.2.1 16) := by rw [r16]; exact map_q fun d hd' => (hd d hd').1
    have hsm := row_sm h (r := 11) (by decide)
    rw [f_Fam_rule_80, if_pos (nI_le (by omega) (by omega))]
    refine (bnd_ok hN (r2 := 16) (kk := 7) (by decide) (Or.inr rfl) rfl h q16 ⟨x, rfl, hx⟩).bi (fun v1 β1 u => ?_) (fun γ u => ⟨u.1, u.2.mo (by decide) (by decide)⟩)
    obtain ⟨t1, c1, q1⟩ := u
    refine (bnd_ok hN (r2 := 19) (kk := 7) (by decide) (Or.inr rfl) rfl t1 (by rw [c1.row (by decide) (by simp)]; exact q19.g c1.2.2) q1).bi (fun v2 β2 u => ?_) (fun γ u => ⟨u.1, (c1.tr u.2).mo (by decide) (by decide)⟩)
    obtain ⟨t2, c2, j2, rfl, q2⟩ := u
    have c02 := c1.tr c2
    obtain ⟨jm, em, qm⟩ := q30
    rw [em]
    refine (mk_n (k := 7) (by omega) t2 (by decide) (by decide) (qm.g c02.2.2) q2).bi (fun v3 β3 u => ?_) (fun γ u => ⟨u.1, (c02.tr u.2).mo (by decide) (by decide)⟩)
    obtain ⟨t3, c3, j3, rfl, q3, -⟩ := u
    have c03 := c02.tr c3
    have r11 := c03.row (r := 11) (by decide) (by simp)
    rw [show β3.1 26 = nI n from (c03.int (by decide)).trans e26]
    exact (lam_go (by omega) n N j3 β3 t3 (by rw [r11, l11]; exact Nat.le_refl _) (by rw [r11]; exact q11.g c03.2.2) q3 (by omega)).mono (fun _ ε y => ⟨y.1, (c03.tr y.2.1).mo (by decide) (by decide), y.2.2⟩) (fun ε y => ⟨y.1, (c03.tr y.2).mo (by decide) (by decide)⟩)
  | d + 1, i, nn, x, β, h, r16, hi, hd, hx, q19, q30, l11, q11, e26, e25, e27, hn => by
    obtain ⟨nn, rfl⟩ : ∃ n', nn = n' + 1 := ⟨nn - 1, by omega⟩
    have hil : i < l.length := by omega
    have eat : ∀ γ : kS, tT c γ → γ.2.1 16 = l.map nI → fR_at γ 16 (nI i) = nI (l[i]'hil) := fun γ tγ rγ => by
      rw [at_e tγ (by decide) (by omega), rγ, List.getD_eq_getElem?_getD, List.getElem?_map, List.getElem?_eq_getElem hil]
      rfl
    obtain ⟨qd, hrec⟩ := hd (l[i]'hil) (List.getElem_mem _)
    have go : ∀ γ x', tT c γ → ch [2, 3, 4, 6] [2, 3, 4, 18] β γ → qT γ x' → tI (f_Fam_rule_80 N nn (nI (i + 1)) (nI x') x4 (nI l.length) x2 γ) (bQ c [2, 3, 4, 6] [2, 3, 4, 18] β) (bX c [2, 3, 4, 6] [2, 3, 4, 18] β) := by
      intro γ x' tγ cγ hx'
      refine (rule_go hN hqk hl hfam d (i + 1) nn x' γ tγ ((cγ.row (by decide) (by decide)).trans r16) (by omega) (fun d' hd' => ?_) hx' (by rw [cγ.row (by decide) (by decide)]; exact q19.g cγ.2.2) (by rw [cγ.int (by decide)]; exact q30.g cγ.2.2) (by rw [cγ.row (by decide) (by decide)]; exact l11) (by rw [cγ.row (by decide) (by decide)]; exact q11.g cγ.2.2) ((cγ.int (by decide)).trans e26) ((cγ.int (by decide)).trans e25) ((cγ.int (by decide)).trans e27) (by omega)).mono (fun _ ε y => ⟨y.1, cγ.tr y.2.1, y.2.2⟩) (fun ε y => ⟨y.1, cγ.tr y.2⟩)
      obtain ⟨z1, z2⟩ := hd d' hd'
      exact ⟨z1.g cγ.2.2, fun y => (eN_g h.1.1 h.2.1 tγ.1.1 cγ.2.2 z1.1).mpr (z2 ((hc_g h.1.1 h.2.1 cγ.2.2 d' z1.1).mp y))⟩
    rw [f_Fam_rule_80, if_neg (nI_ge (by omega) (by omega)), eat β h r16, e25, nI_1]
    obtain ⟨w, γ, e3, t3, c3, -, hw⟩ := has_ok (N := N) (x2 := 3) (x3 := nI fam) (by omega) h qd.1
    have hw := hw rfl
    rw [e3, kBi_s]
    have c3' : ch [2, 3, 4, 6] [2, 3, 4, 18] β γ := c3.mo (by decide) (by decide)
    refine tI.ite (fun _ => go γ x t3 c3' (hx.g c3.2.2)) (fun w0 => ?_)
    have hen := hrec (hw.mp w0)
    rw [eat γ t3 ((c3.row (by decide) (by decide)).trans r16)]
    refine (rewrite_ok (m' := 3) (by omega) t3 (by decide) (Nat.lt_of_lt_of_le qd.1 c3.2.2.1) (fun y => absurd y (by decide))).bi (fun v δ u => ?_) (fun δ u => ⟨u.1, c3'.tr (u.2.mo (by decide) (by decide))⟩)
    obtain ⟨u1, u2, j, rfl, u3, u4, u5⟩ := u
    have us := u5 (Or.inl rfl)
    have c4 : ch [2, 3, 4, 6] [2, 3, 4, 18] β δ := c3'.tr (u2.mo (by decide) (by decide))
    have hen' : eN δ k j := eN_sh u1.1.1 u1.2.1 (Nat.lt_of_lt_of_le qd.1 c4.2.2.1) u3 us ((eN_g h.1.1 h.2.1 u1.1.1 c4.2.2 qd.1).mpr hen)
    have qj : qT δ j := ⟨u3, fun y => by
      have := u4.mp y
      rw [(g_n c3.2.2 qd.1).1] at this
      exact qd.2 this⟩
    refine (hyp_ok hN (kk := 7) (Or.inr rfl) u1 qj hen' hqk ((c4.int (by decide)).trans e25) (by omega) ((c4.int (by decide)).trans e27) _ _).bi (fun v ε p => ?_) (fun ε p => ⟨p.1, c4.tr (p.2.mo (by decide) (by decide))⟩)
    obtain ⟨p1, p2, j7, rfl, p3⟩ := p
    have c5 : ch [2, 3, 4, 6] [2, 3, 4, 18] β ε := c4.tr (p2.mo (by decide) (by decide))
    refine (mk_n (k := 5) (by omega) p1 (by decide) (by decide) (hx.g c5.2.2) p3).bi (fun w δ u => ?_) (fun δ u => ⟨u.1, c5.tr (u.2.mo (by decide) (by decide))⟩)
    obtain ⟨w1, w2, j8, rfl, w3, -⟩ := u
    exact go δ j8 w1 (c5.tr (w2.mo (by decide) (by decide))) w3
theorem rule_ok (hN : 2 ^ 31 ≤ N) {β : kS} {i : Nat} (h : tT c β) (hB : BI c m fam n M q i0 β) (hi : i0 ≤ i) (hi2 : i < M) (q19 : aQ β (β.2.1 19)) (q30 : qP β (β.1 30)) : tI (f_Fam_rule N (nI i) β) (bQ c [2, 3, 4, 6] [2, 3, 4, 16, 18] β) (bX c [2, 3, 4, 6] [2, 3, 4, 16, 18] β) := by
  obtain ⟨em, qm, -, hG⟩ := hB.mem h hi hi2
  obtain ⟨a1, a2, a3, a4, a5, a6, a7, a8, a9, a10, -⟩ := id hB
  unfold f_Fam_rule
  rw [em]
  refine lifted hN h qm hG (fun e l γ t1 c1 r1 hl hd qe ha => ?_) (fun γ t1 c1 => ⟨t1, c1.mo (by decide) (by decide)⟩)
  have es : fR_size γ 16 = nI l.length := by unfold fR_size; rw [r1, List.length_map]
  rw [es]
  have c1' : ch [2, 3, 4, 6] [2, 3, 4, 16, 18] β γ := c1.mo (by decide) (by decide)
  refine (var_t (by omega) t1 _ _).bi (fun v2 γ2 u => ?_) (fun δ u => ⟨u.1, c1'.tr (u.2.mo (by decide) (by decide))⟩)
  obtain ⟨t2, c2, q2⟩ := u
  refine (app_ok hN t2 q2 _ _ _).bi (fun v3 γ3 u => ?_) (fun δ u => ⟨u.1, c1'.tr ((c2.tr u.2).mo (by decide) (by decide))⟩)
  obtain ⟨t3, c3, j3, rfl, q3⟩ := u
  have c23 := c2.tr c3
  have c03 : ch [2, 3, 4, 6] [2, 3, 4, 16, 18] β γ3 := c1'.tr (c23.mo (by decide) (by decide))
  have q11 : aQ β (β.2.1 11) := fun p hp => (a10 p hp).q a8
  exact (rule_go hN (show q ≤ n + q by omega) hl (show fam < c by omega) l.length 0 N j3 γ3 t3 ((c23.row (by decide) (by simp)).trans r1) (by omega) (fun d hd' => by
    obtain ⟨z1, z2⟩ := hd d hd'
    exact ⟨z1.g c23.2.2, fun y => (eN_g t1.1.1 t1.2.1 t3.1.1 c23.2.2 z1.1).mpr (z2 ((hc_g t1.1.1 t1.2.1 c23.2.2 d z1.1).mp y))⟩) q3 (by rw [c03.row (by decide) (by decide)]; exact q19.g c03.2.2) (by rw [c03.int (by decide)]; exact q30.g c03.2.2) (by rw [c03.row (by decide) (by decide)]; exact a9) (by rw [c03.row (by decide) (by decide)]; exact q11.g c03.2.2) ((c03.int (by decide)).trans a5) ((c03.int (by decide)).trans a4) ((c03.int (by decide)).trans a6) (by omega)).mono (fun _ ε y => ⟨y.1, c03.tr (y.2.1.mo (by decide) (by decide)), y.2.2⟩) (fun ε y => ⟨y.1, c03.tr (y.2.mo (by decide) (by decide))⟩)
end BUILD
