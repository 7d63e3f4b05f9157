-- a turn of the checker: what its methods need
theorem kBi_s {v : Int32} {β : kS} {k : Int32 → kS → Option (kO × kS)} : kBi (some (some (some v), β)) k = k v β := rfl
theorem obs {x : Int32} {f : Int32 → Option (kO × kS)} : (some x).bind f = f x := rfl
theorem kBv_s {β : kS} {k : kS → Option (kO × kS)} : kBv (some (some none, β)) k = k β := rfl
/-- TERMS are the same -/
def sT (α β : kS) : Prop := β.1 6 = α.1 6 ∧ β.2.2.2 = α.2.2.2
section ST
variable {α β γ : kS}
theorem sT.tr (h : sT α β) (h' : sT β γ) : sT α γ := ⟨h'.1.trans h.1, h'.2.trans h.2⟩
theorem sT.kd (h : sT α β) (p : Int32) : f_Terms_kind p β = f_Terms_kind p α := by unfold f_Terms_kind; rw [h.1, h.2]
theorem sT.lf (h : sT α β) (p : Int32) : f_Terms_left p β = f_Terms_left p α := by unfold f_Terms_left; rw [h.1, h.2]
theorem sT.rt (h : sT α β) (p : Int32) : f_Terms_right p β = f_Terms_right p α := by unfold f_Terms_right; rw [h.1, h.2]
theorem sT.sz (h : sT α β) (p : Int32) : f_Terms_size p β = f_Terms_size p α := by unfold f_Terms_size; rw [h.1, h.2]
theorem sT.ap (h : sT α β) : ∀ (k : Nat) (p : Int32), aP β k p ↔ aP α k p
  | 0, _ => Iff.rfl
  | k + 1, p => by
    show (f_Terms_kind p β = 5 ∧ aP β k (f_Terms_left p β)) ↔ (f_Terms_kind p α = 5 ∧ aP α k (f_Terms_left p α))
    rw [h.kd, h.lf, sT.ap h k]
theorem sT.sp (h : sT α β) : ∀ (k : Nat) (p : Int32), spn β k p = spn α k p
  | 0, _ => rfl
  | k + 1, p => by
    show spn β k (f_Terms_left p β) = spn α k (f_Terms_left p α)
    rw [h.lf, sT.sp h k]
end ST
/-- all of them are TERMS -/
def aQ (α : kS) (l : List Int32) : Prop := ∀ p, p ∈ l → qP α p
theorem aQ.g {α β : kS} {l : List Int32} (hg : grw α β) (h : aQ α l) : aQ β l := fun p hp => (h p hp).g hg
theorem kin {α : kS} (hO : kOk α) {p : Int32} (h : f_Terms_kind p α ≠ 0) : ∃ j, p = nI j ∧ j < tn α := by
  have h0 : ¬ p < 0 := fun q => h (kind_neg q)
  obtain ⟨j, hj, rfl⟩ := nI_of h0
  refine ⟨j, rfl, Nat.not_le.mp fun z => h ?_⟩
  obtain ⟨e6, h5, -⟩ := hO.n
  unfold f_Terms_kind
  rw [if_neg h0, e6, if_pos (nI_le z hj)]
theorem nI_ne {k m : Nat} (hk : k < 2 ^ 31) (hm : m < 2 ^ 31) (h : k ≠ m) : nI k ≠ nI m := fun e => h ((nI_eq hk hm).mp e)
/-- the parts of a TERM that has some -/
theorem part_q {α : kS} (hO : kOk α) (hW : tWf α) {p : Int32} {k : Nat} (h5 : 5 ≤ k) (hk : k ≤ 9) (h : f_Terms_kind p α = nI k) : qP α (f_Terms_left p α) ∧ (k ≠ 8 → qP α (f_Terms_right p α)) ∧ (k = 8 → knd α 9 (f_Terms_right p α)) := by
  obtain ⟨j, rfl, hj⟩ := kin hO (p := p) (by rw [h]; exact nI_ne (m := 0) (by omega) (by omega) (by omega))
  have e := kd_is hO hj (k := k) (by omega) h
  obtain ⟨l, r, e1, e2, hl, hr, h9, h8, -⟩ := parts hW hj (by omega)
  rw [lf_in hO hj, rt_in hO hj, e1, e2]
  refine ⟨⟨l, rfl, by omega, h9⟩, fun z => ⟨r, rfl, by omega, fun y => ?_⟩, fun z => ⟨r, rfl, by omega, h8.mpr (by omega)⟩⟩
  have := h8.mp y
  omega
theorem FP_part {α : kS} {y : Nat} (hO : kOk α) (hW : tWf α) {p : Int32} {k : Nat} (h5 : 5 ≤ k) (hk : k ≤ 9) (h : f_Terms_kind p α = nI k) (hF : FP α y p) : FP α y (f_Terms_left p α) ∧ FP α y (f_Terms_right p α) := by
  obtain ⟨t, rfl, ht, hF⟩ := hF
  have e := kd_is hO ht (k := k) (by omega) h
  obtain ⟨e1, e2, hl, hr, -⟩ := partsN hO hW ht (by omega)
  obtain ⟨a, b⟩ := FL_p hF (by omega)
  rw [lf_in hO ht, rt_in hO ht, e1, e2]
  exact ⟨⟨_, rfl, by omega, a⟩, _, rfl, by omega, b⟩
theorem FP_spn {α : kS} {y : Nat} (hO : kOk α) (hW : tWf α) : ∀ (k : Nat) {p : Int32}, aP α k p → FP α y p → FP α y (spn α k p)
  | 0, _, _, h => h
  | k + 1, _, hp, h => FP_spn hO hW k hp.2 (FP_part hO hW (k := 5) (by decide) (by decide) hp.1 h).1
theorem FP_head {N : Nat} {α : kS} {y : Nat} {p q : Int32} (hN : 3000 < N) (hO : kOk α) (hW : tWf α) (e : f_Terms_head N p α = some q) (h : FP α y p) : FP α y q := by
  obtain ⟨b, e2, h2, -⟩ := head_go (N := N) (α := α) 3000 0 N p (by omega) hN
  have e3 : some q = some (spn α b p) := e.symm.trans e2
  injection e3 with e3
  rw [e3]
  exact FP_spn hO hW b h2 h
theorem FP_from {α : kS} {y k : Nat} (hO : kOk α) (hW : tWf α) {p : Int32} (hp : aP α (k + 1) p) (h : FP α y p) : FP α y (f_Terms_right (spn α k p) α) := by
  obtain ⟨a, b⟩ := aP_kind k hp
  exact (FP_part hO hW (k := 5) (by decide) (by decide) a (FP_spn hO hW k b h)).2
theorem knd.kd {α : kS} (hO : kOk α) {k : Nat} {p : Int32} (h : knd α k p) : f_Terms_kind p α = nI k := by
  obtain ⟨j, rfl, h1, h2⟩ := h
  rw [kd_at hO h1, h2]
theorem bnd.kd {α : kS} (hO : kOk α) {p : Int32} (h : bnd α p) : f_Terms_kind p α = nI 6 ∨ f_Terms_kind p α = nI 7 := by
  obtain ⟨j, rfl, h1, h2⟩ := h
  rw [kd_at hO h1]
  rcases h2 with h2 | h2
  · exact Or.inl (by rw [h2])
  · exact Or.inr (by rw [h2])
theorem bnd.q {α : kS} (hO : kOk α) (hW : tWf α) {p : Int32} (h : bnd α p) : qP α p ∧ qP α (f_Terms_left p α) ∧ qP α (f_Terms_right p α) := by
  have hk := h.kd hO
  obtain ⟨j, rfl, h1, h2⟩ := h
  refine ⟨⟨j, rfl, h1, by omega⟩, ?_⟩
  rcases hk with e | e
  · obtain ⟨a, b, -⟩ := part_q hO hW (k := 6) (by decide) (by decide) e
    exact ⟨a, b (by decide)⟩
  · obtain ⟨a, b, -⟩ := part_q hO hW (k := 7) (by decide) (by decide) e
    exact ⟨a, b (by decide)⟩
theorem knd.q {α : kS} {k : Nat} {p : Int32} (h : knd α k p) (hk : k ≠ 9) : qP α p := by
  obtain ⟨j, e, h1, h2⟩ := h
  exact ⟨j, e, h1, by omega⟩
theorem knd.of {α : kS} (hO : kOk α) {k : Nat} (hk : k ≠ 0) (hk9 : k ≤ 9) {p : Int32} (h : f_Terms_kind p α = nI k) : knd α k p := by
  obtain ⟨j, rfl, hj⟩ := kin hO (p := p) (by rw [h]; exact nI_ne (m := 0) (by omega) (by omega) hk)
  exact ⟨j, rfl, hj, kd_is hO hj (by omega) h⟩
theorem bnd.of {α : kS} (hO : kOk α) {p : Int32} (h : f_Terms_kind p α = nI 6 ∨ f_Terms_kind p α = nI 7) : bnd α p := by
  rcases h with h | h
  · obtain ⟨j, e, h1, h2⟩ := knd.of hO (k := 6) (by decide) (by decide) h
    exact ⟨j, e, h1, Or.inl h2⟩
  · obtain ⟨j, e, h1, h2⟩ := knd.of hO (k := 7) (by decide) (by decide) h
    exact ⟨j, e, h1, Or.inr h2⟩
theorem last_of {l : List Int32} {k : Nat} (h : l.length = k + 1) : ∃ L v, l = L ++ [v] ∧ L.length = k := by
  have hn : l ≠ [] := fun z => by rw [z] at h; cases h
  exact ⟨l.dropLast, l.getLast hn, (List.dropLast_concat_getLast hn).symm, by rw [List.length_dropLast]; omega⟩
-- the TERMS behind the head are handed over
theorem giveLast_go {N K M : Nat} (hM : M < 2 ^ 31) : ∀ (k i n : Nat) (p : Int32) (β : kS), tT K β → aP β k p → (β.2.1 14).length + k ≤ 2048 → i + k = M → k < n → ∃ γ l, f_Red_giveLast_5 N n (nI i) p (nI M) β = some (some (some (spn β k p)), γ) ∧ tT K γ ∧ ch [] [14] β γ ∧ sT β γ ∧ γ.2.1 14 = β.2.1 14 ++ l ∧ l.length = k ∧ aQ γ l ∧ ∀ y, FP β y p → aF γ y l
  | 0, i, n, p, β, h, _, _, hi, hn => by
    obtain ⟨n, rfl⟩ : ∃ n', n = n' + 1 := ⟨n - 1, by omega⟩
    refine ⟨β, [], ?_, h, ch.rf, ⟨rfl, rfl⟩, by rw [List.append_nil], rfl, (fun _ q => by cases q), fun _ _ _ q => by cases q⟩
    rw [f_Red_giveLast_5, if_pos (nI_le (by omega) (by omega))]
    rfl
  | k + 1, i, n, p, β, h, ha, hl, hi, hn => by
    obtain ⟨n, rfl⟩ : ∃ n', n = n' + 1 := ⟨n - 1, by omega⟩
    obtain ⟨M', e, h'⟩ := push_t (r := 14) (f_Terms_right p β) h (by decide) (by rw [kMx14]; omega)
    have s1 : sT β (kRs β 14 (β.2.1 14 ++ [f_Terms_right p β]) M') := ⟨rfl, rfl⟩
    have c1 : ch [] [14] β (kRs β 14 (β.2.1 14 ++ [f_Terms_right p β]) M') := ch.rs (by decide)
    obtain ⟨γ, l, e2, h2, c2, s2, r2, l2, q2, q3⟩ := giveLast_go (N := N) hM k (i + 1) n (f_Terms_left p β) _ h' ((s1.ap k _).mpr ha.2) (by show (β.2.1 14 ++ [_]).length + k ≤ 2048; rw [List.length_append]; show _ + 1 + k ≤ _; omega) (by omega) (by omega)
    refine ⟨γ, f_Terms_right p β :: l, ?_, h2, c1.tr c2, s1.tr s2, ?_, by show l.length + 1 = k + 1; omega, ?_, ?_⟩
    · rw [f_Red_giveLast_5, if_neg (nI_ge (by omega) hM)]
      refine (psh rfl e).trans ?_
      rw [s1.sp] at e2
      rw [nI_1]
      exact e2
    · rw [r2]
      show (β.2.1 14 ++ [_]) ++ l = _
      rw [List.append_assoc]
      rfl
    · intro x hx
      rcases List.mem_cons.mp hx with rfl | hx
      · exact ((part_q h.1.1 h.2.1 (k := 5) (by decide) (by decide) ha.1).2.1 (by decide)).g (c1.tr c2).2.2
      · exact q2 x hx
    · intro y hy x hx
      obtain ⟨f1, f2⟩ := FP_part h.1.1 h.2.1 (k := 5) (by decide) (by decide) ha.1 hy
      rcases List.mem_cons.mp hx with rfl | hx
      · exact f2.g h.1.1 h.2.1 (c1.tr c2).2.2
      · exact q3 y (f1.g h.1.1 h.2.1 c1.2.2) x hx
theorem giveLast_ok {N K k : Nat} (hN : 2 ^ 31 ≤ N) {β : kS} {p x : Int32} (h : tT K β) (hx : x ≤ 0 ∧ k = 0 ∨ x = nI k) (hk : k < 2 ^ 31) (ha : aP β k p) (hl : (β.2.1 14).length + k ≤ 2048) :
    ∃ γ l, f_Red_giveLast N p x β = some (some (some (spn β k p)), γ) ∧ tT K γ ∧ ch [] [14] β γ ∧ sT β γ ∧ γ.2.1 14 = β.2.1 14 ++ l ∧ l.length = k ∧ aQ γ l ∧ ∀ y, FP β y p → aF γ y l := by
  rcases hx with ⟨hx, rfl⟩ | rfl
  · obtain ⟨n, rfl⟩ : ∃ n', N = n' + 1 := ⟨N - 1, by omega⟩
    refine ⟨β, [], ?_, h, ch.rf, ⟨rfl, rfl⟩, by rw [List.append_nil], rfl, (fun _ q => by cases q), fun _ _ _ q => by cases q⟩
    show f_Red_giveLast_5 (n + 1) (n + 1) 0 p x β = _
    rw [f_Red_giveLast_5, if_pos hx]
    rfl
  · exact giveLast_go hk k 0 N p β h ha hl (by omega) (by omega)
/-- what is handed over stands behind a new head -/
theorem apply_go {N K : Nat} (hN : 524288 < N) : ∀ (k n : Nat) (x : Int32) (β : kS), tT K β → (β.2.1 14).length = k → aQ β (β.2.1 14) → qP β x → k < n →
    tV (f_Red_applyGiven_2 N n x β) (fun γ => ∃ δ y, tT K δ ∧ ch [2, 3, 4, 6] [14] β δ ∧ qP δ y ∧ (∀ yy, FP β yy x → aF β yy (β.2.1 14) → FP δ yy y) ∧ γ = f_Fra_set 1 y δ) (fun γ => tT K γ ∧ ch [2, 3, 4, 6] [14] β γ)
  | 0, n, x, β, h, hl, _, hx, hn => by
    obtain ⟨n, rfl⟩ : ∃ n', n = n' + 1 := ⟨n - 1, by omega⟩
    rw [f_Red_applyGiven_2, if_pos (by unfold fR_size; rw [hl]; decide)]
    refine (charge_ok _ h).bv (fun δ q => ?_) (fun δ q => ⟨q.1, q.2.mo (by decide) (by decide)⟩)
    exact tV.ret ⟨δ, x, q.1, q.2.mo (by decide) (by decide), hx.g q.2.2.2, fun yy f1 _ => f1.g h.1.1 h.2.1 q.2.2.2, rfl⟩
  | k + 1, n, x, β, h, hl, hq, hx, hn => by
    obtain ⟨n, rfl⟩ : ∃ n', n = n' + 1 := ⟨n - 1, by omega⟩
    obtain ⟨L, v, e, hL⟩ := last_of hl
    have p1 : fR_pop β 14 = (v, kSl β 14 L) := pop_e e
    have h1 : tT K (kSl β 14 L) := h.sl (by decide) (by rw [e, List.length_append]; omega)
    have c1 : ch [2, 3, 4, 6] [14] β (kSl β 14 L) := ch.rs (by decide)
    have hs : ¬ fR_size β 14 ≤ 0 := by
      have h2 := row_sm h (r := 14) (by decide)
      unfold fR_size
      exact nI_ge (a := 0) (by omega) (by omega)
    obtain ⟨a, rfl, ha⟩ := hx
    obtain ⟨b, eb, hb⟩ := hq v (by rw [e]; exact List.mem_append_right _ (List.mem_singleton.mpr rfl))
    subst eb
    rw [f_Red_applyGiven_2, if_neg hs, p1]
    refine (mk_n (k := 5) (a := a) (b := b) hN h1 (by decide) (by decide) (ha.g c1.2.2) (hb.g c1.2.2)).bv (fun v δ q => ?_) (fun δ q => ⟨q.1, c1.tr (q.2.mo (by decide) (by decide))⟩)
    obtain ⟨q1, q2, j, rfl, q3, q4, q5, q6⟩ := q
    have c2 : ch [2, 3, 4, 6] [14] (kSl β 14 L) δ := q2.mo (by decide) (by decide)
    have r14 : δ.2.1 14 = L := q2.row (by decide) (by decide)
    refine (apply_go hN k n (nI j) δ q1 (by rw [r14]; exact hL) ?_ ⟨j, rfl, q3⟩ (by omega)).mono (fun γ u => ?_) (fun γ u => ⟨u.1, (c1.tr c2).tr u.2⟩)
    · rw [r14]
      exact fun y hy => (hq y (by rw [e]; exact List.mem_append_left _ hy)).g (c1.tr c2).2.2
    · obtain ⟨ε, y, u1, u2, u3, u5, u4⟩ := u
      refine ⟨ε, y, u1, (c1.tr c2).tr u2, u3, fun yy f1 f2 => u5 yy ?_ ?_, u4⟩
      · obtain ⟨-, hn, -⟩ := q1.1.1.n
        have gn := (c1.tr c2).2.2.1
        have k1 := ha.1
        have k2 := hb.1
        obtain ⟨a', ea, fa1, fa2⟩ := f1
        have : a' = a := (nI_eq (by omega) (by omega)).mp ea.symm
        subst this
        obtain ⟨b', eb, fb1, fb2⟩ := f2 (nI b) (by rw [e]; exact List.mem_append_right _ (List.mem_singleton.mpr rfl))
        have : b' = b := (nI_eq (by omega) (by omega)).mp eb.symm
        subst this
        refine ⟨j, rfl, q3.1, FL_mk (by omega) ?_ ?_⟩
        · rw [show lfN δ j = a' by unfold lfN; rw [q5, nI_clamp (by omega)]]
          exact fa2.g h.1.1 h.2.1 (c1.tr c2).2.2 fa1
        · rw [show rtN δ j = b' by unfold rtN; rw [q6, nI_clamp (by omega)]]
          exact fb2.g h.1.1 h.2.1 (c1.tr c2).2.2 fb1
      · rw [r14]
        exact fun y hy => (f2 y (by rw [e]; exact List.mem_append_left _ hy)).g h.1.1 h.2.1 (c1.tr c2).2.2
-- the count of VARIABLES
def pl (n : Nat) : Bool := decide (n ≤ 36) && !(n == 7 || n == 12 || n == 17 || n == 19)
section VC
variable {n : Nat} {x : Int32 × Int32 × Int32 × Int32} {fs : List F5}
theorem vc_p (h : pl n = true) : vc ((nI n, x) :: fs) = vc fs ∧ vc1 ((nI n, x) :: fs) = vc1 fs := by
  unfold pl at h
  simp only [Bool.and_eq_true, decide_eq_true_eq, Bool.not_eq_true', Bool.or_eq_false_iff, beq_eq_false_iff_ne] at h
  obtain ⟨h0, ⟨⟨h7, h12⟩, h17⟩, h19⟩ := h
  have e : ∀ m : Nat, m ≤ 36 → n ≠ m → ¬ nI n = nI m := fun m hm hn => nI_ne (by omega) (by omega) hn
  refine ⟨?_, ?_⟩
  · show (if _ then 1 else 0) + vc fs = _
    rw [if_neg (fun z => z.elim (e 7 (by omega) h7) fun z => z.elim (e 12 (by omega) h12) fun z => z.elim (e 17 (by omega) h17) (e 19 (by omega) h19)), Nat.zero_add]
  · show (if _ then 1 else 0) + vc1 fs = _
    rw [if_neg (fun z => z.elim (e 7 (by omega) h7) (e 12 (by omega) h12)), Nat.zero_add]
theorem vc_c (h : n = 7 ∨ n = 12) : vc ((nI n, x) :: fs) = 1 + vc fs ∧ vc1 ((nI n, x) :: fs) = 1 + vc1 fs := by
  rcases h with rfl | rfl
  · refine ⟨?_, ?_⟩
    · show (if _ then 1 else 0) + vc fs = _
      rw [if_pos]; exact Or.inl rfl
    · show (if _ then 1 else 0) + vc1 fs = _
      rw [if_pos]; exact Or.inl rfl
  · refine ⟨?_, ?_⟩
    · show (if _ then 1 else 0) + vc fs = _
      rw [if_pos]; exact Or.inr (Or.inl rfl)
    · show (if _ then 1 else 0) + vc1 fs = _
      rw [if_pos]; exact Or.inr rfl
theorem vc_a (h : n = 17 ∨ n = 19) : vc ((nI n, x) :: fs) = 1 + vc fs ∧ vc1 ((nI n, x) :: fs) = vc1 fs := by
  rcases h with rfl | rfl
  · refine ⟨?_, ?_⟩
    · show (if _ then 1 else 0) + vc fs = _
      rw [if_pos]; exact Or.inr (Or.inr (Or.inl rfl))
    · show (if _ then 1 else 0) + vc1 fs = _
      rw [if_neg, Nat.zero_add]
      exact (by decide : ¬ ((nI 17 : Int32) = 7 ∨ (nI 17 : Int32) = 12))
  · refine ⟨?_, ?_⟩
    · show (if _ then 1 else 0) + vc fs = _
      rw [if_pos]; exact Or.inr (Or.inr (Or.inr rfl))
    · show (if _ then 1 else 0) + vc1 fs = _
      rw [if_neg, Nat.zero_add]
      exact (by decide : ¬ ((nI 19 : Int32) = 7 ∨ (nI 19 : Int32) = 12))
end VC
section TVP
variable {α : kS} {n n' yv : Nat} {x x' : Int32 × Int32 × Int32 × Int32} {fs : List F5} {ty : List Int32} {v : Int32}
theorem tvp.op (h : tvp yv α ((nI n, x) :: fs) ty) (hn : pl n = true) (hn' : pl n' = true) : tvp yv α ((nI n', x') :: fs) ty := h.same ((vc_p hn').1.trans (vc_p hn).1.symm) ((vc_p hn').2.trans (vc_p hn).2.symm)
theorem tvp.push (h : tvp yv α fs ty) (hn' : pl n' = true) : tvp yv α ((nI n', x') :: fs) ty := h.same (vc_p hn').1 (vc_p hn').2
theorem tvp.pop (h : tvp yv α ((nI n, x) :: fs) ty) (hn : pl n = true) : tvp yv α fs ty := h.same (vc_p hn).1.symm (vc_p hn).2.symm
theorem tvp.keep (h : tvp yv α ((nI n, x) :: fs) ty) : tvp yv α ((nI n, x') :: fs) ty := h.same rfl rfl
theorem get_app {l : List Int32} {i : Nat} (h : i < l.length) : (l ++ [v]).getD i 0 = l.getD i 0 := by
  rw [List.getD_eq_getElem?_getD, List.getD_eq_getElem?_getD, List.getElem?_append_left h]
theorem get_drop {l : List Int32} {i : Nat} (h : i < l.length - 1) : l.dropLast.getD i 0 = l.getD i 0 := by
  rw [List.getD_eq_getElem?_getD, List.getD_eq_getElem?_getD, List.getElem?_dropLast, if_pos h]
theorem tvp.newc (h : tvp yv α ((nI n, x) :: fs) ty) (hn : pl n = true) (hn' : n' = 7 ∨ n' = 12) : tvp yv α ((nI n', x') :: fs) (ty ++ [v]) := by
  obtain ⟨h1, h2, h3⟩ := h
  rw [(vc_p hn).1] at h1
  rw [(vc_p hn).2] at h2 h3
  unfold tvp
  rw [(vc_c hn').1, (vc_c hn').2, List.length_append]
  refine ⟨⟨h1.1, by show ty.length + 1 = _; omega⟩, by show _ ≤ ty.length + 1; omega, fun i hi => ?_⟩
  have hi : i < ty.length + 1 - (1 + vc1 fs) := hi
  rw [get_app (by omega)]
  exact h3 i (by omega)
theorem tvp.newa (h : tvp yv α ((nI n, x) :: fs) ty) (hn : pl n = true) (hn' : n' = 17 ∨ n' = 19) (h0 : vc1 fs = 0) (hv : qP α v) : tvp yv α ((nI n', x') :: fs) (ty ++ [v]) := by
  obtain ⟨h1, h2, h3⟩ := h
  rw [(vc_p hn).1] at h1
  rw [(vc_p hn).2] at h2 h3
  unfold tvp
  rw [(vc_a hn').1, (vc_a hn').2, List.length_append]
  refine ⟨⟨h1.1, by show ty.length + 1 = _; omega⟩, by show _ ≤ ty.length + 1; omega, fun i hi => ?_⟩
  have hi : i < ty.length + 1 - vc1 fs := hi
  rcases Nat.lt_or_ge i ty.length with z | z
  · rw [get_app z]
    exact h3 i (by omega)
  · have : i = ty.length := by omega
    rw [this, List.getD_eq_getElem?_getD, List.getElem?_append_right (Nat.le_refl _), Nat.sub_self]
    exact hv
theorem tvp.dropc (h : tvp yv α ((nI n, x) :: fs) ty) (hn : n = 7 ∨ n = 12) : tvp yv α fs ty.dropLast := by
  obtain ⟨h1, h2, h3⟩ := h
  rw [(vc_c hn).1] at h1
  rw [(vc_c hn).2] at h2 h3
  unfold tvp
  rw [List.length_dropLast]
  refine ⟨⟨h1.1, by omega⟩, by omega, fun i hi => ?_⟩
  rw [get_drop (by omega)]
  exact h3 i (by omega)
theorem tvp.dropa (h : tvp yv α ((nI n, x) :: fs) ty) (hn : n = 17 ∨ n = 19) (h0 : vc1 fs = 0) : tvp yv α fs ty.dropLast := by
  obtain ⟨h1, h2, h3⟩ := h
  rw [(vc_a hn).1] at h1
  rw [(vc_a hn).2] at h2 h3
  unfold tvp
  rw [List.length_dropLast]
  refine ⟨⟨h1.1, by omega⟩, by omega, fun i hi => ?_⟩
  rw [get_drop (by omega)]
  exact h3 i (by omega)
theorem tvp.len (h : tvp yv α fs ty) (hl : fs.length ≤ 490) : ty.length < 1024 := by
  have := vc_le fs
  have := h.1
  omega
end TVP
/-- the frames are in order -/
def SI (yv z : Nat) (α : kS) : Prop := ∃ fs ty r g, vw α fs ty r ∧ st α z fs g ∧ (g ≠ 0 → qP α r) ∧ g ≠ 2 ∧ tvp yv α fs ty
def TI (K yv z : Nat) (α β : kS) : Prop := tT K β ∧ wk α β ∧ SI yv z β
def TX (K : Nat) (α β : kS) : Prop := tT K β ∧ wk α β
/-- the top frame, of the op n -/
def Top (K c m yv z n : Nat) (α : kS) (a b t : Int32) (dd : Nat) (fs : List F5) (ty : List Int32) (r : Int32) (g : Nat) : Prop :=
  tT K α ∧ eI c K m α ∧ vw α ((nI n, a, b, t, nI dd) :: fs) ty r ∧ fo α n dd fs.length g a b t ∧ lvs (lv n) fs ∧ st α (zs n z) fs (gv α n g a) ∧ (g ≠ 0 → qP α r) ∧ g ≠ 2 ∧ tvp yv α ((nI n, a, b, t, nI dd) :: fs) ty
theorem st.w {K z g : Nat} {α β : kS} {fs : List F5} (h : tT K α) (hβ : tT K β) (w : grw α β) (hs : st α z fs g) : st β z fs g := st.g h.1.1 h.2.1 hβ.1.1 w fs hs
theorem SI.top {K yv z n dd g : Nat} {α β : kS} {a b t r : Int32} {fs : List F5} {ty : List Int32} (h : tT K α) (hβ : tT K β) (w : grw α β) (v : vw β ((nI n, a, b, t, nI dd) :: fs) ty r) (hn : n ≤ 31) (hf : fo β n dd fs.length g a b t) (hl : lvs (lv n) fs) (hs : st α (zs n z) fs (gv β n g a)) (hr : g ≠ 0 → qP β r) (hg : g ≠ 2) (ht : tvp yv β ((nI n, a, b, t, nI dd) :: fs) ty) : SI yv z β :=
  ⟨_, _, _, g, v, ⟨n, dd, rfl, ⟨by omega, fun y => by omega⟩, rfl, hf, hl, fun _ => st.w h hβ w hs⟩, hr, hg, ht⟩
