-- TERMS are well made, and make keeps it so
def nK (α : kS) (i : Nat) : Nat := (tKd α i).toNatClampNeg
def nS (α : kS) (i : Nat) : Nat := (tSz α i).toNatClampNeg
def nD (α : kS) (i : Nat) : Nat := (tDp α i).toNatClampNeg
def tLo (α : kS) (i : Nat) : Int32 := (((α.2.2.2.1 i).toUInt64 >>> ((26 : Int32).toInt64.toUInt64 &&& Int64.toUInt64 63)).toInt64).toInt32 &&& 8191
def tFe (α : kS) (i : Nat) : Int32 := (((α.2.2.2.1 i).toUInt64 >>> ((39 : Int32).toInt64.toUInt64 &&& Int64.toUInt64 63)).toInt64).toInt32 &&& 2047
def fN (α : kS) (i : Nat) : Nat := (tFe α i).toNatClampNeg
theorem fe_n (α : kS) (i : Nat) : tFe α i = nI (fN α i) ∧ fN α i < 2048 := by
  obtain ⟨j, hj, e⟩ := pk_andE ((((α.2.2.2.1 i).toUInt64 >>> ((39 : Int32).toInt64.toUInt64 &&& Int64.toUInt64 63)).toInt64).toInt32) (m := 2047) 11 (by decide)
  have e1 : tFe α i = nI j := e
  have : fN α i = j := by unfold fN; rw [e1, nI_clamp (by omega)]
  rw [this]; exact ⟨e1, hj⟩
theorem fe_in {α : kS} {i : Nat} (h : kOk α) (hi : i < tn α) : f_Terms_free (nI i) α = nI (fN α i) := by
  refine Eq.trans ?_ (fe_n α i).1
  obtain ⟨e, h1, -⟩ := h.n
  unfold f_Terms_free
  rw [if_neg (nI_pos (by omega)), e, if_neg (nI_ge hi (by omega)), nI_clamp (by omega)]
  rfl
theorem kd_n (α : kS) (i : Nat) : tKd α i = nI (nK α i) := by
  obtain ⟨j, hj, e⟩ := pk_andE ((α.2.2.2.1 i).toInt32) (m := 15) 4 (by decide)
  have e1 : tKd α i = nI j := e
  have : nK α i = j := by unfold nK; rw [e1, nI_clamp (by omega)]
  rw [this]; exact e1
theorem sz_n (α : kS) (i : Nat) : tSz α i = nI (nS α i) := by
  obtain ⟨j, hj, e⟩ := pk_andE ((((α.2.2.2.1 i).toUInt64 >>> ((4 : Int32).toInt64.toUInt64 &&& Int64.toUInt64 63)).toInt64).toInt32) (m := 8191) 13 (by decide)
  have e1 : tSz α i = nI j := e
  have : nS α i = j := by unfold nS; rw [e1, nI_clamp (by omega)]
  rw [this]; exact e1
theorem dp_n (α : kS) (i : Nat) : tDp α i = nI (nD α i) := by
  obtain ⟨j, hj, e⟩ := pk_andE ((((α.2.2.2.1 i).toUInt64 >>> ((17 : Int32).toInt64.toUInt64 &&& Int64.toUInt64 63)).toInt64).toInt32) (m := 511) 9 (by decide)
  have e1 : tDp α i = nI j := e
  have : nD α i = j := by unfold nD; rw [e1, nI_clamp (by omega)]
  rw [this]; exact e1
/-- what may stand in a TERM of the kind k made as the i-th -/
def tPr (α : kS) (k i l r : Nat) : Prop := l < i ∧ r < i ∧ nK α l ≠ 9 ∧ (nK α r = 9 ↔ k = 8)
def tSd (α : kS) (k sz dp l r : Nat) : Prop := sz = nS α l + nS α r + (if k = 9 then 0 else 1) ∧ dp = (if k = 5 then max (nD α l) (nD α r + 1) else if k = 9 then max (nD α l) (nD α r) else max (nD α l) (nD α r) + 1)
/-- the free field is never below the truth -/
def tFf (α : kS) (i : Nat) : Prop := (nK α i = 1 → ∀ l, l < 2047 → tLf α i = nI l → l < fN α i) ∧ (5 ≤ nK α i → ∀ l r, l < i → r < i → tLf α i = nI l → tRt α i = nI r → fN α l ≤ fN α i ∧ fN α r ≤ fN α i)
def tWf (α : kS) : Prop := ∀ i, i < tn α → nK α i ≤ 9 ∧ (1 ≤ nS α i ∧ nS α i ≤ 3000) ∧ (1 ≤ nD α i ∧ nD α i ≤ 200) ∧ (nK α i < 5 → nS α i = 1 ∧ nD α i = 1) ∧ (5 ≤ nK α i → ∃ l r, tLf α i = nI l ∧ tRt α i = nI r ∧ tPr α (nK α i) i l r ∧ tSd α (nK α i) (nS α i) (nD α i) l r) ∧ (nK α i = 3 ∨ nK α i = 4 → tLo α i = 0) ∧ tFf α i
section NAT
variable {α : kS} {j : Nat}
theorem kd_at (hO : kOk α) (hj : j < tn α) : f_Terms_kind (nI j) α = nI (nK α j) := (kd_in hO hj).trans (kd_n α j)
theorem sz_at (hO : kOk α) (hj : j < tn α) : f_Terms_size (nI j) α = nI (nS α j) := (sz_in hO hj).trans (sz_n α j)
theorem dp_at (hO : kOk α) (hj : j < tn α) : f_Terms_depth (nI j) α = nI (nD α j) := (dp_in hO hj).trans (dp_n α j)
end NAT
theorem nI_max (a b : Nat) (ha : a < 2 ^ 31) (hb : b < 2 ^ 31) : (if nI a < nI b then nI b else nI a) = nI (max a b) := by
  by_cases h : a < b
  · rw [if_pos (nI_lt h hb), Nat.max_eq_right (by omega)]
  · rw [if_neg (nI_nlt (by omega) ha), Nat.max_eq_left (by omega)]
/-- what make goes on to, by its kind -/
theorem mkE_is {N : Nat} {α : kS} (hO : kOk α) (hW : tWf α) {k : Nat} (hk : k ≤ 9) {l r : Int32} {a b : Nat} (hp : 5 ≤ k → l = nI a ∧ r = nI b ∧ a < tn α ∧ b < tn α) :
    ∃ (y8 y7 : Int32) (sz dp : Nat), mkE N (nI k) l r α = f_Terms_make_j215 N y8 y7 (nI dp) (nI sz) (nI k) l r α ∧ sz ≤ 6001 ∧ dp ≤ 201 ∧ 1 ≤ sz ∧ 1 ≤ dp ∧ (k < 5 → sz = 1 ∧ dp = 1) ∧ (5 ≤ k → tSd α k sz dp a b) ∧ (k = 3 ∨ k = 4 → y8 = 0 ∧ y7 = 0) ∧ (k = 1 → y8 = l + 1) ∧ (5 ≤ k → y8 = nI (max (fN α a) (fN α b))) := by
  have hlt : ∀ m : Nat, m ≤ 9 → (nI k = nI m ↔ k = m) := fun m hm => nI_eq (by omega) (by omega)
  by_cases h5 : k < 5
  · have c5 : nI k < 5 := nI_lt (b := 5) h5 (by decide)
    by_cases h0 : nI k = 0
    · have h1 : ¬ nI k = 1 := fun e => by rw [h0] at e; exact absurd e (by decide)
      have h00 := (hlt 0 (by omega)).mp h0
      refine ⟨0, l + 1, 1, 1, ?_, by omega, by omega, by omega, by omega, fun _ => ⟨rfl, rfl⟩, fun h => by omega, fun h => by omega, fun h => by omega, fun h => by omega⟩
      unfold mkE f_Terms_make_j89 f_Terms_make_j103
      rw [if_pos h0, if_neg h1, if_pos c5]
      rfl
    · by_cases h1 : nI k = 1
      · have h11 := (hlt 1 (by omega)).mp h1
        refine ⟨l + 1, 0, 1, 1, ?_, by omega, by omega, by omega, by omega, fun _ => ⟨rfl, rfl⟩, fun h => by omega, fun h => by omega, fun _ => rfl, fun h => by omega⟩
        unfold mkE f_Terms_make_j89 f_Terms_make_j103
        rw [if_neg h0, if_pos h1, if_pos c5]
        rfl
      · refine ⟨0, 0, 1, 1, ?_, by omega, by omega, by omega, by omega, fun _ => ⟨rfl, rfl⟩, fun h => by omega, fun _ => ⟨rfl, rfl⟩, fun h => absurd ((hlt 1 (by omega)).mpr h) h1, fun h => by omega⟩
        unfold mkE f_Terms_make_j89 f_Terms_make_j103
        rw [if_neg h0, if_neg h1, if_pos c5]
        rfl
  · obtain ⟨rfl, rfl, ha, hb⟩ := hp (by omega)
    have s1 := sz_at hO ha
    have s3 := sz_at hO hb
    have d1 := dp_at hO ha
    have d3 := dp_at hO hb
    obtain ⟨-, ⟨s5, s2⟩, ⟨d5, d2⟩, -⟩ := hW a ha
    obtain ⟨-, ⟨s6, s4⟩, ⟨d6, d4⟩, -⟩ := hW b hb
    have hfr : (if f_Terms_free (nI a) α < f_Terms_free (nI b) α then f_Terms_free (nI b) α else f_Terms_free (nI a) α) = nI (max (fN α a) (fN α b)) := by
      rw [fe_in hO ha, fe_in hO hb]
      exact nI_max _ _ (by have := (fe_n α a).2; omega) (by have := (fe_n α b).2; omega)
    have c5 : ¬ nI k < 5 := nI_nlt (b := 5) (by omega) (by omega)
    have h0 : ¬ nI k = 0 := fun e => by have := (hlt 0 (by omega)).mp e; omega
    have h1 : ¬ nI k = 1 := fun e => by have := (hlt 1 (by omega)).mp e; omega
    have a1 : ∀ m : Nat, nI m + 1 = nI (m + 1) := nI_1
    have a0 : ∀ m : Nat, nI m + 0 = nI m := fun m => Int32.add_zero _
    by_cases h9 : k = 9
    · have c9 : nI k = 9 := (hlt 9 (by omega)).mpr h9
      have n5 : ¬ nI k = 5 := fun e => by have := (hlt 5 (by omega)).mp e; omega
      refine ⟨(if f_Terms_free (nI a) α < f_Terms_free (nI b) α then f_Terms_free (nI b) α else f_Terms_free (nI a) α), (if f_Terms_loose (nI a) α < f_Terms_loose (nI b) α - f_Terms_binds (nI k) α then f_Terms_loose (nI b) α - f_Terms_binds (nI k) α else f_Terms_loose (nI a) α), nS α a + nS α b, max (nD α a) (nD α b), ?_, by omega, by omega, by omega, by omega, fun h => by omega, fun _ => ⟨?_, ?_⟩, fun h => by omega, fun h => by omega, fun _ => hfr⟩
      · unfold mkE f_Terms_make_j89 f_Terms_make_j103
        rw [if_neg h0, if_neg h1, if_neg c5, if_pos c9]
        unfold f_Terms_make_j121
        rw [if_neg n5]
        unfold f_Terms_make_j178
        rw [s1, s3, d1, d3, nI_max _ _ (by omega) (by omega), nI_add, a0, a0]
      · rw [if_pos h9]; rfl
      · rw [if_neg (by omega), if_pos h9]
    · have c9 : ¬ nI k = 9 := fun e => h9 ((hlt 9 (by omega)).mp e)
      by_cases h5' : k = 5
      · have p5 : nI k = 5 := (hlt 5 (by omega)).mpr h5'
        refine ⟨(if f_Terms_free (nI a) α < f_Terms_free (nI b) α then f_Terms_free (nI b) α else f_Terms_free (nI a) α), (if f_Terms_loose (nI a) α < f_Terms_loose (nI b) α - f_Terms_binds (nI k) α then f_Terms_loose (nI b) α - f_Terms_binds (nI k) α else f_Terms_loose (nI a) α), nS α a + nS α b + 1, max (nD α a) (nD α b + 1), ?_, by omega, by omega, by omega, by omega, fun h => by omega, fun _ => ⟨?_, ?_⟩, fun h => by omega, fun h => by omega, fun _ => hfr⟩
        · unfold mkE f_Terms_make_j89 f_Terms_make_j103
          rw [if_neg h0, if_neg h1, if_neg c5, if_neg c9]
          unfold f_Terms_make_j121
          rw [if_pos p5]
          unfold f_Terms_make_j178
          rw [s1, s3, d1, d3, a1, nI_max _ _ (by omega) (by omega), nI_add, a1]
        · rw [if_neg h9]
        · rw [if_pos h5']
      · have n5 : ¬ nI k = 5 := fun e => h5' ((hlt 5 (by omega)).mp e)
        refine ⟨(if f_Terms_free (nI a) α < f_Terms_free (nI b) α then f_Terms_free (nI b) α else f_Terms_free (nI a) α), (if f_Terms_loose (nI a) α < f_Terms_loose (nI b) α - f_Terms_binds (nI k) α then f_Terms_loose (nI b) α - f_Terms_binds (nI k) α else f_Terms_loose (nI a) α), nS α a + nS α b + 1, max (nD α a) (nD α b) + 1, ?_, by omega, by omega, by omega, by omega, fun h => by omega, fun _ => ⟨?_, ?_⟩, fun h => by omega, fun h => by omega, fun _ => hfr⟩
        · unfold mkE f_Terms_make_j89 f_Terms_make_j103
          rw [if_neg h0, if_neg h1, if_neg c5, if_neg c9]
          unfold f_Terms_make_j121
          rw [if_neg n5]
          unfold f_Terms_make_j178
          rw [s1, s3, d1, d3, nI_max _ _ (by omega) (by omega), nI_add, a1, a1]
        · rw [if_neg h9]
        · rw [if_neg h5', if_neg h9]
/-- what is known of a TERM stays known -/
theorem ex_n {α β : kS} (h : tEx α β) {i : Nat} (hi : i < tn α) : nK β i = nK α i ∧ nS β i = nS α i ∧ nD β i = nD α i ∧ tLo β i = tLo α i ∧ tLf β i = tLf α i ∧ tRt β i = tRt α i := by
  obtain ⟨a, b, c⟩ := h.2.2.2.2 i hi
  unfold nK nS nD tKd tSz tDp tLo
  rw [a]
  exact ⟨rfl, rfl, rfl, rfl, b, c⟩
theorem ex_f {α β : kS} (h : tEx α β) {i : Nat} (hi : i < tn α) : fN β i = fN α i := by
  unfold fN tFe
  rw [(h.2.2.2.2 i hi).1]
theorem tPr_ex {α β : kS} (h : tEx α β) {k i l r : Nat} (hi : i ≤ tn α) (hp : tPr α k i l r) : tPr β k i l r := by
  obtain ⟨a, b, c, d⟩ := hp
  unfold tPr
  rw [(ex_n h (i := l) (by omega)).1, (ex_n h (i := r) (by omega)).1]
  exact ⟨a, b, c, d⟩
theorem tSd_ex {α β : kS} (h : tEx α β) {k sz dp l r : Nat} (hl : l < tn α) (hr : r < tn α) (hp : tSd α k sz dp l r) : tSd β k sz dp l r := by
  obtain ⟨-, a1, a2, -⟩ := ex_n h hl
  obtain ⟨-, b1, b2, -⟩ := ex_n h hr
  unfold tSd
  rw [a1, a2, b1, b2]
  exact hp
theorem lo3 : (((tInfo 0 0 (nI 1) (nI 1) (nI 3)).toUInt64 >>> ((26 : Int32).toInt64.toUInt64 &&& Int64.toUInt64 63)).toInt64).toInt32 &&& 8191 = 0 := by decide +kernel
theorem lo4 : (((tInfo 0 0 (nI 1) (nI 1) (nI 4)).toUInt64 >>> ((26 : Int32).toInt64.toUInt64 &&& Int64.toUInt64 63)).toInt64).toInt32 &&& 8191 = 0 := by decide +kernel
theorem tWf_nw {α β : kS} (hO : kOk α) (hW : tWf α) {k sz dp a b : Nat} {l r : Int32} (hk : k ≤ 9) (h : tNw α β k sz dp l r) (h1 : 1 ≤ sz ∧ 1 ≤ dp) (h3 : k < 5 → sz = 1 ∧ dp = 1) (h2 : 5 ≤ k → l = nI a ∧ r = nI b ∧ tPr α k (tn α) a b ∧ tSd α k sz dp a b) (h4 : k = 3 ∨ k = 4 → tLo β (tn α) = 0) (h6 : k = 1 → ∀ l', l' < 2047 → l = nI l' → l' < fN β (tn α)) (h7 : 5 ≤ k → fN α a ≤ fN β (tn α) ∧ fN α b ≤ fN β (tn α)) : tWf β := by
  obtain ⟨a1, a2, a3, a4, a5, a6, a7, a8, a9, a10⟩ := h
  obtain ⟨e6, hn, -⟩ := hO.n
  intro i hi
  rw [a3] at hi
  rcases Nat.lt_or_ge i (tn α) with z | z
  · obtain ⟨n1, n2, n3, n4, n5, n6⟩ := ex_n a2 z
    obtain ⟨b1, b2, b3, b4, b5, b6⟩ := hW i z
    rw [n1, n2, n3, n4, n5, n6]
    refine ⟨b1, b2, b3, b4, fun h5 => ?_, b6.1, ?_⟩
    · obtain ⟨l', r', c1, c2, c3, c4⟩ := b5 h5
      exact ⟨l', r', c1, c2, tPr_ex a2 (by omega) c3, tSd_ex a2 (by have := c3.1; omega) (by have := c3.2.1; omega) c4⟩
    · unfold tFf
      rw [n1, n5, n6, ex_f a2 z]
      refine ⟨b6.2.1, fun h5 l' r' hl hr => ?_⟩
      rw [ex_f a2 (show l' < tn α by omega), ex_f a2 (show r' < tn α by omega)]
      exact b6.2.2 h5 l' r' hl hr
  · have : i = tn α := by omega
    subst this
    have m1 : nK β (tn α) = k := by unfold nK; rw [a6, nI_clamp (by omega)]
    have m2 : nS β (tn α) = sz := by unfold nS; rw [a7, nI_clamp (by omega)]
    have m3 : nD β (tn α) = dp := by unfold nD; rw [a8, nI_clamp (by omega)]
    rw [m1, m2, m3, a9, a10]
    refine ⟨hk, ⟨h1.1, a4⟩, ⟨h1.2, a5⟩, h3, fun h5 => ?_, h4, ?_⟩
    · obtain ⟨c1, c2, c3, c4⟩ := h2 h5
      exact ⟨a, b, c1, c2, tPr_ex a2 (Nat.le_refl _) c3, tSd_ex a2 c3.1 c3.2.1 c4⟩
    · unfold tFf
      rw [m1, a9, a10]
      refine ⟨h6, fun h5 l' r' hl hr el er => ?_⟩
      obtain ⟨c1, c2, c3, c4⟩ := h2 h5
      have q1 : a = l' := (nI_eq (by have := c3.1; omega) (by omega)).mp (c1.symm.trans el)
      have q2 : b = r' := (nI_eq (by have := c3.2.1; omega) (by omega)).mp (c2.symm.trans er)
      rw [ex_f a2 hl, ex_f a2 hr, ← q1, ← q2]
      exact h7 h5
/-- make gives a TERM of just these parts, or fails; all else is as it was -/
theorem make_ok {N : Nat} {α : kS} (hN : 524288 < N) (h : tOk α) (hW : tWf α) {k : Nat} (hk : k ≤ 9) {l r : Int32} {a b : Nat} (hp : 5 ≤ k → l = nI a ∧ r = nI b ∧ tPr α k (tn α) a b) :
    tI (f_Terms_make N (nI k) l r α) (fun v β => tOk β ∧ tWf β ∧ tEx α β ∧ ∃ j, v = nI j ∧ j < tn β ∧ nK β j = k ∧ tLf β j = l ∧ tRt β j = r ∧ (tn β = tn α ∨ tn β = tn α + 1 ∧ j = tn α)) (tFl α) := by
  obtain ⟨e6, hn, -⟩ := h.1.n
  rcases make_goes h hN (nI k) l r with e | ⟨j, hj, e, q1, q2, q3⟩
  · rw [e]
    obtain ⟨y8, y7, sz, dp, e2, b1, b2, b3, b3', b4, b5, b6, b7, b8⟩ := mkE_is (N := N) h.1 hW hk (l := l) (r := r) (a := a) (b := b) (fun h5 => ⟨(hp h5).1, (hp h5).2.1, (hp h5).2.2.1, (hp h5).2.2.2.1⟩)
    rw [e2]
    refine (j215_ok hN h y8 y7 hk (by omega) (by omega) l r).mono (fun v β hq => ?_) (fun _ h => h)
    obtain ⟨rfl, hq, hi⟩ := hq
    have hlo : k = 3 ∨ k = 4 → tLo β (tn α) = 0 := fun h34 => by
      obtain ⟨z1, z2⟩ := b6 h34
      obtain ⟨z3, z4⟩ := b4 (by omega)
      unfold tLo
      rw [hi, z1, z2, z3, z4]
      rcases h34 with z | z
      · rw [z]; exact lo3
      · rw [z]; exact lo4
    have hfl : ∀ f, f < 2048 → y8 = nI f → f ≤ fN β (tn α) := fun f hf e8 => by
      obtain ⟨P, p1, p2, p3⟩ := info_f y7 (f := f) (d := dp) (sz := sz) (k := k) hf (by omega) (by omega) (by omega)
      have p4 : tInfo y8 y7 (nI dp) (nI sz) (nI k) = lN (P * 2 ^ 26 + dp * 2 ^ 17 + sz * 2 ^ 4 + k) := by rw [e8]; exact p3
      unfold fN tFe
      rw [hi, p4, info_fr p1 (by omega) (by omega) (by omega), nI_clamp (by omega)]
      exact p2
    refine ⟨hq.1, tWf_nw h.1 hW hk hq ⟨b3, b3'⟩ b4 (fun h5 => ⟨(hp h5).1, (hp h5).2.1, (hp h5).2.2, b5 h5⟩) hlo (fun h1 l' hl' e => ?_) (fun h5 => ?_), hq.2.1, tn α, rfl, by rw [hq.2.2.1]; omega, ?_, hq.2.2.2.2.2.2.2.2.1, hq.2.2.2.2.2.2.2.2.2, Or.inr ⟨hq.2.2.1, rfl⟩⟩
    · have := hfl (l' + 1) (by omega) (by rw [b7 h1, e]; exact nI_1 l')
      omega
    · have e1 := (fe_n α a).2
      have e2 := (fe_n α b).2
      have := hfl (max (fN α a) (fN α b)) (by omega) (b8 h5)
      exact ⟨by omega, by omega⟩
    · unfold nK
      rw [hq.2.2.2.2.2.1, nI_clamp (by omega)]
  · rw [e]
    refine tI.ret ⟨h, hW, tEx.rf, j, rfl, hj, ?_, q2, q3, Or.inl rfl⟩
    unfold nK
    rw [q1, nI_clamp (by omega)]
