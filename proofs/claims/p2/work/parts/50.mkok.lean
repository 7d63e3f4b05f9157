-- TERMS are well made, and make keeps it so
def nSz (α : kS) (p : Int32) : Nat := if p < 0 then 0 else (tSz α p.toNatClampNeg).toNatClampNeg
def nDp (α : kS) (p : Int32) : Nat := if p < 0 then 0 else (tDp α p.toNatClampNeg).toNatClampNeg
/-- a whole TERM (a PAIR is none): its number is below the length; what is below 0 does no harm -/
def wT (α : kS) (p : Int32) : Prop := p < α.1 6 ∧ (¬ p < 0 → tKd α p.toNatClampNeg ≠ 9)
/-- what may stand in a TERM of the kind k made as the i-th -/
def tPr (α : kS) (k i : Nat) (l r : Int32) : Prop := l < nI i ∧ r < nI i ∧ (¬ l < 0 → tKd α l.toNatClampNeg ≠ 9) ∧ (¬ r < 0 → tKd α r.toNatClampNeg = 9 → k = 8)
def tSd (α : kS) (k sz dp : Nat) (l r : Int32) : Prop := sz = nSz α l + nSz α r + (if k = 9 then 0 else 1) ∧ nDp α l + (if k = 5 ∨ k = 9 then 0 else 1) ≤ dp ∧ nDp α r + (if k = 9 then 0 else 1) ≤ dp
def tWf (α : kS) : Prop := ∀ i, i < tn α → ∃ k sz dp : Nat, tKd α i = nI k ∧ k ≤ 9 ∧ tSz α i = nI sz ∧ sz ≤ 3000 ∧ tDp α i = nI dp ∧ dp ≤ 200 ∧ (k ≠ 9 → 1 ≤ sz ∧ 1 ≤ dp) ∧ (5 ≤ k → tPr α k i (tLf α i) (tRt α i) ∧ tSd α k sz dp (tLf α i) (tRt α i))
theorem p_in {α : kS} (hO : kOk α) {p : Int32} (h : p < α.1 6) (h0 : ¬ p < 0) : ∃ j, j < tn α ∧ p = nI j := by
  obtain ⟨e, h1, -⟩ := hO.n
  obtain ⟨j, hj, rfl⟩ := nI_of h0
  rw [e] at h
  exact ⟨j, (nI_ltI hj (by omega)).mp h, rfl⟩
theorem size_v {α : kS} (hO : kOk α) (hW : tWf α) {p : Int32} (h : p < α.1 6) : f_Terms_size p α = nI (nSz α p) ∧ nSz α p ≤ 3000 := by
  by_cases h0 : p < 0
  · unfold f_Terms_size nSz
    rw [if_pos h0, if_pos h0]
    exact ⟨rfl, by omega⟩
  · obtain ⟨j, hj, rfl⟩ := p_in hO h h0
    obtain ⟨e, h1, -⟩ := hO.n
    obtain ⟨k, sz, dp, -, -, h3, h4, -⟩ := hW j hj
    have e9 : nSz α (nI j) = sz := by unfold nSz; rw [if_neg h0, nI_clamp (by omega), h3, nI_clamp (by omega)]
    rw [sz_in hO hj, h3, e9]
    exact ⟨rfl, h4⟩
theorem depth_v {α : kS} (hO : kOk α) (hW : tWf α) {p : Int32} (h : p < α.1 6) : f_Terms_depth p α = nI (nDp α p) ∧ nDp α p ≤ 200 := by
  by_cases h0 : p < 0
  · unfold f_Terms_depth nDp
    rw [if_pos h0, if_pos h0]
    exact ⟨rfl, by omega⟩
  · obtain ⟨j, hj, rfl⟩ := p_in hO h h0
    obtain ⟨e, h1, -⟩ := hO.n
    obtain ⟨k, sz, dp, -, -, -, -, h3, h4, -⟩ := hW j hj
    have e9 : nDp α (nI j) = dp := by unfold nDp; rw [if_neg h0, nI_clamp (by omega), h3, nI_clamp (by omega)]
    rw [dp_in hO hj, h3, e9]
    exact ⟨rfl, h4⟩
theorem nI_max (a b : Nat) (ha : a < 2 ^ 31) (hb : b < 2 ^ 31) : (if nI a < nI b then nI b else nI a) = nI (max a b) := by
  by_cases h : a < b
  · rw [if_pos (nI_lt h hb), Nat.max_eq_right (by omega)]
  · rw [if_neg (nI_nlt (by omega) ha), Nat.max_eq_left (by omega)]
/-- what make goes on to, by its kind -/
theorem mkE_is {N : Nat} {α : kS} (hO : kOk α) (hW : tWf α) {k : Nat} (hk : k ≤ 9) {l r : Int32} (hp : 5 ≤ k → l < α.1 6 ∧ r < α.1 6) :
    ∃ (y8 y7 : Int32) (sz dp : Nat), mkE N (nI k) l r α = f_Terms_make_j215 N y8 y7 (nI dp) (nI sz) (nI k) l r α ∧ sz ≤ 6001 ∧ dp ≤ 201 ∧ (k ≠ 9 → 1 ≤ sz ∧ 1 ≤ dp) ∧ (5 ≤ k → tSd α k sz dp l r) := by
  have hlt : ∀ m : Nat, m ≤ 9 → (nI k = nI m ↔ k = m) := fun m hm => nI_eq (by omega) (by omega)
  by_cases h5 : k < 5
  · have c5 : nI k < 5 := nI_lt (b := 5) h5 (by decide)
    by_cases h0 : nI k = 0
    · have h1 : ¬ nI k = 1 := fun e => by rw [h0] at e; exact absurd e (by decide)
      refine ⟨0, l + 1, 1, 1, ?_, by omega, by omega, fun _ => ⟨by omega, by omega⟩, fun h => by omega⟩
      unfold mkE f_Terms_make_j89 f_Terms_make_j103
      rw [if_pos h0, if_neg h1, if_pos c5]
      rfl
    · by_cases h1 : nI k = 1
      · refine ⟨l + 1, 0, 1, 1, ?_, by omega, by omega, fun _ => ⟨by omega, by omega⟩, fun h => by omega⟩
        unfold mkE f_Terms_make_j89 f_Terms_make_j103
        rw [if_neg h0, if_pos h1, if_pos c5]
        rfl
      · refine ⟨0, 0, 1, 1, ?_, by omega, by omega, fun _ => ⟨by omega, by omega⟩, fun h => by omega⟩
        unfold mkE f_Terms_make_j89 f_Terms_make_j103
        rw [if_neg h0, if_neg h1, if_pos c5]
        rfl
  · obtain ⟨hl, hr⟩ := hp (by omega)
    obtain ⟨s1, s2⟩ := size_v hO hW hl
    obtain ⟨s3, s4⟩ := size_v hO hW hr
    obtain ⟨d1, d2⟩ := depth_v hO hW hl
    obtain ⟨d3, d4⟩ := depth_v hO hW hr
    have c5 : ¬ nI k < 5 := nI_nlt (b := 5) (by omega) (by omega)
    have h0 : ¬ nI k = 0 := fun e => by have := (hlt 0 (by omega)).mp e; omega
    have h1 : ¬ nI k = 1 := fun e => by have := (hlt 1 (by omega)).mp e; omega
    have a1 : ∀ m : Nat, nI m + 1 = nI (m + 1) := nI_1
    have a0 : ∀ m : Nat, nI m + 0 = nI m := fun m => Int32.add_zero _
    by_cases h9 : k = 9
    · have c9 : nI k = 9 := (hlt 9 (by omega)).mpr h9
      have n5 : ¬ nI k = 5 := fun e => by have := (hlt 5 (by omega)).mp e; omega
      refine ⟨(if f_Terms_free l α < f_Terms_free r α then f_Terms_free r α else f_Terms_free l α), (if f_Terms_loose l α < f_Terms_loose r α - f_Terms_binds (nI k) α then f_Terms_loose r α - f_Terms_binds (nI k) α else f_Terms_loose l α), nSz α l + nSz α r, max (nDp α l) (nDp α r), ?_, by omega, by omega, fun h => absurd h9 h, fun _ => ⟨?_, ?_, ?_⟩⟩
      · unfold mkE f_Terms_make_j89 f_Terms_make_j103
        rw [if_neg h0, if_neg h1, if_neg c5, if_pos c9]
        unfold f_Terms_make_j121
        rw [if_neg n5]
        unfold f_Terms_make_j178
        rw [s1, s3, d1, d3, nI_max _ _ (by omega) (by omega), nI_add, a0, a0]
      · rw [if_pos h9]; omega
      · rw [if_pos (Or.inr h9)]; omega
      · rw [if_pos h9]; omega
    · have c9 : ¬ nI k = 9 := fun e => h9 ((hlt 9 (by omega)).mp e)
      by_cases h5' : k = 5
      · have p5 : nI k = 5 := (hlt 5 (by omega)).mpr h5'
        refine ⟨(if f_Terms_free l α < f_Terms_free r α then f_Terms_free r α else f_Terms_free l α), (if f_Terms_loose l α < f_Terms_loose r α - f_Terms_binds (nI k) α then f_Terms_loose r α - f_Terms_binds (nI k) α else f_Terms_loose l α), nSz α l + nSz α r + 1, max (nDp α l) (nDp α r + 1), ?_, by omega, by omega, fun _ => ⟨by omega, by omega⟩, fun _ => ⟨?_, ?_, ?_⟩⟩
        · unfold mkE f_Terms_make_j89 f_Terms_make_j103
          rw [if_neg h0, if_neg h1, if_neg c5, if_neg c9]
          unfold f_Terms_make_j121
          rw [if_pos p5]
          unfold f_Terms_make_j178
          rw [s1, s3, d1, d3, a1, nI_max _ _ (by omega) (by omega), nI_add, a1]
        · rw [if_neg h9]
        · rw [if_pos (Or.inl h5')]; omega
        · rw [if_neg h9]; omega
      · have n5 : ¬ nI k = 5 := fun e => h5' ((hlt 5 (by omega)).mp e)
        refine ⟨(if f_Terms_free l α < f_Terms_free r α then f_Terms_free r α else f_Terms_free l α), (if f_Terms_loose l α < f_Terms_loose r α - f_Terms_binds (nI k) α then f_Terms_loose r α - f_Terms_binds (nI k) α else f_Terms_loose l α), nSz α l + nSz α r + 1, max (nDp α l) (nDp α r) + 1, ?_, by omega, by omega, fun _ => ⟨by omega, by omega⟩, fun _ => ⟨?_, ?_, ?_⟩⟩
        · unfold mkE f_Terms_make_j89 f_Terms_make_j103
          rw [if_neg h0, if_neg h1, if_neg c5, if_neg c9]
          unfold f_Terms_make_j121
          rw [if_neg n5]
          unfold f_Terms_make_j178
          rw [s1, s3, d1, d3, nI_max _ _ (by omega) (by omega), nI_add, a1, a1]
        · rw [if_neg h9]
        · rw [if_neg (fun h => h.elim h5' h9)]; omega
        · rw [if_neg h9]; omega
theorem nSz_ex {α β : kS} (hO : kOk α) (h : tEx α β) {p : Int32} (hp : p < α.1 6) : nSz β p = nSz α p ∧ nDp β p = nDp α p ∧ (¬ p < 0 → tKd β p.toNatClampNeg = tKd α p.toNatClampNeg) := by
  by_cases h0 : p < 0
  · unfold nSz nDp
    rw [if_pos h0, if_pos h0, if_pos h0, if_pos h0]
    exact ⟨rfl, rfl, fun h => absurd h0 h⟩
  · obtain ⟨j, hj, rfl⟩ := p_in hO hp h0
    obtain ⟨e, h1, -⟩ := hO.n
    have ec : (nI j).toNatClampNeg = j := nI_clamp (by omega)
    have ei := (h.2.2.2.2 j hj).1
    unfold nSz nDp tSz tDp tKd
    rw [ec, ei]
    exact ⟨rfl, rfl, fun _ => rfl⟩
theorem tWf_nw {α β : kS} (hO : kOk α) (hW : tWf α) {k sz dp : Nat} {l r : Int32} (hk : k ≤ 9) (h : tNw α β k sz dp l r) (h1 : k ≠ 9 → 1 ≤ sz ∧ 1 ≤ dp) (h2 : 5 ≤ k → tPr α k (tn α) l r ∧ tSd α k sz dp l r) : tWf β := by
  obtain ⟨a1, a2, a3, a4, a5, a6, a7, a8, a9, a10⟩ := h
  obtain ⟨e6, hn, -⟩ := hO.n
  have up : ∀ i p, i ≤ tn α → p < nI i → p < α.1 6 := fun i p hi hp => by
    rw [e6]
    rw [Int32.lt_iff_toInt_lt, nI_toInt (by omega)] at hp
    rw [Int32.lt_iff_toInt_lt, nI_toInt (by omega)]
    omega
  have mv : ∀ i k sz dp l r, i ≤ tn α → tPr α k i l r → tSd α k sz dp l r → tPr β k i l r ∧ tSd β k sz dp l r := fun i k sz dp l r hi hp hs => by
    obtain ⟨q1, q2, q3⟩ := nSz_ex hO a2 (up i l hi hp.1)
    obtain ⟨p1, p2, p3⟩ := nSz_ex hO a2 (up i r hi hp.2.1)
    refine ⟨⟨hp.1, hp.2.1, fun z => by rw [q3 z]; exact hp.2.2.1 z, fun z y => hp.2.2.2 z (by rw [← p3 z]; exact y)⟩, ?_⟩
    unfold tSd
    rw [q1, q2, p1, p2]
    exact hs
  intro i hi
  rw [a3] at hi
  rcases Nat.lt_or_ge i (tn α) with z | z
  · obtain ⟨k', sz', dp', b1, b2, b3, b4, b5, b6, b7, b8⟩ := hW i z
    obtain ⟨c1, c2, c3⟩ := a2.2.2.2.2 i z
    refine ⟨k', sz', dp', ?_, b2, ?_, b4, ?_, b6, b7, fun h5 => ?_⟩
    · unfold tKd; rw [c1]; exact b1
    · unfold tSz; rw [c1]; exact b3
    · unfold tDp; rw [c1]; exact b5
    · rw [c2, c3]
      obtain ⟨d1, d2⟩ := b8 h5
      exact mv i k' sz' dp' _ _ (by omega) d1 d2
  · have : i = tn α := by omega
    subst this
    refine ⟨k, sz, dp, a6, hk, a7, a4, a8, a5, h1, fun h5 => ?_⟩
    rw [a9, a10]
    obtain ⟨d1, d2⟩ := h2 h5
    exact mv (tn α) k sz dp l r (Nat.le_refl _) d1 d2
/-- make gives a TERM of just these parts, or fails; all else is as it was -/
theorem make_ok {N : Nat} {α : kS} (hN : 524288 < N) (h : tOk α) (hW : tWf α) {k : Nat} (hk : k ≤ 9) {l r : Int32} (hp : 5 ≤ k → tPr α k (tn α) l r) :
    tI (f_Terms_make N (nI k) l r α) (fun v β => tOk β ∧ tWf β ∧ tEx α β ∧ ∃ j, v = nI j ∧ j < tn β ∧ tKd β j = nI k ∧ tLf β j = l ∧ tRt β j = r) (tFl α) := by
  obtain ⟨e6, hn, -⟩ := h.1.n
  rcases make_goes h hN (nI k) l r with e | ⟨j, hj, e, q1, q2, q3⟩
  · rw [e]
    obtain ⟨y8, y7, sz, dp, e2, b1, b2, b3, b4⟩ := mkE_is (N := N) h.1 hW hk (l := l) (r := r) (fun h5 => by rw [e6]; exact ⟨(hp h5).1, (hp h5).2.1⟩)
    rw [e2]
    refine (j215_ok hN h y8 y7 hk (by omega) (by omega) l r).mono (fun v β hq => ?_) (fun _ h => h)
    obtain ⟨rfl, hq⟩ := hq
    exact ⟨hq.1, tWf_nw h.1 hW hk hq b3 (fun h5 => ⟨hp h5, b4 h5⟩), hq.2.1, tn α, rfl, by rw [hq.2.2.1]; omega, hq.2.2.2.2.2.1, hq.2.2.2.2.2.2.2.2.1, hq.2.2.2.2.2.2.2.2.2⟩
  · rw [e]
    exact tI.ret ⟨h, hW, tEx.rf, j, rfl, hj, q1, q2, q3⟩
