-- the spine of a TERM
def spn (α : kS) : Nat → Int32 → Int32
  | 0, p => p
  | k + 1, p => spn α k (f_Terms_left p α)
/-- at least k TERMS stand behind the head -/
def aP (α : kS) : Nat → Int32 → Prop
  | 0, _ => True
  | k + 1, p => f_Terms_kind p α = 5 ∧ aP α k (f_Terms_left p α)
theorem kind_neg {α : kS} {p : Int32} (h : p < 0) : f_Terms_kind p α = 0 := if_pos h
/-- a whole TERM (a PAIR is none) -/
def qT (α : kS) (j : Nat) : Prop := j < tn α ∧ nK α j ≠ 9
def qP (α : kS) (p : Int32) : Prop := ∃ j, p = nI j ∧ qT α j
theorem parts {α : kS} (hW : tWf α) {j : Nat} (hj : j < tn α) (h5 : 5 ≤ nK α j) : ∃ l r, tLf α j = nI l ∧ tRt α j = nI r ∧ l < j ∧ r < j ∧ nK α l ≠ 9 ∧ (nK α r = 9 ↔ nK α j = 8) ∧ nS α j = nS α l + nS α r + (if nK α j = 9 then 0 else 1) ∧ nD α j = (if nK α j = 5 then max (nD α l) (nD α r + 1) else if nK α j = 9 then max (nD α l) (nD α r) else max (nD α l) (nD α r) + 1) := by
  obtain ⟨-, -, -, -, h, -⟩ := hW j hj
  obtain ⟨l, r, a, b, c, d⟩ := h h5
  exact ⟨l, r, a, b, c.1, c.2.1, c.2.2.1, c.2.2.2, d.1, d.2⟩
theorem kd_is {α : kS} (hO : kOk α) {j : Nat} (hj : j < tn α) {k : Nat} (hk : k < 2 ^ 31) (h : f_Terms_kind (nI j) α = nI k) : nK α j = k := by
  rw [kd_at hO hj] at h
  have h1 : nK α j < 2 ^ 31 := by unfold nK; exact Int32.toNatClampNeg_lt _
  exact (nI_eq h1 hk).mp h
/-- parts of an APP are TERMS -/
theorem app_parts {α : kS} (hO : kOk α) (hW : tWf α) {p : Int32} (h : qP α p) (hk : f_Terms_kind p α = 5) : qP α (f_Terms_left p α) ∧ qP α (f_Terms_right p α) := by
  obtain ⟨j, rfl, hj, -⟩ := h
  have k5 : nK α j = 5 := kd_is hO hj (k := 5) (by decide) hk
  obtain ⟨l, r, e1, e2, hl, hr, h9, h8, -⟩ := parts hW hj (by omega)
  rw [lf_in hO hj, rt_in hO hj, e1, e2]
  exact ⟨⟨l, rfl, by omega, h9⟩, r, rfl, by omega, fun z => by have := h8.mp z; omega⟩
theorem spn_ok {α : kS} (hO : kOk α) (hW : tWf α) : ∀ (k : Nat) {p : Int32}, qP α p → aP α k p → qP α (spn α k p)
  | 0, _, h, _ => h
  | k + 1, _, h, hp => spn_ok hO hW k (app_parts hO hW h hp.1).1 hp.2
theorem aP_kind {α : kS} : ∀ (k : Nat) {p : Int32}, aP α (k + 1) p → f_Terms_kind (spn α k p) α = 5 ∧ aP α k p
  | 0, _, h => ⟨h.1, trivial⟩
  | k + 1, _, h => by
    obtain ⟨a, b⟩ := aP_kind k h.2
    exact ⟨a, h.1, b⟩
theorem aP_le {α : kS} : ∀ (k j : Nat) {p : Int32}, aP α k p → j ≤ k → aP α j p
  | _, 0, _, _, _ => trivial
  | 0, j + 1, _, _, h => absurd h (by omega)
  | k + 1, j + 1, _, h, hj => ⟨h.1, aP_le k j h.2 (by omega)⟩
theorem from_is {N : Nat} {α : kS} : ∀ (d i k n : Nat) (p : Int32), i + d = k → k < 2 ^ 31 → d < n → f_Terms_fromLast_5 N α n (nI i) p (nI k) = some (f_Terms_right (spn α d p) α)
  | 0, i, k, n, p, h, hk, hn => by
    obtain ⟨n, rfl⟩ : ∃ n', n = n' + 1 := ⟨n - 1, by omega⟩
    rw [f_Terms_fromLast_5, if_pos (nI_le (by omega) (by omega))]
    rfl
  | d + 1, i, k, n, p, h, hk, hn => by
    obtain ⟨n, rfl⟩ : ∃ n', n = n' + 1 := ⟨n - 1, by omega⟩
    rw [f_Terms_fromLast_5, if_neg (nI_ge (by omega) hk), nI_1]
    exact from_is d (i + 1) k n _ (by omega) hk (by omega)
/-- the TERM with so many others behind it -/
theorem fromLast_ok {N k : Nat} {α : kS} (hN : k < N) (hk : k < 2 ^ 31) (p : Int32) : f_Terms_fromLast N p (nI k) α = some (f_Terms_right (spn α k p) α) := from_is k 0 k N p (by omega) hk hN
theorem fromLast_vP {α : kS} (hO : kOk α) (hW : tWf α) {k : Nat} {p : Int32} (h : qP α p) (hp : aP α (k + 1) p) : qP α (f_Terms_right (spn α k p) α) := by
  obtain ⟨a, b⟩ := aP_kind k hp
  exact (app_parts hO hW (spn_ok hO hW k h b) a).2
theorem l3_lt {i : Nat} (h : i < 3000) : ¬ (3000 : Int32) ≤ nI i := nI_ge (a := i) (b := 3000) h (by decide)
theorem l3_ge {i : Nat} (h : i = 3000) : (3000 : Int32) ≤ nI i := by subst h; decide
theorem behind_go {N : Nat} {α : kS} : ∀ (d i n : Nat) (p : Int32), i + d = 3000 → d < n → ∃ b, f_Terms_behind_4 N α n p (nI i) = some (nI (i + b)) ∧ i + b ≤ 3000 ∧ aP α b p ∧ (i + b < 3000 → f_Terms_kind (spn α b p) α ≠ 5)
  | 0, i, n, p, h, hn => by
    obtain ⟨n, rfl⟩ : ∃ n', n = n' + 1 := ⟨n - 1, by omega⟩
    refine ⟨0, ?_, by omega, trivial, fun h => by omega⟩
    rw [f_Terms_behind_4, if_pos (l3_ge (by omega))]
    rfl
  | d + 1, i, n, p, h, hn => by
    obtain ⟨n, rfl⟩ : ∃ n', n = n' + 1 := ⟨n - 1, by omega⟩
    by_cases hk : f_Terms_kind p α = 5
    · obtain ⟨b, e, h1, h2, h3⟩ := behind_go (N := N) d (i + 1) n (f_Terms_left p α) (by omega) (by omega)
      refine ⟨b + 1, ?_, by omega, ⟨hk, h2⟩, fun q => h3 (by omega)⟩
      rw [f_Terms_behind_4, if_neg (l3_lt (by omega)), if_pos hk, nI_1, e]
      congr 2
      omega
    · refine ⟨0, ?_, by omega, trivial, fun _ => hk⟩
      rw [f_Terms_behind_4, if_neg (l3_lt (by omega)), if_neg hk]
      rfl
theorem behind_ok {N : Nat} {α : kS} (hN : 3000 < N) (p : Int32) : ∃ b, f_Terms_behind N p α = some (nI b) ∧ b ≤ 3000 ∧ aP α b p := by
  obtain ⟨b, e, h1, h2, -⟩ := behind_go (N := N) (α := α) 3000 0 N p (by omega) hN
  rw [Nat.zero_add] at e h1
  exact ⟨b, e, h1, h2⟩
theorem head_go {N : Nat} {α : kS} : ∀ (d i n : Nat) (p : Int32), i + d = 3000 → d < n → ∃ b, f_Terms_head_4 N α n (nI i) p = some (spn α b p) ∧ aP α b p ∧ (i + b < 3000 → f_Terms_kind (spn α b p) α ≠ 5)
  | 0, i, n, p, h, hn => by
    obtain ⟨n, rfl⟩ : ∃ n', n = n' + 1 := ⟨n - 1, by omega⟩
    refine ⟨0, ?_, trivial, fun h => by omega⟩
    rw [f_Terms_head_4, if_pos (l3_ge (by omega))]
    rfl
  | d + 1, i, n, p, h, hn => by
    obtain ⟨n, rfl⟩ : ∃ n', n = n' + 1 := ⟨n - 1, by omega⟩
    by_cases hk : f_Terms_kind p α = 5
    · obtain ⟨b, e, h2, h3⟩ := head_go (N := N) d (i + 1) n (f_Terms_left p α) (by omega) (by omega)
      refine ⟨b + 1, ?_, ⟨hk, h2⟩, fun q => h3 (by omega)⟩
      rw [f_Terms_head_4, if_neg (l3_lt (by omega)), if_pos hk, nI_1, e]
      rfl
    · refine ⟨0, ?_, trivial, fun _ => hk⟩
      rw [f_Terms_head_4, if_neg (l3_lt (by omega)), if_neg hk]
      rfl
theorem head_ok {N : Nat} {α : kS} (hN : 3000 < N) (hO : kOk α) (hW : tWf α) {p : Int32} (h : qP α p) : ∃ q, f_Terms_head N p α = some q ∧ qP α q := by
  obtain ⟨b, e, h2, -⟩ := head_go (N := N) (α := α) 3000 0 N p (by omega) hN
  exact ⟨_, e, spn_ok hO hW b h h2⟩
/-- how many stand behind the head is less than half the SIZE -/
theorem aP_sz {α : kS} (hO : kOk α) (hW : tWf α) : ∀ (b j : Nat), j < tn α → aP α b (nI j) → 2 * b + 1 ≤ nS α j
  | 0, j, hj, _ => by have := (hW j hj).2.1.1; omega
  | b + 1, j, hj, h => by
    have k5 : nK α j = 5 := kd_is hO hj (k := 5) (by decide) h.1
    obtain ⟨l, r, e1, e2, hl, hr, h9, h8, hs, -⟩ := parts hW hj (by omega)
    have h2 := h.2
    rw [lf_in hO hj, e1] at h2
    have h3 := aP_sz hO hW b l (by omega) h2
    have h4 := (hW r (by omega)).2.1.1
    rw [if_neg (by omega)] at hs
    omega
theorem behind_sz {N : Nat} {α : kS} (hN : 3000 < N) (hO : kOk α) (hW : tWf α) (p : Int32) : ∃ b, f_Terms_behind N p α = some (nI b) ∧ b ≤ 1499 ∧ aP α b p := by
  obtain ⟨b, e, h1, h2⟩ := behind_ok (N := N) (α := α) hN p
  refine ⟨b, e, ?_, h2⟩
  cases b with
  | zero => omega
  | succ b =>
    have h0 : ¬ p < 0 := fun q => by have := h2.1; rw [kind_neg q] at this; exact absurd this (by decide)
    obtain ⟨j, hj, rfl⟩ := nI_of h0
    have hj2 : j < tn α := by
      rcases Nat.lt_or_ge j (tn α) with z | z
      · exact z
      · have h3 := h2.1
        obtain ⟨e6, h5, -⟩ := hO.n
        unfold f_Terms_kind at h3
        rw [if_neg h0, e6, if_pos (nI_le z hj)] at h3
        exact absurd h3 (by decide)
    have h3 := aP_sz hO hW (b + 1) j hj2 h2
    have h4 := (hW j hj2).2.1.2
    omega
