-- the spine of a TERM
def spn (α : kS) : Nat → Int32 → Int32
  | 0, p => p
  | k + 1, p => spn α k (f_Terms_left p α)
/-- at least k TERMS stand behind the head -/
def aP (α : kS) : Nat → Int32 → Prop
  | 0, _ => True
  | k + 1, p => f_Terms_kind p α = 5 ∧ aP α k (f_Terms_left p α)
theorem kind_neg {α : kS} {p : Int32} (h : p < 0) : f_Terms_kind p α = 0 := if_pos h
/-- parts of an APP are TERMS -/
theorem app_parts {α : kS} (hO : kOk α) (hW : tWf α) {p : Int32} (h : wT α p) (hk : f_Terms_kind p α = 5) : wT α (f_Terms_left p α) ∧ wT α (f_Terms_right p α) := by
  have h0 : ¬ p < 0 := fun q => by rw [kind_neg q] at hk; exact absurd hk (by decide)
  obtain ⟨j, hj, rfl⟩ := p_in hO h.1 h0
  obtain ⟨e6, h1, -⟩ := hO.n
  rw [kd_in hO hj] at hk
  obtain ⟨k, sz, dp, a1, a2, -, -, -, -, -, a8⟩ := hW j hj
  have k5 : k = 5 := by
    rw [hk] at a1
    exact ((nI_eq (a := 5) (b := k) (by omega) (by omega)).mp a1).symm
  obtain ⟨⟨b1, b2, b3, b4⟩, -⟩ := a8 (by omega)
  have up : ∀ q, q < nI j → q < α.1 6 := fun q hq => by
    rw [e6]
    rw [Int32.lt_iff_toInt_lt, nI_toInt (by omega)] at hq
    rw [Int32.lt_iff_toInt_lt, nI_toInt (by omega)]
    omega
  rw [lf_in hO hj, rt_in hO hj]
  exact ⟨⟨up _ b1, b3⟩, up _ b2, fun z y => by have := b4 z y; omega⟩
theorem spn_ok {α : kS} (hO : kOk α) (hW : tWf α) : ∀ (k : Nat) {p : Int32}, wT α p → aP α k p → wT α (spn α k p)
  | 0, _, h, _ => h
  | k + 1, _, h, hp => spn_ok hO hW k (app_parts hO hW h hp.1).1 hp.2
theorem aP_kind {α : kS} : ∀ (k : Nat) {p : Int32}, aP α (k + 1) p → f_Terms_kind (spn α k p) α = 5 ∧ aP α k p
  | 0, _, h => ⟨h.1, trivial⟩
  | k + 1, _, h => by
    obtain ⟨a, b⟩ := aP_kind k h.2
    exact ⟨a, h.1, b⟩
theorem aP_le {α : kS} : ∀ (k j : Nat) {p : Int32}, aP α k p → j ≤ k → aP α j p
  | _, 0, _, _, _ => trivial
  | 0, j + 1, _, _, h => absurd h (by omega)
  | k + 1, j + 1, _, h, hj => ⟨h.1, aP_le k j h.2 (by omega)⟩
theorem from_is {N : Nat} {α : kS} : ∀ (d i k n : Nat) (p : Int32), i + d = k → k < 2 ^ 31 → d < n → f_Terms_fromLast_5 N α n (nI i) p (nI k) = some (f_Terms_right (spn α d p) α)
  | 0, i, k, n, p, h, hk, hn => by
    obtain ⟨n, rfl⟩ : ∃ n', n = n' + 1 := ⟨n - 1, by omega⟩
    rw [f_Terms_fromLast_5, if_pos (nI_le (by omega) (by omega))]
    rfl
  | d + 1, i, k, n, p, h, hk, hn => by
    obtain ⟨n, rfl⟩ : ∃ n', n = n' + 1 := ⟨n - 1, by omega⟩
    rw [f_Terms_fromLast_5, if_neg (nI_ge (by omega) hk), nI_1]
    exact from_is d (i + 1) k n _ (by omega) hk (by omega)
/-- the TERM with so many others behind it -/
theorem fromLast_ok {N k : Nat} {α : kS} (hN : k < N) (hk : k < 2 ^ 31) (p : Int32) : f_Terms_fromLast N p (nI k) α = some (f_Terms_right (spn α k p) α) := from_is k 0 k N p (by omega) hk hN
theorem fromLast_wT {α : kS} (hO : kOk α) (hW : tWf α) {k : Nat} {p : Int32} (h : wT α p) (hp : aP α (k + 1) p) : wT α (f_Terms_right (spn α k p) α) := by
  obtain ⟨a, b⟩ := aP_kind k hp
  exact (app_parts hO hW (spn_ok hO hW k h b) a).2
theorem l3_lt {i : Nat} (h : i < 3000) : ¬ (3000 : Int32) ≤ nI i := nI_ge (a := i) (b := 3000) h (by decide)
theorem l3_ge {i : Nat} (h : i = 3000) : (3000 : Int32) ≤ nI i := by subst h; decide
theorem behind_go {N : Nat} {α : kS} : ∀ (d i n : Nat) (p : Int32), i + d = 3000 → d < n → ∃ b, f_Terms_behind_4 N α n p (nI i) = some (nI (i + b)) ∧ i + b ≤ 3000 ∧ aP α b p ∧ (i + b < 3000 → f_Terms_kind (spn α b p) α ≠ 5)
  | 0, i, n, p, h, hn => by
    obtain ⟨n, rfl⟩ : ∃ n', n = n' + 1 := ⟨n - 1, by omega⟩
    refine ⟨0, ?_, by omega, trivial, fun h => by omega⟩
    rw [f_Terms_behind_4, if_pos (l3_ge (by omega))]
    rfl
  | d + 1, i, n, p, h, hn => by
    obtain ⟨n, rfl⟩ : ∃ n', n = n' + 1 := ⟨n - 1, by omega⟩
    by_cases hk : f_Terms_kind p α = 5
    · obtain ⟨b, e, h1, h2, h3⟩ := behind_go (N := N) d (i + 1) n (f_Terms_left p α) (by omega) (by omega)
      refine ⟨b + 1, ?_, by omega, ⟨hk, h2⟩, fun q => h3 (by omega)⟩
      rw [f_Terms_behind_4, if_neg (l3_lt (by omega)), if_pos hk, nI_1, e]
      congr 2
      omega
    · refine ⟨0, ?_, by omega, trivial, fun _ => hk⟩
      rw [f_Terms_behind_4, if_neg (l3_lt (by omega)), if_neg hk]
      rfl
theorem behind_ok {N : Nat} {α : kS} (hN : 3000 < N) (p : Int32) : ∃ b, f_Terms_behind N p α = some (nI b) ∧ b ≤ 3000 ∧ aP α b p := by
  obtain ⟨b, e, h1, h2, -⟩ := behind_go (N := N) (α := α) 3000 0 N p (by omega) hN
  rw [Nat.zero_add] at e h1
  exact ⟨b, e, h1, h2⟩
theorem head_go {N : Nat} {α : kS} : ∀ (d i n : Nat) (p : Int32), i + d = 3000 → d < n → ∃ b, f_Terms_head_4 N α n (nI i) p = some (spn α b p) ∧ aP α b p
  | 0, i, n, p, h, hn => by
    obtain ⟨n, rfl⟩ : ∃ n', n = n' + 1 := ⟨n - 1, by omega⟩
    refine ⟨0, ?_, trivial⟩
    rw [f_Terms_head_4, if_pos (l3_ge (by omega))]
    rfl
  | d + 1, i, n, p, h, hn => by
    obtain ⟨n, rfl⟩ : ∃ n', n = n' + 1 := ⟨n - 1, by omega⟩
    by_cases hk : f_Terms_kind p α = 5
    · obtain ⟨b, e, h2⟩ := head_go (N := N) d (i + 1) n (f_Terms_left p α) (by omega) (by omega)
      refine ⟨b + 1, ?_, hk, h2⟩
      rw [f_Terms_head_4, if_neg (l3_lt (by omega)), if_pos hk, nI_1, e]
      rfl
    · refine ⟨0, ?_, trivial⟩
      rw [f_Terms_head_4, if_neg (l3_lt (by omega)), if_neg hk]
      rfl
theorem head_ok {N : Nat} {α : kS} (hN : 3000 < N) (hO : kOk α) (hW : tWf α) {p : Int32} (h : wT α p) : ∃ q, f_Terms_head N p α = some q ∧ wT α q := by
  obtain ⟨b, e, h2⟩ := head_go (N := N) (α := α) 3000 0 N p (by omega) hN
  exact ⟨_, e, spn_ok hO hW b h h2⟩
