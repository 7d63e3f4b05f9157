-- TERMS: what make, grow, release keep
def tn (α : kS) : Nat := (α.1 6).toNatClampNeg
def tKd (α : kS) (i : Nat) : Int32 := (α.2.2.2.1 i).toInt32 &&& 15
def tLf (α : kS) (i : Nat) : Int32 := α.2.2.2.2 0 i
def tRt (α : kS) (i : Nat) : Int32 := α.2.2.2.2 1 i
def tSz (α : kS) (i : Nat) : Int32 := (((α.2.2.2.1 i).toUInt64 >>> ((4 : Int32).toInt64.toUInt64 &&& Int64.toUInt64 63)).toInt64).toInt32 &&& 8191
def tDp (α : kS) (i : Nat) : Int32 := (((α.2.2.2.1 i).toUInt64 >>> ((17 : Int32).toInt64.toUInt64 &&& Int64.toUInt64 63)).toInt64).toInt32 &&& 511
/-- the slot of a TERM in a table of so many slots -/
def tSo (cap : Nat) (k l r : Int32) : Int32 := ((((k * 668265263) + (l * (-1640531535))) + (r * (-2048144789))) ^^^ ((((((k * 668265263) + (l * (-1640531535))) + (r * (-2048144789)))).toUInt32 >>> ((15 : Int32).toUInt32 &&& Int32.toUInt32 31)).toInt32)) &&& ((nI cap) - 1)
theorem slot_is (k l r : Int32) (α : kS) : f_Terms_slot k l r α = tSo (α.2.2.1 25) k l r := rfl
theorem tSo_in {cap k : Nat} (h : cap = 2 ^ k) (hk : k ≤ 30) (a b c : Int32) : ∃ j, j < cap ∧ tSo cap a b c = nI j := by
  have h1 : 2 ^ k ≤ 2 ^ 30 := Nat.pow_le_pow_right (by decide) hk
  have h2 : 0 < 2 ^ k := Nat.two_pow_pos k
  have e : (nI cap - 1 : Int32) = nI (2 ^ k - 1) := by
    rw [h]
    exact pk_sub (a := 2 ^ k) (b := 1) h2
  have hm : (nI cap - 1 : Int32).toBitVec.toNat = 2 ^ k - 1 := by
    rw [e]
    exact pk_tn (by omega)
  obtain ⟨j, hj, e2⟩ := pk_andE ((((a * 668265263) + (b * (-1640531535))) + (c * (-2048144789))) ^^^ ((((((a * 668265263) + (b * (-1640531535))) + (c * (-2048144789)))).toUInt32 >>> ((15 : Int32).toUInt32 &&& Int32.toUInt32 31)).toInt32)) k hm
  exact ⟨j, by rw [h]; exact hj, e2⟩
theorem kOk.pw {α : kS} (h : kOk α) : ∃ k, k ≤ 30 ∧ α.2.2.1 25 = 2 ^ k := by
  obtain ⟨k, hk, e⟩ := h.2.1 25 (by decide)
  have h1 : kK 25 = 11 := by decide
  have h2 : kBase 25 = 2 ^ 8 := by decide
  exact ⟨8 + k, by omega, by rw [e, h2, ← Nat.pow_add]⟩
theorem kOk.n {α : kS} (h : kOk α) : α.1 6 = nI (tn α) ∧ tn α ≤ 524288 ∧ ∀ r, 21 ≤ r → r < 26 → tn α ≤ α.2.2.1 r := by
  obtain ⟨j, hj, e⟩ := nI_of h.2.2.1
  have e2 : tn α = j := by unfold tn; rw [e, nI_clamp hj]
  refine ⟨by rw [e2]; exact e, ?_, h.2.2.2⟩
  have h1 := h.2.2.2 21 (by decide) (by decide)
  have h2 := h.mx (r := 21) (by decide)
  have h3 : kMx 21 = 524288 := by decide
  have h4 : tn α = (α.1 6).toNatClampNeg := rfl
  omega
section TGET
variable {α : kS} {i : Nat}
theorem kd_in (h : kOk α) (hi : i < tn α) : f_Terms_kind (nI i) α = tKd α i := by
  obtain ⟨e, h1, -⟩ := h.n
  unfold f_Terms_kind
  rw [if_neg (nI_pos (by omega)), e, if_neg (nI_ge hi (by omega)), nI_clamp (by omega)]
  rfl
theorem lf_in (h : kOk α) (hi : i < tn α) : f_Terms_left (nI i) α = tLf α i := by
  obtain ⟨e, h1, -⟩ := h.n
  unfold f_Terms_left
  rw [if_neg (nI_pos (by omega)), e, if_neg (nI_ge hi (by omega)), nI_clamp (by omega)]
  rfl
theorem rt_in (h : kOk α) (hi : i < tn α) : f_Terms_right (nI i) α = tRt α i := by
  obtain ⟨e, h1, -⟩ := h.n
  unfold f_Terms_right
  rw [if_neg (nI_pos (by omega)), e, if_neg (nI_ge hi (by omega)), nI_clamp (by omega)]
  rfl
theorem sz_in (h : kOk α) (hi : i < tn α) : f_Terms_size (nI i) α = tSz α i := by
  obtain ⟨e, h1, -⟩ := h.n
  unfold f_Terms_size
  rw [if_neg (nI_pos (by omega)), e, if_neg (nI_ge hi (by omega)), nI_clamp (by omega)]
  rfl
theorem dp_in (h : kOk α) (hi : i < tn α) : f_Terms_depth (nI i) α = tDp α i := by
  obtain ⟨e, h1, -⟩ := h.n
  unfold f_Terms_depth
  rw [if_neg (nI_pos (by omega)), e, if_neg (nI_ge hi (by omega)), nI_clamp (by omega)]
  rfl
end TGET
/-- the newest before n of those in the slot s, and 1 (0: none) -/
def tLast (f : Nat → Nat) (s : Nat) : Nat → Nat
  | 0 => 0
  | n + 1 => if f n = s then n + 1 else tLast f s n
theorem tLast_le (f : Nat → Nat) (s : Nat) : ∀ n, tLast f s n ≤ n
  | 0 => Nat.le_refl _
  | n + 1 => by
    unfold tLast
    split
    · exact Nat.le_refl _
    · have := tLast_le f s n
      omega
theorem tLast_slot (f : Nat → Nat) (s : Nat) : ∀ n, 0 < tLast f s n → f (tLast f s n - 1) = s
  | 0, h => absurd h (Nat.lt_irrefl 0)
  | n + 1, h => by
    unfold tLast at h ⊢
    split
    · rename_i h1; exact h1
    · rename_i h1; rw [if_neg h1] at h; exact tLast_slot f s n h
theorem tLast_congr {f g : Nat → Nat} {s : Nat} : ∀ n, (∀ i, i < n → f i = g i) → tLast f s n = tLast g s n
  | 0, _ => rfl
  | n + 1, h => by
    unfold tLast
    rw [h n (by omega), tLast_congr n (fun i hi => h i (by omega))]
/-- the slot of the i-th TERM -/
def tSl (α : kS) (cap i : Nat) : Nat := (tSo cap (tKd α i) (tLf α i) (tRt α i)).toNatClampNeg
/-- the table: heads, links -/
def tHs (α : kS) : Prop := (∀ s, s < α.2.2.1 25 → α.2.2.2.2 3 s = nI (tLast (tSl α (α.2.2.1 25)) s (tn α))) ∧ ∀ i, i < tn α → α.2.2.2.2 2 i = nI (tLast (tSl α (α.2.2.1 25)) (tSl α (α.2.2.1 25) i) i)
/-- how a TERM is made of its parts -/
def tNd (α : kS) (i : Nat) : Prop := tKd α i ≤ 9 ∧ ∃ sz dp : Nat, tSz α i = nI sz ∧ tDp α i = nI dp ∧ 1 ≤ sz ∧ sz ≤ 3000 ∧ 1 ≤ dp ∧ dp ≤ 200
/-- TERMS are in order -/
def tOk (α : kS) : Prop := kOk α ∧ (α.2.2.1 22 = α.2.2.1 21 ∧ α.2.2.1 23 = α.2.2.1 21 ∧ α.2.2.1 24 = α.2.2.1 21 ∧ α.2.2.1 25 = α.2.2.1 21) ∧ tHs α
/-- the rest is as it was, TERMS have only grown -/
def tEx (α β : kS) : Prop := (∀ k, k ≠ 6 → β.1 k = α.1 k) ∧ β.2.1 = α.2.1 ∧ (∀ r, r < 21 → β.2.2.1 r = α.2.2.1 r) ∧ tn α ≤ tn β ∧ ∀ i, i < tn α → β.2.2.2.1 i = α.2.2.2.1 i ∧ tLf β i = tLf α i ∧ tRt β i = tRt α i
theorem tEx.rf {α : kS} : tEx α α := ⟨fun _ _ => rfl, rfl, fun _ _ => rfl, Nat.le_refl _, fun _ _ => ⟨rfl, rfl, rfl⟩⟩
theorem tEx.tr {α β γ : kS} (h1 : tEx α β) (h2 : tEx β γ) : tEx α γ :=
  ⟨fun k hk => (h2.1 k hk).trans (h1.1 k hk), h2.2.1.trans h1.2.1, fun r hr => (h2.2.2.1 r hr).trans (h1.2.2.1 r hr), Nat.le_trans h1.2.2.2.1 h2.2.2.2.1, fun i hi => by
    obtain ⟨a1, a2, a3⟩ := h1.2.2.2.2 i hi
    obtain ⟨b1, b2, b3⟩ := h2.2.2.2.2 i (Nat.lt_of_lt_of_le hi h1.2.2.2.1)
    exact ⟨b1.trans a1, b2.trans a2, b3.trans a3⟩⟩
