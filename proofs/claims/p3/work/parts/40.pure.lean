-- functions of the kernel: that they end, by what they do (no machine any more)
/-- returns nothing, with Pv; or throws, with Px -/
def tV (f : Option (kO × kS)) (Pv Px : kS → Prop) : Prop := (∃ β, f = some (some none, β) ∧ Pv β) ∨ ∃ β, f = some (none, β) ∧ Px β
/-- returns a number, with Pi; or throws, with Px -/
def tI (f : Option (kO × kS)) (Pi : Int32 → kS → Prop) (Px : kS → Prop) : Prop := (∃ v β, f = some (some (some v), β) ∧ Pi v β) ∨ ∃ β, f = some (none, β) ∧ Px β
section TVI
variable {f : Option (kO × kS)} {Pv Px Qv Qx : kS → Prop} {Pi Qi : Int32 → kS → Prop}
theorem tV.bv {k : kS → Option (kO × kS)} (h : tV f Pv Px) (hk : ∀ β, Pv β → tV (k β) Qv Qx) (hx : ∀ β, Px β → Qx β) : tV (kBv f k) Qv Qx := by
  rcases h with ⟨β, rfl, h⟩ | ⟨β, rfl, h⟩
  · exact hk β h
  · exact Or.inr ⟨β, rfl, hx β h⟩
theorem tV.bi {k : kS → Option (kO × kS)} (h : tV f Pv Px) (hk : ∀ β, Pv β → tI (k β) Qi Qx) (hx : ∀ β, Px β → Qx β) : tI (kBv f k) Qi Qx := by
  rcases h with ⟨β, rfl, h⟩ | ⟨β, rfl, h⟩
  · exact hk β h
  · exact Or.inr ⟨β, rfl, hx β h⟩
theorem tI.bv {k : Int32 → kS → Option (kO × kS)} (h : tI f Pi Px) (hk : ∀ v β, Pi v β → tV (k v β) Qv Qx) (hx : ∀ β, Px β → Qx β) : tV (kBi f k) Qv Qx := by
  rcases h with ⟨v, β, rfl, h⟩ | ⟨β, rfl, h⟩
  · exact hk v β h
  · exact Or.inr ⟨β, rfl, hx β h⟩
theorem tI.bi {k : Int32 → kS → Option (kO × kS)} (h : tI f Pi Px) (hk : ∀ v β, Pi v β → tI (k v β) Qi Qx) (hx : ∀ β, Px β → Qx β) : tI (kBi f k) Qi Qx := by
  rcases h with ⟨v, β, rfl, h⟩ | ⟨β, rfl, h⟩
  · exact hk v β h
  · exact Or.inr ⟨β, rfl, hx β h⟩
theorem tV.ret {β : kS} (h : Pv β) : tV (some (some none, β)) Pv Px := Or.inl ⟨β, rfl, h⟩
theorem tI.ret {v : Int32} {β : kS} (h : Pi v β) : tI (some (some (some v), β)) Pi Px := Or.inl ⟨v, β, rfl, h⟩
theorem tV.thr {β : kS} (h : Px β) : tV (some (none, β)) Pv Px := Or.inr ⟨β, rfl, h⟩
theorem tI.thr {β : kS} (h : Px β) : tI (some (none, β)) Pi Px := Or.inr ⟨β, rfl, h⟩
theorem tV.ite {c : Prop} [Decidable c] {a b : Option (kO × kS)} (ha : c → tV a Pv Px) (hb : ¬ c → tV b Pv Px) : tV (if c then a else b) Pv Px := by
  by_cases h : c
  · rw [if_pos h]; exact ha h
  · rw [if_neg h]; exact hb h
theorem tI.ite {c : Prop} [Decidable c] {a b : Option (kO × kS)} (ha : c → tI a Pi Px) (hb : ¬ c → tI b Pi Px) : tI (if c then a else b) Pi Px := by
  by_cases h : c
  · rw [if_pos h]; exact ha h
  · rw [if_neg h]; exact hb h
theorem tV.mono (h : tV f Pv Px) (h1 : ∀ β, Pv β → Qv β) (h2 : ∀ β, Px β → Qx β) : tV f Qv Qx := by
  rcases h with ⟨β, e, h⟩ | ⟨β, e, h⟩
  · exact Or.inl ⟨β, e, h1 β h⟩
  · exact Or.inr ⟨β, e, h2 β h⟩
theorem tI.mono (h : tI f Pi Px) (h1 : ∀ v β, Pi v β → Qi v β) (h2 : ∀ β, Px β → Qx β) : tI f Qi Qx := by
  rcases h with ⟨v, β, e, h⟩ | ⟨β, e, h⟩
  · exact Or.inl ⟨v, β, e, h1 v β h⟩
  · exact Or.inr ⟨β, e, h2 β h⟩
end TVI
theorem kMx_most {r : Nat} (hr : r < 21) : kMx r ≤ (if r < 2 then 65536 else 16777216) := by
  have : ∀ r, r < 21 → kMx r ≤ (if r < 2 then 65536 else 16777216) := by decide +kernel
  exact this r hr
theorem kMost_nI (r : Nat) : kMost r = nI (if r < 2 then 65536 else 16777216) := by
  unfold kMost
  by_cases h : r < 2
  · rw [if_pos h, if_pos h]; decide
  · rw [if_neg h, if_neg h]; decide
/-- push ends where the row has not come to its bound -/
theorem push_ok {α : kS} {r : Nat} (v : Int32) (hO : kOk α) (hr : r < 21) (hl : (α.2.1 r).length < kMx r) : ∃ M, fR_push α r v = some (some none, kRs α r (α.2.1 r ++ [v]) M) ∧ kOk (kRs α r (α.2.1 r ++ [v]) M) := by
  have h1 := hO.1 r hr
  have h2 := kMx_most hr
  have h3 : nI (α.2.1 r).length < kMost r := by
    rw [kMost_nI]
    refine nI_lt (by omega) ?_
    split <;> decide
  have e1 : (α.2.1 r ++ [v]).length = (α.2.1 r).length + 1 := by simp
  unfold fR_push
  rw [if_pos h3]
  by_cases hn : (α.2.1 r).length = α.2.2.1 r
  · rw [if_pos hn]
    have h4 : 2 * α.2.2.1 r ≤ kMx r := by
      obtain ⟨k, hk, e⟩ := hO.2.1 r (by omega)
      have h5 : k < kK r := by
        rcases Nat.lt_or_ge k (kK r) with q | q
        · exact q
        · have : k = kK r := by omega
          rw [this] at e
          have : α.2.2.1 r = kMx r := e
          omega
      rw [e]
      unfold kMx
      have h6 : 2 ^ (k + 1) ≤ 2 ^ kK r := Nat.pow_le_pow_right (by decide) h5
      calc 2 * (kBase r * 2 ^ k) = kBase r * 2 ^ (k + 1) := by rw [Nat.pow_succ, Nat.mul_comm 2, Nat.mul_assoc]
        _ ≤ kBase r * 2 ^ kK r := Nat.mul_le_mul_left _ h6
    rw [if_pos h4]
    have h16 := hO.ge (r := r) (by omega)
    exact ⟨_, rfl, kOk_rs hr hO (by rw [e1]; omega) (hO.dbl (by omega) h4)⟩
  · rw [if_neg hn]
    exact ⟨_, rfl, kOk_rs hr hO (by rw [e1]; omega) (hO.2.1 r (by omega))⟩
/-- push to what is shown always ends -/
theorem push_shown {α : kS} (v : Int32) (hO : kOk α) : ∃ l M, fR_push α 1 v = some (some none, kRs α 1 l M) ∧ kOk (kRs α 1 l M) := by
  rcases Nat.lt_or_ge (α.2.1 1).length (kMx 1) with h | h
  · obtain ⟨M, e, h1⟩ := push_ok v hO (by decide) h
    exact ⟨_, M, e, h1⟩
  · refine ⟨α.2.1 1, α.2.2.1 1, ?_, by rw [kRs_id]; exact hO⟩
    have h1 := hO.1 1 (by decide)
    have h2 := hO.mx (r := 1) (by decide)
    have h4 : kMx 1 = 65536 := by decide
    have h3 : ¬ nI (α.2.1 1).length < kMost 1 := by
      rw [kMost_nI]
      refine nI_nlt ?_ ?_
      · show 65536 ≤ _; omega
      · omega
    unfold fR_push
    rw [if_neg h3, kRs_id]
section KRSG
variable {α : kS} {r r' : Nat} {l : List Int32} {M : Nat}
theorem krs_row : (kRs α r l M).2.1 r = l := kup_s
theorem krs_row' (h : r' ≠ r) : (kRs α r l M).2.1 r' = α.2.1 r' := kup_n h
theorem krs_int : (kRs α r l M).1 = α.1 := rfl
theorem krs_trm : (kRs α r l M).2.2.2 = α.2.2.2 := rfl
theorem krs_rm (h : r' ≠ r) : (kRs α r l M).2.2.1 r' = α.2.2.1 r' := kup_n h
end KRSG
