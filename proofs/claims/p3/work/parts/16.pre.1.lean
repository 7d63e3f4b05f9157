theorem kI.room {g : kG} {A : Nat → Prop} {s : State} {α0 α : kS} {ad0 ad : Nat → Nat} {H : Heap} {locs : List Loc} {cells slots fr lo : Nat} (hI : kI g A s α0 ad0 α ad H locs cells slots) : cells ≤ (kR fr lo α0).cells ∧ slots ≤ (kR fr lo α0).slots := by
  have hF := hI.1.2.1.F
  have b1 := hI.2.2.1
  have b2 := hI.2.2.2
  refine ⟨?_, ?_⟩
  · show cells ≤ (kM - kF α0) / 32 + 1
    omega
  · show slots ≤ kM - kF α0 + 6
    omega
theorem ksw {v k : Int32} {z : Int} (hk : k.toInt = z) (h : ¬ v = k) : ¬ v.toInt = z := fun e => h (Int32.toInt_inj.mp (e.trans hk.symm))
abbrev kFl (l : Launch) : Prop := l.flags = flags0
/-- a length that TERMS may have -/
abbrev kLn (α : kS) (v : Int32) : Prop := ¬ v < 0 ∧ v.toNatClampNeg ≤ α.2.2.1 21 ∧ v.toNatClampNeg ≤ α.2.2.1 22 ∧ v.toNatClampNeg ≤ α.2.2.1 23 ∧ v.toNatClampNeg ≤ α.2.2.1 24 ∧ v.toNatClampNeg ≤ α.2.2.1 25
theorem kLn_to {α : kS} {v : Int32} (h : kLn α v) : ¬ v < 0 ∧ ∀ r, 21 ≤ r → r < 26 → v.toNatClampNeg ≤ α.2.2.1 r := by
  obtain ⟨h0, h1, h2, h3, h4, h5⟩ := h
  refine ⟨h0, fun r a b => ?_⟩
  have : r = 21 ∨ r = 22 ∨ r = 23 ∨ r = 24 ∨ r = 25 := by omega
  rcases this with rfl | rfl | rfl | rfl | rfl <;> assumption
theorem kTin {α : kS} {a : Int32} {r : Nat} (h21 : 21 ≤ r) (h26 : r < 26) (h : kOk α) (h1 : ¬ a < 0) (h2 : ¬ α.1 6 ≤ a) : vp_in a (α.2.2.1 r) := by
  obtain ⟨j, hj, rfl⟩ := nI_of h1
  obtain ⟨n, hn, e⟩ := nI_of h.2.2.1
  have h3 := h.2.2.2 r h21 h26
  rw [e, nI_clamp hn] at h3
  rw [e] at h2
  have h4 : j < n := Nat.not_le.mp fun q => h2 (nI_le q hj)
  exact vp_in_nI (by omega) (Nat.lt_of_lt_of_le (h.sm h26) (by decide))
