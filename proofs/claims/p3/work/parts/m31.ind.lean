-- inductive: what is kept at its end
section INDF
variable {N : Nat} {κ k np q : Nat} {Lr : Nat → Prop} {α β : mS}
/-- a family with its CONSTRUCTORS is kept -/
theorem ind_fin {κ' zz' many t wu : Nat} (h : MD k κ Lr α) (hx : XD k κ α β) (hk : k + 1 + many ≤ 300) (hκ : κ ≤ κ') (hz : κ' ≤ zz') (hz3 : zz' ≤ 30000) (h17 : β.1 17 = nI κ') (h18 : β.1 18 = nI zz') (h16 : β.1 16 = nI (k + 1 + many)) (h15 : β.1 15 = nI wu) (hwu : wu ≤ 31 * (k + 1 + many)) (hnm : NMs (k + 1 + many) β) (hP : PO (· < κ') 32000 (k + 1 + many) (fun j => Lr j ∨ j = k) t β) (hnq : np ≤ 4096 ∧ q ≤ 4096) (h12 : β.2 12 k = 3) (r15 : β.2 15 k = nI np) (r16 : β.2 16 k = nI q) (r17 : β.2 17 k = nI many) (r14 : β.2 14 k = -1) (k13 : KP κ' β (β.2 13 k)) (k21 : KP κ' β (β.2 21 k)) (hc : ∀ i, i < many → β.2 12 (k + 1 + i) = 4 ∧ β.2 23 (k + 1 + i) = nI k ∧ (∃ m, β.2 18 (k + 1 + i) = nI m ∧ m ≤ 4096) ∧ KP κ' β (β.2 22 (k + 1 + i)) ∧ KP κ' β (β.2 13 (k + 1 + i)) ∧ β.2 14 (k + 1 + i) = -1) : MD (k + 1 + many) κ' (fun j => Lr j ∨ j = k) β := by
  obtain ⟨a1, a2, a3, a4, a5, a6, a7, a8, a9⟩ := h
  have hs := hx.2.2
  have up : ∀ v, v < κ → fit α v → clo α v → v < κ' ∧ fit β v ∧ clo β v := fun v hv hf hc => ⟨by omega, hf.sn hs hv, hc.sn a5 hs hv⟩
  have row : ∀ r, 10 ≤ r → r ≤ 24 → ∀ j, j < k → β.2 r j = α.2 r j := hx.2.1
  have cs : ∀ j, j < k + 1 + many → j < k ∨ j = k ∨ ∃ i, i < many ∧ j = k + 1 + i := fun j hj => by
    rcases Nat.lt_trichotomy j k with z | z | z
    · exact Or.inl z
    · exact Or.inr (Or.inl z)
    · exact Or.inr (Or.inr ⟨j - (k + 1), by omega, by omega⟩)
  refine ⟨⟨h16, hk⟩, ⟨h17, zz', h18, hz, hz3⟩, ⟨wu, h15, hwu⟩, hnm, hP.kept (Nat.le_refl _) (fun _ z => z), ⟨⟨by omega, fun j hj => ?_⟩, fun j hj => ?_, fun j hj => ?_⟩, fun j hj => ?_, fun j hj => ?_, fun j => ?_⟩
  · rcases hj with z | z
    · exact a6.1.2 j z
    · omega
  · rcases cs j hj with z | z | ⟨i, z1, z2⟩
    · have e := a6.2.1 j z
      rw [row 12 (by decide) (by decide) j z, row 14 (by decide) (by decide) j z, row 23 (by decide) (by decide) j z, row 18 (by decide) (by decide) j z, row 22 (by decide) (by decide) j z]
      refine ⟨fun y => ?_, fun y => ?_⟩
      · obtain ⟨v, b1, b2, b3, b4⟩ := e.1 y
        obtain ⟨c1, c2, c3⟩ := up v b2 b4 b3
        exact ⟨v, b1, c1, c3, c2⟩
      · obtain ⟨f, b1, b2, b3⟩ := e.2 y
        refine ⟨f, b1, by omega, fun hl => ?_⟩
        rcases hl with hl | hl
        · obtain ⟨c0, r, c1, c2, c3, c4⟩ := b3 hl
          obtain ⟨d1, d2, d3⟩ := up r c2 c4 c3
          exact ⟨c0, r, c1, d1, d3, d2⟩
        · -- a CONSTRUCTOR of before is of a family of before
          omega
    · rw [z, h12]
      exact ⟨fun y => absurd y (by decide), fun y => absurd y (by decide)⟩
    · obtain ⟨c1, c2, c3, ⟨r, d1, d2, d3, d4⟩, c5, c6⟩ := hc i z1
      rw [z2, c1]
      exact ⟨fun y => absurd y (by decide), fun _ => ⟨k, c2, by omega, fun _ => ⟨c3, r, d1, d2, d4, d3⟩⟩⟩
  · rcases hj with z | z
    · have hjk := ((a9 j).mp z).1
      obtain ⟨⟨a, b, c, b1, b2, b3, b4⟩, r, c1, c2, c3, c4⟩ := a6.2.2 j z
      obtain ⟨d1, d2, d3⟩ := up r c2 c4 c3
      exact ⟨⟨a, b, c, by rw [row 15 (by decide) (by decide) j hjk]; exact b1, by rw [row 17 (by decide) (by decide) j hjk]; exact b2, by rw [row 16 (by decide) (by decide) j hjk]; exact b3, b4⟩, r, by rw [row 21 (by decide) (by decide) j hjk]; exact c1, d1, d3, d2⟩
    · obtain ⟨r, d1, d2, d3, d4⟩ := k21
      rw [z]
      exact ⟨⟨np, many, q, r15, r17, r16, hnq.1, by omega, hnq.2⟩, r, d1, d2, d4, d3⟩
  · rcases cs j hj with z | z | ⟨i, z1, z2⟩
    · obtain ⟨v, b1, b2, b3, b4⟩ := a7 j z
      obtain ⟨d1, d2, d3⟩ := up v b2 b3 b4
      exact ⟨v, by rw [row 13 (by decide) (by decide) j z]; exact b1, d1, d2, d3⟩
    · rw [z]; exact k13
    · rw [z2]; exact (hc i z1).2.2.2.2.1
  · rcases cs j hj with z | z | ⟨i, z1, z2⟩
    · rw [row 14 (by decide) (by decide) j z]
      rcases a8 j z with b | ⟨v, b1, b2, b3, b4⟩
      · exact Or.inl b
      · obtain ⟨d1, d2, d3⟩ := up v b2 b3 b4
        exact Or.inr ⟨v, b1, d1, d2, d3⟩
    · rw [z]; exact Or.inl r14
    · rw [z2]; exact Or.inl (hc i z1).2.2.2.2.2
  · constructor
    · rintro (z | z)
      · obtain ⟨z1, z2⟩ := (a9 j).mp z
        exact ⟨by omega, by rw [row 12 (by decide) (by decide) j z1]; exact z2⟩
      · rw [z]; exact ⟨by omega, h12⟩
    · rintro ⟨z, z'⟩
      rcases cs j z with y | y | ⟨i, y1, y2⟩
      · rw [row 12 (by decide) (by decide) j y] at z'
        exact Or.inl ((a9 j).mpr ⟨y, z'⟩)
      · exact Or.inr y
      · rw [y2, (hc i y1).1] at z'
        exact absurd z' (by decide)
end INDF
