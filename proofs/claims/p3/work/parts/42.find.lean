-- the search along a chain
def mkE (N : Nat) (x1 x2 x3 : Int32) (β : kS) : Option (kO × kS) := if x1 = 0 then (f_Terms_make_j89 N 1 1 x1 x2 x3 (x2 + 1) β) else (f_Terms_make_j89 N 1 1 x1 x2 x3 0 β)
theorem make_find {N : Nat} {β : kS} (h : tOk β) (x1 x2 x3 : Int32) (s : Nat) : ∀ m, m ≤ tn β → ∀ n, m < n →
    f_Terms_make_14 N n (nI (tLast (tSl β (β.2.2.1 25)) s m)) x1 x2 x3 β = mkE N x1 x2 x3 β ∨ ∃ j, j < tn β ∧ f_Terms_make_14 N n (nI (tLast (tSl β (β.2.2.1 25)) s m)) x1 x2 x3 β = some (some (some (nI j)), β) ∧ tKd β j = x1 ∧ tLf β j = x2 ∧ tRt β j = x3 := by
  intro m
  induction m using Nat.strongRecOn with
  | ind m ih =>
    intro hm n hn
    obtain ⟨n, rfl⟩ : ∃ n', n = n' + 1 := ⟨n - 1, by omega⟩
    have hle := tLast_le (tSl β (β.2.2.1 25)) s m
    obtain ⟨e6, h5, hrm⟩ := h.1.n
    have hsl := tLast_slot (tSl β (β.2.2.1 25)) s m
    generalize tLast (tSl β (β.2.2.1 25)) s m = t at hle hsl ⊢
    rw [f_Terms_make_14]
    cases t with
    | zero =>
      left
      rw [if_pos (by decide)]
      rfl
    | succ j =>
      have hj : j < tn β := by omega
      have hs : tSl β (β.2.2.1 25) j = s := hsl (by omega)
      have e1 : nI (j + 1) - 1 = nI j := nI_pred j
      have hgt : ¬ nI (j + 1) ≤ (0 : Int32) := nI_ge (a := 0) (b := j + 1) (by omega) (by omega)
      have r22 := hrm 22 (by decide) (by decide)
      have r23 := hrm 23 (by decide) (by decide)
      have r24 := hrm 24 (by decide) (by decide)
      have ec : (nI j).toNatClampNeg = j := nI_clamp (by omega)
      have hng : ∀ r, j < r → ¬ (nI j < 0 ∨ r ≤ (nI j).toNatClampNeg) := fun r hr z => z.elim (nI_pos (by omega)) (by rw [ec]; omega)
      have hlk : β.2.2.2.2 2 j = nI (tLast (tSl β (β.2.2.1 25)) s j) := by rw [h.2.2.2 j hj, hs]
      have step : f_Terms_make_j60 N (f_Terms_make_14 N n) (nI j) x1 x2 x3 β = f_Terms_make_14 N n (nI (tLast (tSl β (β.2.2.1 25)) s j)) x1 x2 x3 β := by
        unfold f_Terms_make_j60
        rw [if_neg (hng _ (by omega)), ec, hlk]
      have rec_ := ih j (by omega) (by omega) n (by omega)
      rw [if_neg hgt, e1, if_neg (hng _ (by omega)), if_neg (hng _ (by omega)), step]
      by_cases h2 : β.2.2.2.2 0 (nI j).toNatClampNeg = x2
      · rw [if_pos h2]
        by_cases h3 : β.2.2.2.2 1 (nI j).toNatClampNeg = x3
        · rw [if_pos h3]
          by_cases h4 : f_Terms_kind (nI j) β = x1
          · rw [if_pos h4]
            rw [ec] at h2 h3
            rw [kd_in h.1 hj] at h4
            exact Or.inr ⟨j, hj, rfl, h4, h2, h3⟩
          · rw [if_neg h4]; exact rec_
        · rw [if_neg h3]; exact rec_
      · rw [if_neg h2]; exact rec_
/-- make finds the TERM, or goes on to make it -/
theorem make_goes {N : Nat} {α : kS} (h : tOk α) (hN : 524288 < N) (k l r : Int32) : f_Terms_make N k l r α = mkE N k l r α ∨ ∃ j, j < tn α ∧ f_Terms_make N k l r α = some (some (some (nI j)), α) ∧ tKd α j = k ∧ tLf α j = l ∧ tRt α j = r := by
  obtain ⟨kk, hk, e⟩ := h.1.pw
  obtain ⟨j, hj, ej⟩ := tSo_in e hk k l r
  obtain ⟨e6, h5, hrm⟩ := h.1.n
  have h25 := h.1.sm (r := 25) (by decide)
  have ec : (nI j).toNatClampNeg = j := nI_clamp (by omega)
  have hu : f_Terms_make N k l r α = f_Terms_make_14 N N (nI (tLast (tSl α (α.2.2.1 25)) j (tn α))) k l r α := by
    unfold f_Terms_make
    rw [slot_is, ej, if_neg (fun z => z.elim (nI_pos (by omega)) (by rw [ec]; omega)), ec, h.2.2.1 j hj]
  rw [hu]
  exact make_find h k l r j (tn α) (Nat.le_refl _) N (by omega)
