-- what a fault leaves, what is kept of a DECLARATION
section UNDO
variable {N c0 c K : Nat} {α0 γ : kS}
/-- with the TERMS after α0's gone, all that α0 had stands -/
theorem back {m : Nat} (hN : 524288 < N) (h0 : tT c0 α0) (he0 : eI c0 c0 (tn α0) α0) (hT : tT K γ) (hm : tn α0 = m) (hl : (γ.2.1 5).length = 12 * c0) (h6 : (γ.2.1 6).length ≤ 31 * c0) (hX : XR c0 α0 γ) :
    ∃ β, f_Terms_release N (nI m) γ = some (some none, β) ∧ tT c0 β ∧ eI c0 c0 (tn β) β ∧ tn β = tn α0 ∧ grw α0 β ∧ (∀ k, k ≠ 6 → β.1 k = γ.1 k) ∧ β.2.1 = γ.2.1 ∧ β.2.2.1 = γ.2.2.1 := by
  subst hm
  obtain ⟨hg, hf⟩ := hX
  obtain ⟨β, e, tβ, nβ, gβ, iβ, rβ, mβ⟩ := rel_t (N := N) hN hT hg.1
  have g0 : grw α0 β := hg.cut (Nat.le_refl _) nβ gβ
  refine ⟨β, e, ⟨tβ.1, tβ.2.1, fun i hi h34 => ?_⟩, ⟨by rw [rβ]; exact hl, he0.2.1, Nat.le_refl _, Nat.le_refl _, by rw [rβ]; exact h6, fun k hk => ?_⟩, nβ, g0, iβ, rβ, mβ⟩
  · obtain ⟨n1, -, -, -, n2, -⟩ := g_n g0 (i := i) (by omega)
    rw [n1] at h34
    rw [n2]
    exact h0.2.2 i (by omega) h34
  · rw [nβ]
    refine (he0.2.2.2.2.2 k hk).g (Nat.le_refl _) g0 fun w hw => ?_
    unfold fc
    rw [rβ]
    exact hf _ (by omega)
/-- the CONSTANTS after the c0-th are cut off -/
theorem cut_ok (hT : tT K γ) (hl : (γ.2.1 5).length = 12 * c) (hc : c0 ≤ c) (hc3 : c ≤ 300) (h11 : c0 < c → ∃ s : Nat, fc γ c0 11 / 32 = nI s ∧ s ≤ 31 * c0) (h6 : c = c0 → (γ.2.1 6).length ≤ 31 * c0) :
    ∃ β, f_Env_cut (nI c0) γ = β ∧ tT K β ∧ ch [] [5, 6] γ β ∧ (β.2.1 5).length = 12 * c0 ∧ (β.2.1 6).length ≤ 31 * c0 ∧ ∀ i, i < 12 * c0 → (β.2.1 5).getD i 0 = (γ.2.1 5).getD i 0 := by
  unfold f_Env_cut
  rw [len_e hT hl]
  by_cases ce : c = c0
  · subst ce
    rw [if_pos (nI_le (by omega) (by omega))]
    exact ⟨γ, rfl, hT, ch.rf, hl, h6 rfl, fun _ _ => rfl⟩
  · rw [if_neg (show ¬ nI c ≤ nI c0 from nI_ge (a := c0) (b := c) (by omega) (by omega))]
    obtain ⟨s, es, hs⟩ := h11 (by omega)
    have e1 : f_Lex_startOf (f_Env_fact (nI c0) 11 γ) γ = nI s := by
      unfold f_Lex_startOf
      rw [fact_l (k := c0) (w := 11) hT (by omega) (by decide) 11 rfl]
      exact es
    rw [e1]
    have hs6 := row_sm hT (r := 6) (by decide)
    obtain ⟨δ, eδ, tδ, cδ, l6⟩ : ∃ δ, fR_cut γ 6 (nI s) = δ ∧ tT K δ ∧ ch [] [5, 6] γ δ ∧ δ.2.1 5 = γ.2.1 5 ∧ (δ.2.1 6).length ≤ 31 * c0 := by
      by_cases hh : s ≤ (γ.2.1 6).length
      · rw [cut_e hT (by decide) hh]
        refine ⟨_, rfl, hT.sl (by decide) (by rw [List.length_take]; omega), ch.rs (by decide), rfl, ?_⟩
        show ((γ.2.1 6).take s).length ≤ _
        rw [List.length_take]
        omega
      · refine ⟨γ, ?_, hT, ch.rf, rfl, by omega⟩
        unfold fR_cut
        rw [if_pos (Or.inr (nI_le (by omega) (by omega)))]
    rw [eδ]
    have e12 : nI c0 * 12 = nI (12 * c0) := by rw [Nat.mul_comm]; exact pk_mul c0 12
    rw [e12, cut_e tδ (by decide) (by rw [l6.1]; omega)]
    refine ⟨_, rfl, tδ.sl (by decide) (by rw [List.length_take]; omega), cδ.tr (ch.rs (by decide)), ?_, l6.2, fun i hi => ?_⟩
    · show ((δ.2.1 5).take (12 * c0)).length = _
      rw [List.length_take, l6.1]
      omega
    · show ((δ.2.1 5).take (12 * c0)).getD i 0 = _
      rw [l6.1, List.getD_eq_getElem?_getD, List.getD_eq_getElem?_getD, List.getElem?_take_of_lt hi]
/-- a fault leaves what was there before -/
theorem undo (hN : 524288 < N) (h0 : tT c0 α0) (he0 : eI c0 c0 (tn α0) α0) (hT : tT K γ) (hl : (γ.2.1 5).length = 12 * c) (hc : c0 ≤ c) (hc3 : c ≤ 300) (h11 : c0 < c → ∃ s : Nat, fc γ c0 11 / 32 = nI s ∧ s ≤ 31 * c0) (h6 : c = c0 → (γ.2.1 6).length ≤ 31 * c0) (hX : XR c0 α0 γ) :
    ∃ β, f_Terms_release N (nI (tn α0)) (f_Env_cut (nI c0) γ) = some (some none, β) ∧ tT c0 β ∧ eI c0 c0 (tn β) β ∧ tn β = tn α0 ∧ grw α0 β ∧ (∀ k, k ≠ 6 → β.1 k = γ.1 k) ∧ ∀ r, r < 21 → r ∉ [5, 6] → β.2.1 r = γ.2.1 r := by
  obtain ⟨δ, e, tδ, cδ, l5, l6, hp⟩ := cut_ok hT hl hc hc3 h11 h6
  rw [e]
  obtain ⟨β, e1, b1, b2, b3, b4, b5, b6, b7⟩ := back hN h0 he0 tδ rfl l5 l6 ⟨hX.1.tr cδ.2.2, fun i hi => (hp i hi).trans (hX.2 i hi)⟩
  exact ⟨β, e1, b1, b2, b3, b4, fun k hk => (b5 k hk).trans (cδ.int (by simp)), fun r hr hr' => by rw [b6]; exact cδ.row hr hr'⟩
end UNDO
