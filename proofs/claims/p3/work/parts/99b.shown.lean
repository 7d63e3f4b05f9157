-- what is shown of the CONSTANTS
section SHOWN
variable {N c : Nat} {α : kS}
theorem nn_nI {a : Int32} (h : ¬ a < 0) : ∃ k, a = nI k ∧ k < 2 ^ 31 := by
  have h0 : 0 ≤ a.toInt := by
    rw [Int32.lt_iff_toInt_lt] at h
    have : (0 : Int32).toInt = 0 := by decide
    omega
  have h1 := Int32.toInt_lt a
  refine ⟨a.toInt.toNat, Int32.toInt_inj.mp ?_, by omega⟩
  rw [nI_toInt (by omega)]
  omega
theorem KI.ch {β : kS} {I R : List Nat} {K : Nat} (h : KI c α) (hT : tT K β) (hK : K = c) (hc : ch I R α β) (h6 : 6 ∉ I) (r5 : 5 ∉ R) (r6 : 6 ∉ R) : KI c β := by
  subst hK
  have e : tn β = tn α := by unfold tn; rw [hc.int h6]
  exact ⟨hT, by rw [e]; exact h.2.1.ch hc r5 r6, h.2.2.eq hc.2.2 e⟩
theorem print_k (hN : 2 ^ 31 ≤ N) (h : KI c α) {p : Int32} (hp : qP α p) (x : Int32) : ∃ γ, f_Pri_print N p x α = some (some none, γ) ∧ KI c γ ∧ ch [] [1, 2, 3, 20] α γ := by
  obtain ⟨t, rfl, ht⟩ := hp
  obtain ⟨γ, e, t1, c1⟩ := print_ok hN h.1 ht (h.2.2.fr h.1 ht.1) x
  exact ⟨γ, e, h.ch t1 rfl c1 (by decide) (by decide) (by decide), c1⟩
theorem idx (h : KI c α) {a1 : Int32} (h1 : ¬ a1 < 0) (h2 : a1 < f_Env_length α) : ∃ k, a1 = nI k ∧ k < c := by
  obtain ⟨k, rfl, hk⟩ := nn_nI h1
  rw [len_e h.1 h.2.1.1] at h2
  exact ⟨k, rfl, (nI_ltI hk (by have := h.2.1.2.1; omega)).mp h2⟩
theorem show_ok (hN : 2 ^ 31 ≤ N) (h : KI c α) {a1 a2 : Int32} (h1 : ¬ a1 < 0) (h2 : a1 < f_Env_length α) (h3 : ¬ a2 < 0) (h4 : a2 ≤ 2) (h5 : a2 = 2 → f_Env_fact a1 2 α ≠ -1) :
    ∃ v γ, f_Ker_show N a1 a2 α = some (some (some v), γ) ∧ KI c γ ∧ ch [] [1, 2, 3, 20] α γ := by
  obtain ⟨k, rfl, hk⟩ := idx h h1 h2
  have hc3 := h.2.1.2.1
  have j49 : ∃ v γ, f_Ker_show_j49 N (nI k) a2 α = some (some (some v), γ) ∧ KI c γ ∧ ch [] [1, 2, 3, 20] α γ := by
    unfold f_Ker_show_j49
    rw [if_neg h3, if_pos h4]
    by_cases e0 : a2 = 0
    · rw [if_pos e0]
      unfold f_Pri_printName
      rw [cut0 h.1 (by decide)]
      have t1 : tT c (kSl α 1 []) := h.1.sl (by decide) (Nat.zero_le _)
      obtain ⟨γ, e, t2, c2, -⟩ := name_p hN t1 (nI k)
      rw [e, kBv_s, kBv_s]
      have cγ : ch [] [1, 2, 3, 20] α γ := (ch.rs (by decide)).tr (c2.mo (by decide) (by decide))
      exact ⟨_, γ, rfl, h.ch t2 rfl cγ (by decide) (by decide) (by decide), cγ⟩
    · rw [if_neg e0]
      have hq : qP α (f_Env_fact (nI k) a2 α) := by
        obtain ⟨w, rfl, hw⟩ := nn_nI h3
        have hw2 : w ≤ 2 := by
          rw [Int32.le_iff_toInt_le, nI_toInt hw] at h4
          have : (2 : Int32).toInt = 2 := by decide
          omega
        have : w = 1 ∨ w = 2 := by
          have : w ≠ 0 := fun y => e0 (by rw [y]; rfl)
          omega
        rcases this with y | y
        · subst y
          exact type_v h.1 h.2.1 hk
        · subst y
          have h5 := h5 rfl
          rw [fact_l (k := k) (w := 2) h.1 (by omega) (by decide) 2 rfl] at h5
          rw [fact_l (k := k) (w := 2) h.1 (by omega) (by decide) _ rfl]
          exact ((h.2.1.2.2.2.2.2 k hk).2.2.2.2.1.resolve_left h5).q (Nat.le_refl _)
      obtain ⟨γ, e, k1, k3⟩ := print_k hN h hq 0
      rw [e, kBv_s]
      exact ⟨_, γ, rfl, k1, k3⟩
  unfold f_Ker_show
  rw [if_neg h1, if_pos h2]
  by_cases e2 : a2 = 2
  · rw [if_pos e2, if_neg (h5 e2)]
    exact j49
  · rw [if_neg e2]
    exact j49
theorem showRec_ok (hN : 2 ^ 31 ≤ N) (h : KI c α) {a1 a2 : Int32} (h1 : ¬ a1 < 0) (h2 : ¬ f_Env_length α ≤ a1) (hF : f_Env_fact a1 0 α = 3) (h3 : ¬ a2 < 0) (h4 : ¬ 100 < a2) (h5 : f_Env_allows a1 a2 α ≠ 0) :
    ∃ v γ, f_Ker_showRec N a1 a2 α = some (some (some v), γ) ∧ KI c γ ∧ ch [] [1, 2, 3, 20] α γ := by
  obtain ⟨k, rfl, hk⟩ := idx h h1 (Int32.not_le.mp h2)
  have h0 : 0 < tn α := by
    obtain ⟨j, -, hj⟩ := type_v h.1 h.2.1 hk
    have := hj.1
    omega
  obtain ⟨γ, e, k1, k3⟩ := print_k hN h (elim_v h.1 h.2.1 hk h0) a2
  unfold f_Ker_showRec f_Ker_showRec_j33
  rw [if_neg h1, if_neg h2, if_pos hF, if_neg (by decide), if_neg h3, if_neg h4, if_neg h5, e, kBv_s]
  exact ⟨_, γ, rfl, k1, k3⟩
end SHOWN
