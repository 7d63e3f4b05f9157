-- Lexer: numbers and words end
/-- place moved on, kind and length set -/
def lx (α β : kS) (p q : Nat) : Prop := β.2 = α.2 ∧ (∀ j, j ≠ 8 → j ≠ 10 → j ≠ 12 → β.1 j = α.1 j) ∧ β.1 8 = nI q ∧ p ≤ q ∧ kd32 (β.1 10)
theorem kd1 : kd32 1 := ⟨by decide, by decide⟩
theorem kd3 : kd32 3 := ⟨by decide, by decide⟩
theorem number_go {N T : Nat} (hT : T < 2 ^ 30) : ∀ (d p n : Nat) (β : kS), (β.2.1 0).length = T → β.1 8 = nI p → p < 2 ^ 30 → T ≤ p + d → d < n → ∃ γ q, f_Lex_scanNumber_0 N n β = some (some none, γ) ∧ lx β γ p q ∧ q ≤ max p T := by
  have fin : ∀ (p : Nat) (β : kS), β.1 8 = nI p → ∃ γ q, f_Lex_scanNumber_j44 N β = some (some none, γ) ∧ lx β γ p q ∧ q ≤ max p T := fun p β h2 => by
    have e : ∀ (y t : Int32), ∃ γ q, f_Lex_scanNumber_j81 N y t β = some (some none, γ) ∧ lx β γ p q ∧ q ≤ max p T := fun y t => by
      unfold f_Lex_scanNumber_j81
      by_cases h : y = 0
      · rw [if_pos h]
        exact ⟨_, p, rfl, ⟨rfl, fun j a b c => (kup_n b).trans (kup_n c), h2, Nat.le_refl _, kd1⟩, by omega⟩
      · rw [if_neg h]
        exact ⟨_, p, rfl, ⟨rfl, fun j a b c => (kup_n b).trans (kup_n c), h2, Nat.le_refl _, kd3⟩, by omega⟩
    unfold f_Lex_scanNumber_j44
    by_cases h : 4 < β.1 8 - β.1 11
    · rw [if_pos h]
      unfold f_Lex_scanNumber_j62
      rw [if_pos rfl]; exact e _ _
    · rw [if_neg h]
      unfold f_Lex_scanNumber_j62
      rw [if_neg (by decide)]; exact e _ _
  intro d
  induction d with
  | zero =>
    intro p n β h1 h2 h3 h4 h5
    obtain ⟨n, rfl⟩ : ∃ n', n = n' + 1 := ⟨n - 1, by omega⟩
    have c : fR_size β 0 ≤ β.1 8 := by unfold fR_size; rw [h1, h2]; exact nI_le (by omega) (by omega)
    rw [f_Lex_scanNumber_0, if_pos c]
    exact fin p β h2
  | succ d ih =>
    intro p n β h1 h2 h3 h4 h5
    obtain ⟨n, rfl⟩ : ∃ n', n = n' + 1 := ⟨n - 1, by omega⟩
    rw [f_Lex_scanNumber_0]
    by_cases c : fR_size β 0 ≤ β.1 8
    · rw [if_pos c]; exact fin p β h2
    · rw [if_neg c]
      have hp : p < T := by
        unfold fR_size at c
        rw [h1, h2] at c
        exact Nat.not_le.mp fun q => c (nI_le q (by omega))
      by_cases c2 : f_Lex_isDigit (fR_at β 0 (β.1 8)) β = 0
      · rw [if_pos c2]; exact fin p β h2
      · rw [if_neg c2]
        have e : (kSi β 8 (β.1 8 + 1)).1 8 = nI (p + 1) := by
          show β.1 8 + 1 = nI (p + 1)
          rw [h2]; exact nI_1 p
        obtain ⟨γ, q, g1, g2, g3⟩ := ih (p + 1) n (kSi β 8 (β.1 8 + 1)) h1 e (by omega) (by omega) (by omega)
        exact ⟨γ, q, g1, ⟨g2.1, fun j a b c => (g2.2.1 j a b c).trans (kup_n a), g2.2.2.1, by have := g2.2.2.2.1; omega, g2.2.2.2.2⟩, by omega⟩
