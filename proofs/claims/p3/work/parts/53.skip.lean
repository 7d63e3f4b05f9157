-- Lexer: skip
/-- only the int k has changed -/
def i1 (k : Nat) (α β : kS) : Prop := β.2 = α.2 ∧ ∀ j, j ≠ k → β.1 j = α.1 j
theorem i1.rf {k : Nat} {α : kS} : i1 k α α := ⟨rfl, fun _ _ => rfl⟩
theorem i1.tr {k : Nat} {α β γ : kS} (h1 : i1 k α β) (h2 : i1 k β γ) : i1 k α γ := ⟨h2.1.trans h1.1, fun j hj => (h2.2 j hj).trans (h1.2 j hj)⟩
theorem i1.of {k : Nat} {α : kS} {v : Int32} : i1 k α (kSi α k v) := ⟨rfl, fun _ hj => kup_n hj⟩
theorem skip_go {N T : Nat} (hT : T < 2 ^ 30) : ∀ (d p n : Nat) (x1 : Int32) (β : kS), (β.2.1 0).length = T → β.1 8 = nI p → p < 2 ^ 30 → T ≤ p + d → d < n → ∃ γ q, f_Lex_skip_2 N n x1 β = some (some none, γ) ∧ i1 8 β γ ∧ γ.1 8 = nI q ∧ p ≤ q ∧ q ≤ max p T := by
  intro d
  induction d with
  | zero =>
    intro p n x1 β h1 h2 h3 h4 h5
    obtain ⟨n, rfl⟩ : ∃ n', n = n' + 1 := ⟨n - 1, by omega⟩
    refine ⟨β, p, ?_, i1.rf, h2, Nat.le_refl _, by omega⟩
    rw [f_Lex_skip_2, if_pos]
    unfold fR_size
    rw [h1, h2]
    exact nI_le (by omega) (by omega)
  | succ d ih =>
    intro p n x1 β h1 h2 h3 h4 h5
    obtain ⟨n, rfl⟩ : ∃ n', n = n' + 1 := ⟨n - 1, by omega⟩
    have go : ∀ y, p < T → ∃ γ q, f_Lex_skip_j73 N (f_Lex_skip_2 N n) y β = some (some none, γ) ∧ i1 8 β γ ∧ γ.1 8 = nI q ∧ p ≤ q ∧ q ≤ max p T := fun y hp => by
      have e : (kSi β 8 (β.1 8 + 1)).1 8 = nI (p + 1) := by
        show β.1 8 + 1 = nI (p + 1)
        rw [h2]; exact nI_1 p
      obtain ⟨γ, q, g1, g2, g3, g4, g5⟩ := ih (p + 1) n y (kSi β 8 (β.1 8 + 1)) h1 e (by omega) (by omega) (by omega)
      exact ⟨γ, q, g1, i1.of.tr g2, g3, by omega, by omega⟩
    have stay : ∃ γ q, (some (some none, β) : Option (kO × kS)) = some (some none, γ) ∧ i1 8 β γ ∧ γ.1 8 = nI q ∧ p ≤ q ∧ q ≤ max p T := ⟨β, p, rfl, i1.rf, h2, Nat.le_refl _, by omega⟩
    rw [f_Lex_skip_2]
    by_cases c1 : fR_size β 0 ≤ β.1 8
    · rw [if_pos c1]; exact stay
    · rw [if_neg c1]
      have hp : p < T := by
        unfold fR_size at c1
        rw [h1, h2] at c1
        exact Nat.not_le.mp fun q => c1 (nI_le q (by omega))
      by_cases c2 : fR_at β 0 (β.1 8) = 37
      · rw [if_pos c2]; exact go _ hp
      rw [if_neg c2]
      by_cases c3 : fR_at β 0 (β.1 8) = 10
      · rw [if_pos c3]; exact go _ hp
      rw [if_neg c3]
      by_cases c4 : x1 = 0
      · rw [if_pos c4]
        by_cases c5 : fR_at β 0 (β.1 8) = 32
        · rw [if_pos c5]; exact go _ hp
        rw [if_neg c5]
        by_cases c6 : fR_at β 0 (β.1 8) = 9
        · rw [if_pos c6]; exact go _ hp
        rw [if_neg c6]
        by_cases c7 : fR_at β 0 (β.1 8) = 13
        · rw [if_pos c7]; exact go _ hp
        rw [if_neg c7]; exact stay
      · rw [if_neg c4]; exact go _ hp
theorem skip_ok {N T p : Nat} {α : kS} (hN : 2 ^ 30 ≤ N) (hT : T < 2 ^ 30) (h1 : (α.2.1 0).length = T) (h2 : α.1 8 = nI p) (h3 : p < 2 ^ 30) : ∃ γ q, f_Lex_skip N α = some (some none, γ) ∧ i1 8 α γ ∧ γ.1 8 = nI q ∧ p ≤ q ∧ q ≤ max p T :=
  skip_go hT T p N 0 α h1 h2 h3 (by omega) (by omega)
