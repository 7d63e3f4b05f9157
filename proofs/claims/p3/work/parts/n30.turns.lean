-- a turn of the law, by the functions alone
def lawN : Nat := 8589934592
theorem lawN_31 : 2 ^ 31 < lawN := by decide
theorem lawN_4 : 400000 < lawN := by decide
/-- class and reference before the k-th call -/
def lTI (k : Nat) (α : kS) (β : mS) : Prop := ∃ c sz, KI c α ∧ (α.2.1 0).length = sz ∧ sz ≤ 20 * k ∧ MI sz β
section TURN
variable {k : Nat} {α : kS} {β : mS}
theorem t_feed (hk : k < 512) (h : lTI k α β) (a1 a2 a3 a4 a5 : Int32) : ∃ v α' β', f_Ker_feed lawN a1 a2 a3 a4 a5 α = some (some (some v), α') ∧ f_Mod_feed lawN a1 a2 a3 a4 a5 β = some (some (some v), β') ∧ β'.1 2 = 0 ∧ lTI (k + 1) α' β' := by
  obtain ⟨c, sz, h1, h2, h3, h4⟩ := h
  obtain ⟨v, γ, e, q1, -, -, q2, q3⟩ := feed_ok (N := lawN) (Nat.le_of_lt lawN_31) a1 a2 a3 a4 a5 h1 (by omega)
  obtain ⟨β', e', r1, r2⟩ := feed_m (v1 := a1) (v2 := a2) (v3 := a3) (v4 := a4) (v5 := a5) lawN_4 h4 (by omega)
  rw [h2] at q2 q3
  subst q3
  exact ⟨_, γ, β', e, e', r2, c, sz + 20, q1, q2, by omega, r1⟩
theorem t_end (hk : k < 512) (h : lTI k α β) (a : Int32) : (∃ α', f_Ker_end lawN a α = some (some (some a), α') ∧ lTI (k + 1) α' (f_Mod_end a β).2 ∧ (f_Mod_end a β).1 = a ∧ (f_Mod_end a β).2.1 2 = 0) ∨ (fx_Ker_end a α = 2 ∧ lTI (k + 1) α (f_Mod_end a β).2 ∧ (f_Mod_end a β).2.1 2 = 1) := by
  obtain ⟨c, sz, h1, h2, h3, h4⟩ := h
  by_cases c1 : a < 0
  · obtain ⟨-, r2, r3⟩ := end_r (a := a) h4 (fun z => absurd c1 (Int32.not_lt.mpr z.1))
    exact Or.inr ⟨by unfold fx_Ker_end; rw [if_pos c1], ⟨c, sz, h1, h2, by omega, r2⟩, r3⟩
  · obtain ⟨n, hn, rfl⟩ := nI_of c1
    by_cases c2 : n ≤ sz
    · obtain ⟨γ, e, q1, q2⟩ := end_v (N := lawN) h1 (by rw [h2]; exact c2) (by omega)
      obtain ⟨r1, r2, r3⟩ := end_m h4 c2
      exact Or.inl ⟨γ, e, ⟨c, n, q1, q2, by omega, r2⟩, r1, r3⟩
    · have nl : ¬ nI n ≤ nI sz := nI_ge (by omega) hn
      obtain ⟨-, r2, r3⟩ := end_r (a := nI n) h4 (fun z => nl z.2)
      exact Or.inr ⟨by unfold fx_Ker_end fR_size; rw [if_neg c1, h2, if_neg nl], ⟨c, sz, h1, h2, by omega, r2⟩, r3⟩
theorem t_read (hk : k < 512) (h : lTI k α β) : ∃ x y, f_Ker_read lawN α = some x ∧ f_Mod_read lawN β = some y ∧ lTI (k + 1) x.2 y.2 := by
  obtain ⟨c, sz, h1, h2, h3, h4⟩ := h
  obtain ⟨v, γ, e, ⟨c', -, q1⟩, q2⟩ := read_ok lawN_31 (evh lawN) h1 (by omega)
  obtain ⟨v', β', e', r1⟩ := read_m lawN_4 h4
  exact ⟨_, _, e, e', c', 0, q1, by show (γ.2.1 0).length = 0; rw [q2]; rfl, by omega, r1⟩
theorem t_fault (h : lTI k α β) (a : Int32) : lTI (k + 1) α (f_Mod_fault a β).2 := by
  obtain ⟨c, sz, h1, h2, h3, h4⟩ := h
  exact ⟨c, sz, h1, h2, by omega, fault_m h4⟩
theorem t_count (h : lTI k α β) (a : Int32) : lTI (k + 1) α (f_Mod_count a β).2 := by
  obtain ⟨c, sz, h1, h2, h3, h4⟩ := h
  exact ⟨c, sz, h1, h2, by omega, count_m h4⟩
theorem t_reset (h : lTI k α β) : ∃ v α', f_Ker_reset lawN α = some (some (some v), α') ∧ lTI (k + 1) α' (f_Mod_reset β).2 := by
  obtain ⟨c, sz, h1, h2, h3, h4⟩ := h
  obtain ⟨v, γ, e, q1, -, q2⟩ := reset_ok (N := lawN) (by decide) h1
  exact ⟨v, γ, e, 0, sz, q1, by rw [q2 0 (by decide) (by decide)]; exact h2, by omega, reset_m h4⟩
theorem t_constant (h : lTI k α β) (a b : Int32) : ∃ v' β', f_Mod_constant_2 lawN a b β = some (some (some v'), β') ∧ ((∃ v α', f_Ker_constant lawN a b α = some (some (some v), α') ∧ lTI (k + 1) α' β') ∨ (fx_Ker_constant a b α = 1 ∧ lTI (k + 1) α β') ∨ (fx_Ker_constant a b α = 2 ∧ lTI (k + 1) α β')) := by
  obtain ⟨c, sz, h1, h2, h3, h4⟩ := h
  obtain ⟨v', β', e', r1⟩ := constant_m (N := lawN) (a := a) (b := b) h4
  have hl : lTI (k + 1) α β' := ⟨c, sz, h1, h2, by omega, r1⟩
  refine ⟨v', β', e', ?_⟩
  have j : ∀ y, ∃ v, f_Ker_constant_j61 lawN y α = some (some (some v), α) := fun y => by
    unfold f_Ker_constant_j61
    by_cases z : y = -1
    · rw [if_pos z]; exact ⟨_, rfl⟩
    · rw [if_neg z]; exact ⟨_, rfl⟩
  unfold fx_Ker_constant f_Ker_constant
  by_cases c1 : a < 0
  · rw [if_pos c1, if_pos c1]; exact Or.inr (Or.inl ⟨rfl, hl⟩)
  rw [if_neg c1, if_neg c1]
  by_cases c2 : a < f_Env_length α
  · rw [if_pos c2, if_pos c2]
    by_cases c3 : b < 0
    · rw [if_pos c3, if_pos c3]; exact Or.inr (Or.inr ⟨rfl, hl⟩)
    rw [if_neg c3, if_neg c3]
    by_cases c4 : b ≤ 7
    · rw [if_pos c4, if_pos c4]
      refine Or.inl ?_
      by_cases c5 : b = 1
      · rw [if_pos c5]
        obtain ⟨v, e⟩ := j (f_Env_fact a b α)
        exact ⟨v, α, e, hl⟩
      rw [if_neg c5]
      by_cases c6 : b = 2
      · rw [if_pos c6]
        obtain ⟨v, e⟩ := j (f_Env_fact a b α)
        exact ⟨v, α, e, hl⟩
      rw [if_neg c6]
      exact ⟨_, α, rfl, hl⟩
    · rw [if_neg c4, if_neg c4]; exact Or.inr (Or.inr ⟨rfl, hl⟩)
  · rw [if_neg c2, if_neg c2]; exact Or.inr (Or.inl ⟨rfl, hl⟩)
theorem t_show (h : lTI k α β) (a b : Int32) : ∃ v' β', f_Mod_show lawN a b β = some (some (some v'), β') ∧ ((∃ v α', f_Ker_show lawN a b α = some (some (some v), α') ∧ lTI (k + 1) α' β') ∨ (fx_Ker_show a b α = 1 ∧ lTI (k + 1) α β') ∨ (fx_Ker_show a b α = 2 ∧ lTI (k + 1) α β')) := by
  obtain ⟨c, sz, h1, h2, h3, h4⟩ := h
  obtain ⟨v', β', e', r1⟩ := show_m (a := a) (b := b) lawN_4 h4
  have hl : lTI (k + 1) α β' := ⟨c, sz, h1, h2, by omega, r1⟩
  refine ⟨v', β', e', ?_⟩
  have ok : ¬ a < 0 → a < f_Env_length α → ¬ b < 0 → b ≤ 2 → (b = 2 → f_Env_fact a 2 α ≠ -1) → ∃ v α', f_Ker_show lawN a b α = some (some (some v), α') ∧ lTI (k + 1) α' β' := fun x1 x2 x3 x4 x5 => by
    obtain ⟨v, γ, e, q1, q2⟩ := show_ok (N := lawN) (Nat.le_of_lt lawN_31) h1 x1 x2 x3 x4 x5
    exact ⟨v, γ, e, c, sz, q1, by rw [q2.row (by decide) (by decide)]; exact h2, by omega, r1⟩
  unfold fx_Ker_show
  by_cases c1 : a < 0
  · rw [if_pos c1]; exact Or.inr (Or.inl ⟨rfl, hl⟩)
  rw [if_neg c1]
  by_cases c2 : a < f_Env_length α
  · rw [if_pos c2]
    by_cases c3 : b = 2
    · rw [if_pos c3]
      by_cases c4 : f_Env_fact a 2 α = -1
      · rw [if_pos c4]; exact Or.inr (Or.inl ⟨rfl, hl⟩)
      · exact Or.inl (ok c1 c2 (by rw [c3]; decide) (by rw [c3]; decide) (fun _ => c4))
    · rw [if_neg c3]
      by_cases c4 : b < 0
      · rw [if_pos c4]; exact Or.inr (Or.inr ⟨rfl, hl⟩)
      rw [if_neg c4]
      by_cases c5 : b ≤ 2
      · exact Or.inl (ok c1 c2 c4 c5 (fun z => absurd z c3))
      · rw [if_neg c5]; exact Or.inr (Or.inr ⟨rfl, hl⟩)
  · rw [if_neg c2]; exact Or.inr (Or.inl ⟨rfl, hl⟩)
theorem t_showRec (h : lTI k α β) (a b : Int32) : ∃ v' β', f_Mod_showRec lawN a b β = some (some (some v'), β') ∧ ((∃ v α', f_Ker_showRec lawN a b α = some (some (some v), α') ∧ lTI (k + 1) α' β') ∨ (fx_Ker_showRec a b α = 1 ∧ lTI (k + 1) α β')) := by
  obtain ⟨c, sz, h1, h2, h3, h4⟩ := h
  obtain ⟨v', β', e', r1⟩ := showRec_m (a := a) (b := b) lawN_4 h4
  have hl : lTI (k + 1) α β' := ⟨c, sz, h1, h2, by omega, r1⟩
  refine ⟨v', β', e', ?_⟩
  unfold fx_Ker_showRec
  by_cases c1 : a < 0
  · rw [if_pos c1]; exact Or.inr ⟨rfl, hl⟩
  rw [if_neg c1]
  by_cases c2 : f_Env_length α ≤ a
  · rw [if_pos c2]; exact Or.inr ⟨rfl, hl⟩
  rw [if_neg c2]
  by_cases c3 : f_Env_fact a 0 α = 3
  · rw [if_pos c3]
    by_cases c4 : b < 0
    · rw [if_pos c4]; exact Or.inr ⟨rfl, hl⟩
    rw [if_neg c4]
    by_cases c5 : 100 < b
    · rw [if_pos c5]; exact Or.inr ⟨rfl, hl⟩
    rw [if_neg c5]
    by_cases c6 : f_Env_allows a b α = 0
    · rw [if_pos c6]; exact Or.inr ⟨rfl, hl⟩
    · obtain ⟨v, γ, e, q1, q2⟩ := showRec_ok (N := lawN) (Nat.le_of_lt lawN_31) h1 c1 c2 c3 c4 c5 c6
      exact Or.inl ⟨v, γ, e, c, sz, q1, by rw [q2.row (by decide) (by decide)]; exact h2, by omega, r1⟩
  · rw [if_neg c3]; exact Or.inr ⟨rfl, hl⟩
theorem t_out (h : lTI k α β) (a : Int32) : ∃ v' β', f_Mod_out lawN a β = some (some (some v'), β') ∧ ((∃ v α', f_Ker_out lawN a α = some (some (some v), α') ∧ lTI (k + 1) α' β') ∨ (fx_Ker_out a α = 3 ∧ lTI (k + 1) α β')) := by
  obtain ⟨c, sz, h1, h2, h3, h4⟩ := h
  obtain ⟨v', β', e', r1⟩ := out_m (N := lawN) (a := a) h4
  have hl : lTI (k + 1) α β' := ⟨c, sz, h1, h2, by omega, r1⟩
  refine ⟨v', β', e', ?_⟩
  unfold fx_Ker_out f_Ker_out
  by_cases c1 : a < 0
  · rw [if_pos c1, if_pos c1]; exact Or.inr ⟨rfl, hl⟩
  rw [if_neg c1, if_neg c1]
  by_cases c2 : a < fR_size α 1
  · rw [if_pos c2]; exact Or.inl ⟨_, α, rfl, hl⟩
  · rw [if_neg c2, if_neg c2]; exact Or.inr ⟨rfl, hl⟩
end TURN
