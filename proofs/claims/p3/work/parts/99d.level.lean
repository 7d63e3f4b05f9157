-- no FREE variable, and levels
theorem FLn_0 {α : kS} : ∀ (n t : Nat), FLn α 0 n t → ¬ Fr α n t
  | 0, _, _ => fun z => z
  | n + 1, t, h => fun z => by
    rcases z with z | ⟨h5, z⟩
    · obtain ⟨l, -, hl⟩ := h.1 z
      omega
    · exact z.elim (FLn_0 n _ (h.2 h5).1) (FLn_0 n _ (h.2 h5).2)
theorem FL_0 {α : kS} {t : Nat} (h : FL α 0 t) : ¬ fr α t := fun ⟨n, z⟩ => FLn_0 n t (h n) z
theorem FLn_fr {α : kS} {y : Nat} : ∀ (n t : Nat), ¬ fr α t → FLn α y n t
  | 0, _, _ => trivial
  | n + 1, t, h => ⟨fun h1 => absurd h1 (fr_1 h), fun h5 => ⟨FLn_fr n _ (fr_p h h5).1, FLn_fr n _ (fr_p h h5).2⟩⟩
theorem FL_fr {α : kS} {y t : Nat} (h : ¬ fr α t) : FL α y t := fun n => FLn_fr n t h
/-- what is shown of a TERM evaluated has no FREE variable -/
theorem evh (N : Nat) : EVH N := fun c0 c K nb α0 α γ _ _ _ _ hW _ => by
  obtain ⟨j, e, hj, hF⟩ := hW.2.2.2.1 rfl
  exact ⟨j, e, hj, FL_0 hF⟩
