-- the levels of FREE variables within a TERM
def FLn (α : kS) (y : Nat) : Nat → Nat → Prop
  | 0, _ => True
  | n + 1, t => (nK α t = 1 → ∃ l, tLf α t = nI l ∧ l < y) ∧ (5 ≤ nK α t → FLn α y n (lfN α t) ∧ FLn α y n (rtN α t))
/-- every FREE variable within t has a level below y -/
def FL (α : kS) (y t : Nat) : Prop := ∀ n, FLn α y n t
theorem FL_field {α : kS} {y : Nat} (hO : kOk α) (hW : tWf α) : ∀ (n t : Nat), t < tn α → FLn α 2047 n t → fN α t ≤ y → FLn α y n t
  | 0, _, _, _, _ => trivial
  | n + 1, t, ht, hF, hy => by
    refine ⟨fun h1 => ?_, fun h5 => ?_⟩
    · obtain ⟨l, e, hl⟩ := hF.1 h1
      have := (hW t ht).2.2.2.2.2.2.1 h1 l hl e
      exact ⟨l, e, by omega⟩
    · obtain ⟨e1, e2, hl, hr, -⟩ := partsN hO hW ht h5
      obtain ⟨a, b⟩ := (hW t ht).2.2.2.2.2.2.2 h5 _ _ hl hr e1 e2
      exact ⟨FL_field hO hW n _ (by omega) (hF.2 h5).1 (by omega), FL_field hO hW n _ (by omega) (hF.2 h5).2 (by omega)⟩
theorem FLn_up {α : kS} {y y' : Nat} (hy : y ≤ y') : ∀ (n t : Nat), FLn α y n t → FLn α y' n t
  | 0, _, _ => trivial
  | n + 1, t, h => ⟨fun h1 => by obtain ⟨l, e, hl⟩ := h.1 h1; exact ⟨l, e, by omega⟩, fun h5 => ⟨FLn_up hy n _ (h.2 h5).1, FLn_up hy n _ (h.2 h5).2⟩⟩
theorem FL.up {α : kS} {y y' t : Nat} (hy : y ≤ y') (h : FL α y t) : FL α y' t := fun n => FLn_up hy n t (h n)
theorem FLn_g {α β : kS} {y : Nat} (hO : kOk α) (hW : tWf α) (hg : grw α β) : ∀ (n t : Nat), t < tn α → (FLn β y n t ↔ FLn α y n t)
  | 0, _, _ => Iff.rfl
  | n + 1, t, ht => by
    unfold FLn
    rw [(g_n hg ht).1, (g_n hg ht).2.2.2.2.1, (g_lf hg ht).1, (g_lf hg ht).2]
    by_cases h5 : 5 ≤ nK α t
    · obtain ⟨-, -, hl, hr, -⟩ := partsN hO hW ht h5
      rw [FLn_g hO hW hg n _ (by omega), FLn_g hO hW hg n _ (by omega)]
    · exact ⟨fun z => ⟨z.1, fun q => absurd q h5⟩, fun z => ⟨z.1, fun q => absurd q h5⟩⟩
theorem FL.g {α β : kS} {y t : Nat} (hO : kOk α) (hW : tWf α) (hg : grw α β) (ht : t < tn α) (h : FL α y t) : FL β y t := fun n => (FLn_g hO hW hg n t ht).mpr (h n)
theorem FL_p {α : kS} {y t : Nat} (h : FL α y t) (h5 : 5 ≤ nK α t) : FL α y (lfN α t) ∧ FL α y (rtN α t) :=
  ⟨fun n => ((h (n + 1)).2 h5).1, fun n => ((h (n + 1)).2 h5).2⟩
theorem FL_mk {α : kS} {y t : Nat} (h5 : 5 ≤ nK α t) (hl : FL α y (lfN α t)) (hr : FL α y (rtN α t)) : FL α y t
  | 0 => trivial
  | n + 1 => ⟨fun h1 => by omega, fun _ => ⟨hl n, hr n⟩⟩
theorem FL_leaf {α : kS} {y t : Nat} (h5 : nK α t < 5) (h : nK α t = 1 → ∃ l, tLf α t = nI l ∧ l < y) : FL α y t
  | 0 => trivial
  | n + 1 => ⟨h, fun z => by omega⟩
/-- how rewriting moves the levels -/
def lvk (m : Nat) (key : Int32) (y y' : Nat) (β : kS) : Prop := (m ≤ 1 ∧ y' = y ∧ ∃ kk, key = nI kk ∧ kk < tn β ∧ FL β y kk) ∨ (m = 5 ∧ y' = y) ∨ (m = 2 ∧ key = nI y' ∧ y ≤ 2047 ∧ y' < 2 ^ 31)
theorem lvk.g {m : Nat} {key : Int32} {y y' : Nat} {α β : kS} (hO : kOk α) (hW : tWf α) (hg : grw α β) (h : lvk m key y y' α) : lvk m key y y' β := by
  rcases h with ⟨a, b, kk, c, d, e⟩ | h | h
  · exact Or.inl ⟨a, b, kk, c, Nat.lt_of_lt_of_le d hg.1, e.g hO hW hg d⟩
  · exact Or.inr (Or.inl h)
  · exact Or.inr (Or.inr h)
/-- a TERM with all levels below y -/
def FP (α : kS) (y : Nat) (p : Int32) : Prop := ∃ t, p = nI t ∧ t < tn α ∧ FL α y t
theorem FP.g {α β : kS} {y : Nat} {p : Int32} (hO : kOk α) (hW : tWf α) (hg : grw α β) (h : FP α y p) : FP β y p := by
  obtain ⟨t, e, ht, h⟩ := h
  exact ⟨t, e, Nat.lt_of_lt_of_le ht hg.1, h.g hO hW hg ht⟩
theorem FP.up {α : kS} {y y' : Nat} {p : Int32} (hy : y ≤ y') (h : FP α y p) : FP α y' p := by
  obtain ⟨t, e, ht, h⟩ := h
  exact ⟨t, e, ht, h.up hy⟩
def aF (α : kS) (y : Nat) (l : List Int32) : Prop := ∀ p, p ∈ l → FP α y p
theorem aF.g {α β : kS} {y : Nat} {l : List Int32} (hO : kOk α) (hW : tWf α) (hg : grw α β) (h : aF α y l) : aF β y l := fun p hp => (h p hp).g hO hW hg
/-- no FREE variable is among the first m TERMS -/
def NM (m : Nat) (α : kS) : Prop := ∀ i, i < m → nK α i ≠ 1
theorem NM.g {m : Nat} {α β : kS} (hm : m ≤ tn α) (hg : grw α β) (h : NM m α) : NM m β := fun i hi => by
  rw [(g_n hg (by omega)).1]
  exact h i hi
theorem NM_fl {m y : Nat} {α : kS} (hO : kOk α) (hW : tWf α) (hm : m ≤ tn α) (h : NM m α) : ∀ (n t : Nat), t < m → FLn α y n t
  | 0, _, _ => trivial
  | n + 1, t, ht => by
    refine ⟨fun h1 => absurd h1 (h t ht), fun h5 => ?_⟩
    obtain ⟨-, -, hl, hr, -⟩ := partsN hO hW (show t < tn α by omega) h5
    exact ⟨NM_fl hO hW hm h n _ (by omega), NM_fl hO hW hm h n _ (by omega)⟩
theorem NM.fp {m y t : Nat} {α : kS} (hO : kOk α) (hW : tWf α) (hm : m ≤ tn α) (h : NM m α) (ht : t < m) : FP α y (nI t) := ⟨t, rfl, by omega, fun n => NM_fl hO hW hm h n t ht⟩
