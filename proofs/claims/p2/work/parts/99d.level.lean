-- the levels of FREE variables within a TERM
def tFe (α : kS) (i : Nat) : Int32 := (((α.2.2.2.1 i).toUInt64 >>> ((39 : Int32).toInt64.toUInt64 &&& Int64.toUInt64 63)).toInt64).toInt32 &&& 2047
def fN (α : kS) (i : Nat) : Nat := (tFe α i).toNatClampNeg
/-- the free fields are never below the truth -/
def fF (α : kS) : Prop := ∀ i, i < tn α → (nK α i = 1 → ∃ l, tLf α i = nI l ∧ l < 2047 ∧ l < fN α i) ∧ (5 ≤ nK α i → fN α (lfN α i) ≤ fN α i ∧ fN α (rtN α i) ≤ fN α i)
def FLn (α : kS) (y : Nat) : Nat → Nat → Prop
  | 0, _ => True
  | n + 1, t => (nK α t = 1 → ∃ l, tLf α t = nI l ∧ l < y) ∧ (5 ≤ nK α t → FLn α y n (lfN α t) ∧ FLn α y n (rtN α t))
/-- every FREE variable within t has a level below y -/
def FL (α : kS) (y t : Nat) : Prop := ∀ n, FLn α y n t
theorem FL_field {α : kS} {y : Nat} (hO : kOk α) (hW : tWf α) (hF : fF α) : ∀ (n t : Nat), t < tn α → fN α t ≤ y → FLn α y n t
  | 0, _, _, _ => trivial
  | n + 1, t, ht, hy => by
    refine ⟨fun h1 => ?_, fun h5 => ?_⟩
    · obtain ⟨l, e, -, h⟩ := (hF t ht).1 h1
      exact ⟨l, e, by omega⟩
    · obtain ⟨-, -, hl, hr, -⟩ := partsN hO hW ht h5
      obtain ⟨a, b⟩ := (hF t ht).2 h5
      exact ⟨FL_field hO hW hF n _ (by omega) (by omega), FL_field hO hW hF n _ (by omega) (by omega)⟩
theorem FLn_0 {α : kS} : ∀ (n t : Nat), FLn α 0 n t → ¬ Fr α n t
  | 0, _, _ => fun z => z
  | n + 1, t, h => fun z => by
    rcases z with z | ⟨h5, z⟩
    · obtain ⟨l, -, hl⟩ := h.1 z
      omega
    · exact z.elim (FLn_0 n _ (h.2 h5).1) (FLn_0 n _ (h.2 h5).2)
theorem FL_0 {α : kS} {t : Nat} (h : FL α 0 t) : ¬ fr α t := fun ⟨n, z⟩ => FLn_0 n t (h n) z
theorem FLn_up {α : kS} {y y' : Nat} (hy : y ≤ y') : ∀ (n t : Nat), FLn α y n t → FLn α y' n t
  | 0, _, _ => trivial
  | n + 1, t, h => ⟨fun h1 => by obtain ⟨l, e, hl⟩ := h.1 h1; exact ⟨l, e, by omega⟩, fun h5 => ⟨FLn_up hy n _ (h.2 h5).1, FLn_up hy n _ (h.2 h5).2⟩⟩
theorem FL.up {α : kS} {y y' t : Nat} (hy : y ≤ y') (h : FL α y t) : FL α y' t := fun n => FLn_up hy n t (h n)
theorem FLn_fr {α : kS} {y : Nat} : ∀ (n t : Nat), ¬ fr α t → FLn α y n t
  | 0, _, _ => trivial
  | n + 1, t, h => ⟨fun h1 => absurd h1 (fr_1 h), fun h5 => ⟨FLn_fr n _ (fr_p h h5).1, FLn_fr n _ (fr_p h h5).2⟩⟩
theorem FL_fr {α : kS} {y t : Nat} (h : ¬ fr α t) : FL α y t := fun n => FLn_fr n t h
theorem FLn_g {α β : kS} {y : Nat} (hO : kOk α) (hW : tWf α) (hg : grw α β) : ∀ (n t : Nat), t < tn α → (FLn β y n t ↔ FLn α y n t)
  | 0, _, _ => Iff.rfl
  | n + 1, t, ht => by
    unfold FLn
    rw [(g_n hg ht).1, (g_n hg ht).2.2.2.2.1, (g_lf hg ht).1, (g_lf hg ht).2]
    by_cases h5 : 5 ≤ nK α t
    · obtain ⟨-, -, hl, hr, -⟩ := partsN hO hW ht h5
      rw [FLn_g hO hW hg n _ (by omega), FLn_g hO hW hg n _ (by omega)]
    · exact ⟨fun z => ⟨z.1, fun q => absurd q h5⟩, fun z => ⟨z.1, fun q => absurd q h5⟩⟩
theorem FL.g {α β : kS} {y t : Nat} (hO : kOk α) (hW : tWf α) (hg : grw α β) (ht : t < tn α) (h : FL α y t) : FL β y t := fun n => (FLn_g hO hW hg n t ht).mpr (h n)
theorem FL_p {α : kS} {y t : Nat} (h : FL α y t) (h5 : 5 ≤ nK α t) : FL α y (lfN α t) ∧ FL α y (rtN α t) :=
  ⟨fun n => ((h (n + 1)).2 h5).1, fun n => ((h (n + 1)).2 h5).2⟩
theorem FL_mk {α : kS} {y t : Nat} (h5 : 5 ≤ nK α t) (hl : FL α y (lfN α t)) (hr : FL α y (rtN α t)) : FL α y t
  | 0 => trivial
  | n + 1 => ⟨fun h1 => by omega, fun _ => ⟨hl n, hr n⟩⟩
theorem FL_leaf {α : kS} {y t : Nat} (h5 : nK α t < 5) (h : nK α t = 1 → ∃ l, tLf α t = nI l ∧ l < y) : FL α y t
  | 0 => trivial
  | n + 1 => ⟨h, fun z => by omega⟩
