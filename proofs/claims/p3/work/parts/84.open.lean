-- what the parser has open
abbrev O3 : Type := Int32 × Int32 × Int32
def fl3 (f : O3) : List Int32 := [f.1, f.2.1, f.2.2]
def flat3 : List O3 → List Int32
  | [] => []
  | f :: fs => flat3 fs ++ fl3 f
theorem flat3_len : ∀ fs, (flat3 fs).length = 3 * fs.length
  | [] => rfl
  | f :: fs => by
    show (flat3 fs ++ fl3 f).length = _
    rw [List.length_append, flat3_len fs]
    show 3 * fs.length + 3 = 3 * (fs.length + 1)
    omega
section OPEN
variable {K : Nat} {α : kS} {fs : List O3} {f : O3}
theorem op_len (h : tT K α) (v : α.2.1 8 = flat3 fs) : 3 * fs.length < 2 ^ 20 := by
  have h1 := row_sm h (r := 8) (by decide)
  rw [v, flat3_len] at h1
  exact h1
theorem op_ix (v : α.2.1 8 = flat3 (f :: fs)) {i : Nat} : (fR_size α 8 - 3) + nI i = nI (3 * fs.length + i) := by
  unfold fR_size
  rw [v, flat3_len, show nI (3 * (f :: fs).length) - 3 = nI (3 * (f :: fs).length - 3) from pk_sub (b := 3) (by show 3 ≤ 3 * (fs.length + 1); omega), nI_add]
  congr 1
theorem held_e (h : tT K α) (v : α.2.1 8 = flat3 (f :: fs)) {i : Nat} (hi : i < 3) : f_Par_held (nI i) α = (fl3 f).getD i 0 := by
  have h1 := op_len h v
  have h1 : 3 * (fs.length + 1) < 2 ^ 20 := h1
  unfold f_Par_held
  rw [op_ix v, at_e h (by decide) (by omega), v]
  show (flat3 fs ++ fl3 f).getD _ 0 = _
  rw [List.getD_eq_getElem?_getD, List.getD_eq_getElem?_getD, List.getElem?_append_right (by rw [flat3_len]; omega), flat3_len, Nat.add_sub_cancel_left]
theorem held0 (h : tT K α) (v : α.2.1 8 = flat3 (f :: fs)) : f_Par_held 0 α = f.1 := held_e h v (i := 0) (by decide)
theorem held1 (h : tT K α) (v : α.2.1 8 = flat3 (f :: fs)) : f_Par_held 1 α = f.2.1 := held_e h v (i := 1) (by decide)
theorem held2 (h : tT K α) (v : α.2.1 8 = flat3 (f :: fs)) : f_Par_held 2 α = f.2.2 := held_e h v (i := 2) (by decide)
theorem drop_e (h : tT K α) (v : α.2.1 8 = flat3 (f :: fs)) : ∃ β, f_Par_drop α = β ∧ tT K β ∧ ch [] [8] α β ∧ sT α β ∧ β.2.1 8 = flat3 fs := by
  have h1 : 3 * (fs.length + 1) < 2 ^ 20 := op_len h v
  have e : fR_size α 8 - 3 = nI (3 * fs.length) := by
    have := op_ix v (i := 0)
    rw [show nI 0 = (0 : Int32) from rfl, Int32.add_zero] at this
    exact this
  have hl : (α.2.1 8).length = 3 * fs.length + 3 := by rw [v, flat3_len]; show 3 * (fs.length + 1) = _; omega
  have ht : (α.2.1 8).take (3 * fs.length) = flat3 fs := by
    rw [v]
    show (flat3 fs ++ fl3 f).take _ = _
    rw [← flat3_len fs, List.take_left]
  refine ⟨kSl α 8 (flat3 fs), ?_, h.sl (by decide) ?_, ch.rs (by decide), ⟨rfl, rfl⟩, rfl⟩
  · unfold f_Par_drop
    rw [e, cut_e h (by decide) (by omega), ht]
  · rw [hl, flat3_len]; omega
theorem kMx8 : kMx 8 = 768 := by decide
theorem hold_e {N : Nat} (h : tT K α) (v : α.2.1 8 = flat3 fs) (hl : fs.length < 255) (a b d : Int32) : ∃ β, f_Par_hold N a b d α = some (some none, β) ∧ tT K β ∧ ch [] [8] α β ∧ sT α β ∧ β.2.1 8 = flat3 ((a, b, d) :: fs) := by
  have hL : (α.2.1 8).length = 3 * fs.length := by rw [v, flat3_len]
  obtain ⟨M1, e1, g1⟩ := push_t (r := 8) a h (by decide) (by rw [kMx8]; omega)
  obtain ⟨M2, e2, g2⟩ := push_t (r := 8) b g1 (by decide) (by rw [kMx8]; show (α.2.1 8 ++ [a]).length < _; rw [List.length_append]; show _ + 1 < _; omega)
  obtain ⟨M3, e3, g3⟩ := push_t (r := 8) d g2 (by decide) (by rw [kMx8]; show (α.2.1 8 ++ [a] ++ [b]).length < _; simp only [List.length_append, List.length_cons, List.length_nil]; omega)
  refine ⟨_, ?_, g3, ((ch.rs (by decide)).tr (ch.rs (by decide))).tr (ch.rs (by decide)), ⟨rfl, rfl⟩, ?_⟩
  · unfold f_Par_hold
    refine (psh rfl e1).trans ?_
    refine (psh rfl e2).trans ?_
    exact psh rfl e3
  · show α.2.1 8 ++ [a] ++ [b] ++ [d] = flat3 fs ++ fl3 (a, b, d)
    rw [v]
    simp [fl3]
end OPEN
-- what the frames count
def nsf (b : Bool) (o : Int32) : Nat := if o = 8 then (if b then 0 else 1) else if o = 5 ∨ o = 6 ∨ o = 7 ∨ o = 9 ∨ o = 10 ∨ o = 11 then 1 else 0
def ns : Bool → List O3 → Nat
  | _, [] => 0
  | b, f :: fs => nsf b f.1 + ns (decide (f.1 = 7)) fs
def sbf (f : O3) : Nat := if f.1 = 8 then f.2.2.toNatClampNeg else 0
def sb : List O3 → Nat
  | [] => 0
  | f :: fs => sbf f + sb fs
def spf (f : O3) : Nat := if f.1 = 7 then f.2.1.toNatClampNeg else 0
def sp : List O3 → Nat
  | [] => 0
  | f :: fs => spf f + sp fs
def acf (f : O3) : Nat := if f.1 = 6 ∨ f.1 = 11 then 1 else 0
def ac : List O3 → Nat
  | [] => 0
  | f :: fs => acf f + ac fs
/-- no frame that waits for PARAMETERS is on top -/
def nb0 (fs : List O3) : Prop := ∀ g, fs.head? = some g → g.1 = 8 → g.2.1 ≠ 0
/-- a frame of the op n on others -/
def pof (α : kS) (c n : Nat) (f : O3) (fs : List O3) : Prop := match n with
  | 5 => (f.2.1 = -1 ∨ qP α f.2.1) ∧ fs ≠ [] ∧ nb0 fs
  | 6 => qP α f.2.1 ∧ fs ≠ [] ∧ nb0 fs
  | 7 => (∃ k, f.2.1 = nI k ∧ k ≤ 3001) ∧ fs ≠ [] ∧ ∀ g, fs.head? = some g → g.1 = 8
  | 8 => (∃ k, f.2.2 = nI k ∧ k ≤ 3000) ∧ ((f.2.1 = 6 ∨ f.2.1 = 7) ∧ fs ≠ [] ∧ nb0 fs ∨ f.2.1 = 0 ∧ fs = [])
  | 9 => fs ≠ [] ∧ nb0 fs
  | 10 => qP α f.2.2 ∧ fs ≠ [] ∧ nb0 fs
  | 11 => (qP α f.2.1 ∧ qP α f.2.2) ∧ fs ≠ [] ∧ nb0 fs
  | 12 => fs = [] ∧ (α.1 19 = -1 ∨ f.2.1 = fc α (c - 1) 0)
  | 13 => fs = [] ∧ True
  | 14 => fs = [] ∧ True
  | 15 => fs = [] ∧ True
  | 16 => fs = [] ∧ ∃ k, f.2.1 = nI k ∧ k + 1 = c
  | _ => False
def po (α : kS) (c : Nat) : List O3 → Prop
  | [] => True
  | f :: fs => (∃ n, f.1 = nI n ∧ n ≤ 16 ∧ pof α c n f fs) ∧ po α c fs
theorem pof_g {α β : kS} {c n : Nat} {f : O3} {fs : List O3} (hn : n ≤ 16) (hg : grw α β) (e19 : β.1 19 = α.1 19) (ef : fc β (c - 1) 0 = fc α (c - 1) 0) (h : pof α c n f fs) : pof β c n f fs := by
  have : n = 0 ∨ n = 1 ∨ n = 2 ∨ n = 3 ∨ n = 4 ∨ n = 5 ∨ n = 6 ∨ n = 7 ∨ n = 8 ∨ n = 9 ∨ n = 10 ∨ n = 11 ∨ n = 12 ∨ n = 13 ∨ n = 14 ∨ n = 15 ∨ n = 16 := by omega
  rcases this with rfl | rfl | rfl | rfl | rfl | rfl | rfl | rfl | rfl | rfl | rfl | rfl | rfl | rfl | rfl | rfl | rfl
  · exact False.elim h
  · exact False.elim h
  · exact False.elim h
  · exact False.elim h
  · exact False.elim h
  · exact ⟨h.1.imp id (qP.g hg), h.2⟩
  · exact ⟨h.1.g hg, h.2⟩
  · exact ⟨h.1, h.2⟩
  · exact ⟨h.1, h.2⟩
  · exact ⟨h.1, h.2⟩
  · exact ⟨h.1.g hg, h.2⟩
  · exact ⟨⟨h.1.1.g hg, h.1.2.g hg⟩, h.2⟩
  · exact ⟨h.1, by rw [e19, ef]; exact h.2⟩
  · exact ⟨h.1, h.2⟩
  · exact ⟨h.1, h.2⟩
  · exact ⟨h.1, h.2⟩
  · exact ⟨h.1, h.2⟩
theorem po.g {α β : kS} {c : Nat} (hg : grw α β) (e19 : β.1 19 = α.1 19) (ef : fc β (c - 1) 0 = fc α (c - 1) 0) : ∀ (fs : List O3), po α c fs → po β c fs
  | [], _ => trivial
  | f :: fs, h => by
    obtain ⟨⟨n, h1, h2, h3⟩, h4⟩ := h
    exact ⟨⟨n, h1, h2, pof_g h2 hg e19 ef h3⟩, po.g hg e19 ef fs h4⟩
/-- frames are few -/
theorem ns_len {α : kS} {c : Nat} : ∀ (fs : List O3) (b : Bool), po α c fs → fs.length ≤ 2 * ns b fs + (if b then 1 else 0) + 1
  | [], b, _ => by show 0 ≤ _; omega
  | f :: fs, b, h => by
    obtain ⟨⟨n, h1, h2, h3⟩, h4⟩ := h
    have i1 := ns_len fs false h4
    have i2 := ns_len fs true h4
    have key : ∀ (x : Nat) (b' : Bool), nsf b f.1 = x → decide (f.1 = 7) = b' → (f :: fs).length ≤ 2 * (x + ns b' fs) + (if b then 1 else 0) + 1 → (f :: fs).length ≤ 2 * ns b (f :: fs) + (if b then 1 else 0) + 1 := fun x b' e1 e2 q => by
      show _ ≤ 2 * (nsf b f.1 + ns (decide (f.1 = 7)) fs) + _ + 1
      rw [e1, e2]
      exact q
    have L : (f :: fs).length = fs.length + 1 := rfl
    have : n = 0 ∨ n = 1 ∨ n = 2 ∨ n = 3 ∨ n = 4 ∨ n = 5 ∨ n = 6 ∨ n = 7 ∨ n = 8 ∨ n = 9 ∨ n = 10 ∨ n = 11 ∨ n = 12 ∨ n = 13 ∨ n = 14 ∨ n = 15 ∨ n = 16 := by omega
    have e7 : n ≠ 7 → n ≤ 16 → decide (f.1 = 7) = false := fun z _ => by rw [h1]; exact decide_eq_false (nI_ne (m := 7) (by omega) (by omega) z)
    have one : (n = 5 ∨ n = 6 ∨ n = 9 ∨ n = 10 ∨ n = 11) → (f :: fs).length ≤ 2 * ns b (f :: fs) + (if b then 1 else 0) + 1 := fun z => by
      refine key 1 false ?_ (e7 (by omega) h2) ?_
      · rw [h1]; rcases z with rfl | rfl | rfl | rfl | rfl <;> rfl
      · rw [L]; simp only [Bool.false_eq_true, if_false] at i1; omega
    have root : fs = [] → (f :: fs).length ≤ 2 * ns b (f :: fs) + (if b then 1 else 0) + 1 := fun z => by
      subst z
      show 1 ≤ _
      omega
    rcases this with rfl | rfl | rfl | rfl | rfl | rfl | rfl | rfl | rfl | rfl | rfl | rfl | rfl | rfl | rfl | rfl | rfl
    · exact False.elim h3
    · exact False.elim h3
    · exact False.elim h3
    · exact False.elim h3
    · exact False.elim h3
    · exact one (by omega)
    · exact one (by omega)
    · refine key 1 true ?_ ?_ ?_
      · rw [h1]; rfl
      · rw [h1]; rfl
      · rw [L]; simp only [if_true] at i2; omega
    · cases b with
      | false =>
        refine key 1 false ?_ (e7 (by omega) h2) ?_
        · rw [h1]; rfl
        · rw [L]; simp only [Bool.false_eq_true, if_false] at i1 ⊢; omega
      | true =>
        refine key 0 false ?_ (e7 (by omega) h2) ?_
        · rw [h1]; rfl
        · rw [L]; simp only [Bool.false_eq_true, if_false, if_true] at i1 ⊢; omega
    · exact one (by omega)
    · exact one (by omega)
    · exact one (by omega)
    · exact root h3.1
    · exact root h3.1
    · exact root h3.1
    · exact root h3.1
    · exact root h3.1
