-- frames
abbrev F5 : Type := Int32 × Int32 × Int32 × Int32 × Int32
def fl5 (f : F5) : List Int32 := [f.1, f.2.1, f.2.2.1, f.2.2.2.1, f.2.2.2.2]
/-- the frames as they lie in the row, the newest first in the list -/
def flat : List F5 → List Int32
  | [] => []
  | f :: fs => flat fs ++ fl5 f
theorem flat_len : ∀ fs, (flat fs).length = 5 * fs.length
  | [] => rfl
  | f :: fs => by
    show (flat fs ++ fl5 f).length = _
    rw [List.length_append, flat_len fs]
    show 5 * fs.length + 5 = 5 * (fs.length + 1)
    omega
abbrev wk (α β : kS) : Prop := ch [2, 3, 4, 6, 100, 24] [2, 3, 4, 12, 13, 14] α β
/-- frames, types of VARIABLES, the answer -/
def vw (α : kS) (fs : List F5) (ty : List Int32) (r : Int32) : Prop := α.2.1 12 = flat fs ∧ α.2.1 13 = ty ∧ α.1 24 = r
theorem vw.ch {α β : kS} {fs : List F5} {ty : List Int32} {r : Int32} {I R : List Nat} (h : vw α fs ty r) (hc : ch I R α β) (h12 : 12 ∉ R) (h13 : 13 ∉ R) (h24 : 24 ∉ I) : vw β fs ty r :=
  ⟨(hc.row (by decide) h12).trans h.1, (hc.row (by decide) h13).trans h.2.1, (hc.int h24).trans h.2.2⟩
section FR
variable {K : Nat} {α : kS} {fs : List F5} {ty : List Int32} {r : Int32} {f : F5}
theorem fr_len (h : tT K α) (v : vw α fs ty r) : 5 * fs.length < 2 ^ 20 := by
  have h1 := row_sm h (r := 12) (by decide)
  rw [v.1, flat_len] at h1
  exact h1
theorem fr_ix (h : tT K α) (v : vw α (f :: fs) ty r) {i : Nat} (hi : i < 5) : (fR_size α 12 - 5) + nI i = nI (5 * fs.length + i) := by
  unfold fR_size
  rw [v.1, flat_len, show nI (5 * (f :: fs).length) - 5 = nI (5 * (f :: fs).length - 5) from pk_sub (b := 5) (by show 5 ≤ 5 * (fs.length + 1); omega), nI_add]
  congr 1
theorem top_e (h : tT K α) (v : vw α (f :: fs) ty r) {i : Nat} (hi : i < 5) : f_Fra_top (nI i) α = (fl5 f).getD i 0 := by
  have h1 := fr_len h v
  have h2 : 5 * fs.length < 2 ^ 20 := by have : (f :: fs).length = fs.length + 1 := rfl; omega
  unfold f_Fra_top
  rw [fr_ix h v hi, at_e h (by decide) (by omega), v.1]
  show (flat fs ++ fl5 f).getD _ 0 = _
  rw [List.getD_eq_getElem?_getD, List.getD_eq_getElem?_getD, List.getElem?_append_right (by rw [flat_len]; omega), flat_len, Nat.add_sub_cancel_left]
theorem top0 (h : tT K α) (v : vw α (f :: fs) ty r) : f_Fra_top 0 α = f.1 := top_e h v (i := 0) (by decide)
theorem top1 (h : tT K α) (v : vw α (f :: fs) ty r) : f_Fra_top 1 α = f.2.1 := top_e h v (i := 1) (by decide)
theorem top2 (h : tT K α) (v : vw α (f :: fs) ty r) : f_Fra_top 2 α = f.2.2.1 := top_e h v (i := 2) (by decide)
theorem top3 (h : tT K α) (v : vw α (f :: fs) ty r) : f_Fra_top 3 α = f.2.2.2.1 := top_e h v (i := 3) (by decide)
theorem top4 (h : tT K α) (v : vw α (f :: fs) ty r) : f_Fra_top 4 α = f.2.2.2.2 := top_e h v (i := 4) (by decide)
theorem set_e (h : tT K α) (v : vw α (f :: fs) ty r) {i : Nat} (hi : i < 5) (x : Int32) : f_Fra_set (nI i) x α = kSl α 12 (flat fs ++ (fl5 f).set i x) := by
  have h1 := fr_len h v
  have hl : (flat (f :: fs)).length = 5 * fs.length + 5 := by rw [flat_len]; show 5 * (fs.length + 1) = _; omega
  unfold f_Fra_set
  rw [fr_ix h v hi, put_e h (by decide) (by rw [v.1, hl]; omega), v.1]
  show kSl α 12 ((flat fs ++ fl5 f).set _ x) = _
  rw [List.set_append_right _ _ (by rw [flat_len]; omega), flat_len]
  congr 3
  omega
theorem set_ok (h : tT K α) (v : vw α (f :: fs) ty r) {i : Nat} (hi : i < 5) (x : Int32) {f' : F5} (e : (fl5 f).set i x = fl5 f') : ∃ β, f_Fra_set (nI i) x α = β ∧ tT K β ∧ wk α β ∧ vw β (f' :: fs) ty r := by
  refine ⟨_, set_e h v hi x, h.sl (by decide) ?_, ch.rs (by decide), ?_, v.2⟩
  · rw [v.1]
    show _ ≤ (flat fs ++ fl5 f).length
    rw [List.length_append, List.length_append, List.length_set]
    exact Nat.le_refl _
  · show flat fs ++ (fl5 f).set i x = flat fs ++ fl5 f'
    rw [e]
variable {o a b t d : Int32}
theorem set0 (h : tT K α) (v : vw α ((o, a, b, t, d) :: fs) ty r) (x : Int32) : ∃ β, f_Fra_set 0 x α = β ∧ tT K β ∧ wk α β ∧ vw β ((x, a, b, t, d) :: fs) ty r := set_ok h v (i := 0) (by decide) x rfl
theorem set1 (h : tT K α) (v : vw α ((o, a, b, t, d) :: fs) ty r) (x : Int32) : ∃ β, f_Fra_set 1 x α = β ∧ tT K β ∧ wk α β ∧ vw β ((o, x, b, t, d) :: fs) ty r := set_ok h v (i := 1) (by decide) x rfl
theorem set2 (h : tT K α) (v : vw α ((o, a, b, t, d) :: fs) ty r) (x : Int32) : ∃ β, f_Fra_set 2 x α = β ∧ tT K β ∧ wk α β ∧ vw β ((o, a, x, t, d) :: fs) ty r := set_ok h v (i := 2) (by decide) x rfl
theorem set3 (h : tT K α) (v : vw α ((o, a, b, t, d) :: fs) ty r) (x : Int32) : ∃ β, f_Fra_set 3 x α = β ∧ tT K β ∧ wk α β ∧ vw β ((o, a, b, x, d) :: fs) ty r := set_ok h v (i := 3) (by decide) x rfl
theorem fpop (h : tT K α) (v : vw α (f :: fs) ty r) : ∃ β, f_Fra_pop α = β ∧ tT K β ∧ wk α β ∧ vw β fs ty r := by
  have h1 := fr_len h v
  have e : fR_size α 12 - 5 = nI (5 * fs.length) := by
    have := fr_ix h v (i := 0) (by decide)
    rw [show nI 0 = (0 : Int32) from rfl, Int32.add_zero] at this
    exact this
  have hl : (α.2.1 12).length = 5 * fs.length + 5 := by rw [v.1, flat_len]; show 5 * (fs.length + 1) = _; omega
  have ht : (α.2.1 12).take (5 * fs.length) = flat fs := by
    rw [v.1]
    show (flat fs ++ fl5 f).take _ = _
    rw [← flat_len fs, List.take_left]
  refine ⟨kSl α 12 (flat fs), ?_, h.sl (by decide) ?_, ch.rs (by decide), rfl, v.2⟩
  · unfold f_Fra_pop
    rw [e, cut_e h (by decide) (by omega), ht]
  · rw [hl, flat_len]; omega
theorem fgive (h : tT K α) (v : vw α (f :: fs) ty r) (x : Int32) : ∃ β, f_Fra_give x α = β ∧ tT K β ∧ wk α β ∧ vw β fs ty x := by
  obtain ⟨β, e, t, w, v'⟩ := fpop (α := kSi α 24 x) (h.si (by decide)) (f := f) (fs := fs) (ty := ty) (r := x) ⟨v.1, v.2.1, rfl⟩
  exact ⟨β, e, t, (ch.si (by decide) (by decide)).tr w, v'⟩
theorem kMx12 : kMx 12 = 2560 := by decide
theorem kMx13 : kMx 13 = 1024 := by decide
theorem kMx14 : kMx 14 = 2048 := by decide
theorem fpush {N : Nat} (h : tT K α) (v : vw α fs ty r) (hl : fs.length < 512) (o a b d : Int32) : ∃ β, f_Fra_push N o a b d α = some (some none, β) ∧ tT K β ∧ wk α β ∧ vw β ((o, a, b, 0, d) :: fs) ty r := by
  have hL : (α.2.1 12).length = 5 * fs.length := by rw [v.1, flat_len]
  obtain ⟨M1, e1, g1⟩ := push_t (r := 12) o h (by decide) (by rw [kMx12]; omega)
  obtain ⟨M2, e2, g2⟩ := push_t (r := 12) a g1 (by decide) (by rw [kMx12]; show (α.2.1 12 ++ [o]).length < _; rw [List.length_append]; show _ + 1 < _; omega)
  obtain ⟨M3, e3, g3⟩ := push_t (r := 12) b g2 (by decide) (by rw [kMx12]; show (α.2.1 12 ++ [o] ++ [a]).length < _; simp only [List.length_append, List.length_cons, List.length_nil]; omega)
  obtain ⟨M4, e4, g4⟩ := push_t (r := 12) 0 g3 (by decide) (by rw [kMx12]; show (α.2.1 12 ++ [o] ++ [a] ++ [b]).length < _; simp only [List.length_append, List.length_cons, List.length_nil]; omega)
  obtain ⟨M5, e5, g5⟩ := push_t (r := 12) d g4 (by decide) (by rw [kMx12]; show (α.2.1 12 ++ [o] ++ [a] ++ [b] ++ [0]).length < _; simp only [List.length_append, List.length_cons, List.length_nil]; omega)
  refine ⟨_, ?_, g5, ((((ch.rs (by decide)).tr (ch.rs (by decide))).tr (ch.rs (by decide))).tr (ch.rs (by decide))).tr (ch.rs (by decide)), ?_, v.2⟩
  · unfold f_Fra_push
    refine (psh rfl e1).trans ?_
    refine (psh rfl e2).trans ?_
    refine (psh rfl e3).trans ?_
    refine (psh rfl e4).trans ?_
    exact psh rfl e5
  · show α.2.1 12 ++ [o] ++ [a] ++ [b] ++ [0] ++ [d] = flat fs ++ fl5 (o, a, b, 0, d)
    rw [v.1]
    simp [fl5]
theorem newvar {N : Nat} (h : tT K α) (v : vw α fs ty r) (hl : ty.length < 1024) (x : Int32) : ∃ β, f_Fra_newVariable N x α = some (some (some (nI ty.length)), β) ∧ tT K β ∧ wk α β ∧ vw β fs (ty ++ [x]) r := by
  obtain ⟨M1, e1, g1⟩ := push_t (r := 13) x h (by decide) (by rw [kMx13, v.2.1]; exact hl)
  refine ⟨_, ?_, g1, ch.rs (by decide), v.1, ?_, v.2.2⟩
  · unfold f_Fra_newVariable
    refine (psh rfl e1).trans ?_
    have : fR_size (kRs α 13 (α.2.1 13 ++ [x]) M1) 13 - 1 = nI ty.length := by
      show nI (α.2.1 13 ++ [x]).length - 1 = _
      rw [List.length_append, v.2.1]
      exact nI_pred _
    rw [this]
  · show α.2.1 13 ++ [x] = _
    rw [v.2.1]
theorem dropvar (h : tT K α) (v : vw α fs ty r) : ∃ β, f_Fra_dropVariable α = (nI (ty.length - 1), β) ∧ tT K β ∧ wk α β ∧ vw β fs ty.dropLast r := by
  refine ⟨kSl α 13 ty.dropLast, ?_, h.sl (by decide) ?_, ch.rs (by decide), v.1, rfl, v.2.2⟩
  · unfold f_Fra_dropVariable fR_pop
    rw [v.2.1]
    show (nI (ty.dropLast).length, _) = _
    rw [List.length_dropLast]
  · rw [v.2.1, List.length_dropLast]
    omega
end FR
