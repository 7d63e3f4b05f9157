-- rows as lists: what the methods of Row do to any row of the kernel
def fR_size (α : kS) (r : Nat) : Int32 := nI (α.2.1 r).length
def fR_at (α : kS) (r : Nat) (i : Int32) : Int32 := if i < 0 ∨ nI (α.2.1 r).length ≤ i then 0 else (α.2.1 r).getD i.toNatClampNeg 0
def fR_put (α : kS) (r : Nat) (i v : Int32) : kS := if i < 0 ∨ nI (α.2.1 r).length ≤ i then α else kSl α r ((α.2.1 r).set i.toNatClampNeg v)
def fR_cut (α : kS) (r : Nat) (i : Int32) : kS := if i < 0 ∨ nI (α.2.1 r).length ≤ i then α else kSl α r ((α.2.1 r).take i.toNatClampNeg)
def fR_pop (α : kS) (r : Nat) : Int32 × kS := ((α.2.1 r).getLast?.getD 0, kSl α r (α.2.1 r).dropLast)
def fR_push (α : kS) (r : Nat) (v : Int32) : Option (kO × kS) :=
  if nI (α.2.1 r).length < kMost r then (if (α.2.1 r).length = α.2.2.1 r then (if 2 * α.2.2.1 r ≤ kMx r then some (some none, kRs α r (α.2.1 r ++ [v]) (2 * α.2.2.1 r)) else none) else some (some none, kSl α r (α.2.1 r ++ [v]))) else some (some none, α)
theorem kRs_id {α : kS} {r : Nat} : kRs α r (α.2.1 r) (α.2.2.1 r) = α := by
  unfold kRs
  rw [kup_id, kup_id]
theorem kMx_lt {r : Nat} (hr : r < 26) : kMx r < 2 ^ 20 := by
  have : ∀ r, r < 26 → kMx r < 2 ^ 20 := by decide +kernel
  exact this r hr
theorem kBase_16 {r : Nat} (hr : r < 26) : 16 ≤ kBase r := by
  have : ∀ r, r < 26 → 16 ≤ kBase r := by decide +kernel
  exact this r hr
theorem kOk.sm {α : kS} (h : kOk α) {r : Nat} (hr : r < 26) : α.2.2.1 r < 2 ^ 20 := Nat.lt_of_le_of_lt (h.mx hr) (kMx_lt hr)
theorem kOk.ge {α : kS} (h : kOk α) {r : Nat} (hr : r < 26) : 16 ≤ α.2.2.1 r := by
  obtain ⟨k, -, e⟩ := h.2.1 r hr
  rw [e]
  exact Nat.le_trans (kBase_16 hr) (Nat.le_mul_of_pos_right _ (Nat.pow_pos (by decide)))
theorem kOk.dbl {α : kS} (h : kOk α) {r : Nat} (hr : r < 26) (h2 : 2 * α.2.2.1 r ≤ kMx r) : ∃ k, k ≤ kK r ∧ 2 * α.2.2.1 r = kBase r * 2 ^ k := by
  obtain ⟨k, hk, e⟩ := h.2.1 r hr
  refine ⟨k + 1, ?_, by rw [e, Nat.pow_succ, Nat.mul_comm 2, Nat.mul_assoc]⟩
  rw [e] at h2
  unfold kMx at h2
  have h3 : kBase r * 2 ^ (k + 1) ≤ kBase r * 2 ^ kK r := by rw [Nat.pow_succ, ← Nat.mul_assoc, Nat.mul_comm _ 2]; exact h2
  have h4 := Nat.le_of_mul_le_mul_left h3 (Nat.lt_of_lt_of_le (by decide) (kBase_16 hr))
  exact (Nat.pow_le_pow_iff_right (by decide)).mp h4
theorem kOk.fits {α : kS} (h : kOk α) {r : Nat} (hr : r < 21) (h2 : 2 * α.2.2.1 r ≤ kMx r) : kF α + 2 * α.2.2.1 r ≤ kM := by
  have h1 : kOk (kRs α r [] (2 * α.2.2.1 r)) := kOk_rs hr h (Nat.zero_le _) (h.dbl (by omega) h2)
  have h3 := h1.F
  have h4 := kF_rs (α := α) (l := []) (N := 2 * α.2.2.1 r) hr
  omega
theorem kpush_in {L : List Int32} {f f1 : Nat → Int32} {v : Int32} (hz : ∀ (j : Nat) (w : Int32), L[j]? = some w → f j = w) (hf : ∀ j, j < L.length → f1 j = f j) (hv : f1 L.length = v) : ∀ (j : Nat) (w : Int32), (L ++ [v])[j]? = some w → f1 j = w := by
  intro j w h
  by_cases hj : j < L.length
  · rw [List.getElem?_append_left hj] at h
    rw [hf j hj]; exact hz j w h
  · rw [List.getElem?_append_right (by omega)] at h
    have hj2 : j = L.length := by
      have := (List.getElem?_eq_some_iff.mp h).1
      simp at this
      omega
    subst hj2
    simp at h
    rw [hv, h]
section KROW
variable {l : Launch} {g : kG} {α : kS} {r : Nat}
theorem k_Row_size (hr : r < 21) : kV l g y_Row_size b_Row_size 1 (some .int) 10 300 [.ref (kad g (11 + r))] α (fR_size α r) := by
  refine kl_read (ws := fun W1 => W1.take 1) (tys := []) hr (fun W1 k q h => ?_) (fun k q h => by simp at h) (fun q f hO hz => ?_)
  · rw [List.getElem?_take] at h
    by_cases hk : k < 1
    · rw [if_pos hk] at h; exact ⟨k, h⟩
    · rw [if_neg hk] at h; cases h
  · exact c_Row_size l g.1 g.2.1 (kad g (11 + r)) q (α.2.1 r).length (kMost r)
theorem k_Row_at (hr : r < 21) (i : Int32) : kV l g y_Row_at b_Row_at 2 (some .int) 10 300 [.ref (kad g (11 + r)), .int i] α (fR_at α r i) := by
  refine kl_read (ws := fun W1 => W1) (tys := [(kcI g, .int)]) hr (fun W1 k q h => ⟨k, h⟩) (fun k q h => ?_) (fun q f hO hz => ?_)
  · match k, h with
    | 0, h => exact ⟨0, h⟩
    | k + 1, h => simp at h
  · have h1 := hO.1 r hr
    have h2 := hO.sm (r := r) (by omega)
    have h3 := c_Row_at l g.1 g.2.1 (kad g (11 + r)) q (α.2.2.1 r) (α.2.1 r).length (kcI g) f (kMost r) h1 (by omega) i
    have e : rowAt f (α.2.1 r).length i = fR_at α r i := by
      unfold rowAt fR_at
      by_cases hi : i < 0 ∨ nI (α.2.1 r).length ≤ i
      · rw [if_pos hi, if_pos hi]
      · rw [if_neg hi, if_neg hi]
        obtain ⟨j, hj, hij, -, hcl⟩ := row_in h1 (by omega) (fun z => hi (Or.inl z)) (fun z => hi (Or.inr z))
        rw [hcl, List.getD_eq_getElem?_getD]
        have := hz j (α.2.1 r)[j] (List.getElem?_eq_getElem hj)
        rw [List.getElem?_eq_getElem hj, this]
        rfl
    rw [← e]
    exact h3
theorem k_Row_put (hr : r < 21) (i v : Int32) : kC l g y_Row_put b_Row_put 3 none 10 300 [.ref (kad g (11 + r)), .int i, .int v] α (kQr (some none, fR_put α r i v)) := by
  refine kl_row (rm := { frames := 10, cells := 0, slots := 0, locals := 300 }) hr (fun _ => ⟨Nat.le_refl _, Nat.zero_le _, Nat.zero_le _, Nat.le_refl _⟩) (fun q f sz hO hz => ?_)
  have h1 := hO.1 r hr
  have h2 := hO.sm (r := r) (by omega)
  refine ⟨_, vE_ofMet (c_Row_put l g.1 g.2.1 sz (kad g (11 + r)) q (α.2.2.1 r) (α.2.1 r).length (kcI g) f (kMost r) h1 (by omega) i v), ?_⟩
  rintro a st o t k n ⟨rfl, rfl, hret, hq⟩
  obtain ⟨⟨u, hv, -, hP, -, hD⟩, hF⟩ := hq
  subst hv
  unfold fR_put
  by_cases hi : i < 0 ∨ nI (α.2.1 r).length ≤ i
  · rw [if_pos hi]
    have e : rowPut f (α.2.1 r).length i v = f := if_pos hi
    rw [e] at hP hD
    exact ⟨none, α.2.1 r, α.2.2.1 r, q, f, rfl, ⟨kRs_id, rfl⟩, hP, hD, hz, h1, hO.2.1 r (by omega), by omega, by omega, fun _ => rfl⟩
  · rw [if_neg hi]
    have e : rowPut f (α.2.1 r).length i v = upd f i.toNatClampNeg v := if_neg hi
    rw [e] at hP hD
    obtain ⟨j, hj, hij, -, hcl⟩ := row_in h1 (by omega) (fun z => hi (Or.inl z)) (fun z => hi (Or.inr z))
    rw [hcl] at hP hD ⊢
    refine ⟨none, (α.2.1 r).set j v, α.2.2.1 r, q, upd f j v, rfl, ⟨rfl, rfl⟩, by rw [List.length_set]; exact hP, by rw [List.length_set]; exact hD, fun k w h => ?_, by rw [List.length_set]; exact h1, hO.2.1 r (by omega), by omega, by omega, fun _ => rfl⟩
    by_cases hk : k = j
    · subst hk
      rw [List.getElem?_set_self hj] at h
      rw [pk_us]; exact Option.some.inj h
    · rw [List.getElem?_set_ne (Ne.symm hk)] at h
      rw [pk_un hk]; exact hz k w h
theorem k_Row_cut (hr : r < 21) (i : Int32) : kC l g y_Row_cut b_Row_cut 2 none 10 300 [.ref (kad g (11 + r)), .int i] α (kQr (some none, fR_cut α r i)) := by
  refine kl_row (rm := { frames := 10, cells := 0, slots := 0, locals := 300 }) hr (fun _ => ⟨Nat.le_refl _, Nat.zero_le _, Nat.zero_le _, Nat.le_refl _⟩) (fun q f sz hO hz => ?_)
  have h1 := hO.1 r hr
  have h2 := hO.sm (r := r) (by omega)
  refine ⟨_, vE_ofMet (c_Row_cut l g.1 g.2.1 sz (kad g (11 + r)) q (α.2.2.1 r) (α.2.1 r).length (kcI g) f (kMost r) h1 (by omega) i), ?_⟩
  rintro a st o t k n ⟨rfl, rfl, hret, hq⟩
  obtain ⟨⟨u, hv, -, hP, -, hD⟩, hF⟩ := hq
  subst hv
  unfold fR_cut
  by_cases hi : i < 0 ∨ nI (α.2.1 r).length ≤ i
  · rw [if_pos hi]
    have e : rowCut (α.2.1 r).length i = (α.2.1 r).length := if_pos hi
    rw [e] at hP hD
    exact ⟨none, α.2.1 r, α.2.2.1 r, q, f, rfl, ⟨kRs_id, rfl⟩, hP, hD, hz, h1, hO.2.1 r (by omega), by omega, by omega, fun _ => rfl⟩
  · rw [if_neg hi]
    have e : rowCut (α.2.1 r).length i = i.toNatClampNeg := if_neg hi
    rw [e] at hP hD
    obtain ⟨j, hj, hij, -, hcl⟩ := row_in h1 (by omega) (fun z => hi (Or.inl z)) (fun z => hi (Or.inr z))
    rw [hcl] at hP hD ⊢
    have e2 : ((α.2.1 r).take j).length = j := by rw [List.length_take]; omega
    refine ⟨none, (α.2.1 r).take j, α.2.2.1 r, q, f, rfl, ⟨rfl, rfl⟩, by rw [e2]; exact hP, by rw [e2]; exact hD, fun k w h => ?_, by rw [e2]; omega, hO.2.1 r (by omega), by omega, by omega, fun _ => rfl⟩
    rw [List.getElem?_take] at h
    by_cases hk : k < j
    · rw [if_pos hk] at h; exact hz k w h
    · rw [if_neg hk] at h; cases h
theorem k_Row_pop (hr : r < 21) : kC l g y_Row_pop b_Row_pop 1 (some .int) 10 300 [.ref (kad g (11 + r))] α (kQr (some (some (fR_pop α r).1), (fR_pop α r).2)) := by
  refine kl_row (rm := { frames := 10, cells := 0, slots := 0, locals := 300 }) hr (fun _ => ⟨Nat.le_refl _, Nat.zero_le _, Nat.zero_le _, Nat.le_refl _⟩) (fun q f sz hO hz => ?_)
  have h1 := hO.1 r hr
  have h2 := hO.sm (r := r) (by omega)
  refine ⟨_, vE_ofMet (c_Row_pop l g.1 g.2.1 sz (kad g (11 + r)) q (α.2.2.1 r) (α.2.1 r).length (kcI g) f (kMost r) h1 (by omega)), ?_⟩
  rintro a st o t k n ⟨rfl, rfl, hret, hq⟩
  obtain ⟨⟨w, u, hv, hw, hP, -, hD⟩, hF⟩ := hq
  subst hv
  have e1 : (α.2.1 r).dropLast.length = (α.2.1 r).length - 1 := List.length_dropLast
  refine ⟨some (.int w), (α.2.1 r).dropLast, α.2.2.1 r, q, f, rfl, ⟨rfl, ?_⟩, by rw [e1]; exact hP, by rw [e1]; exact hD, fun k w h => ?_, by rw [e1]; omega, hO.2.1 r (by omega), by omega, by omega, fun _ => rfl⟩
  · show Outcome.returned (some (.int w)) = .returned (some (.int ((α.2.1 r).getLast?.getD 0)))
    rw [hw]
    by_cases h0 : (α.2.1 r).length = 0
    · rw [if_pos h0, List.eq_nil_of_length_eq_zero h0]; rfl
    · rw [if_neg h0, List.getLast?_eq_getElem?]
      have h9 : (α.2.1 r).length - 1 < (α.2.1 r).length := by omega
      rw [List.getElem?_eq_getElem h9, hz _ _ (List.getElem?_eq_getElem h9)]
      rfl
  · rw [List.getElem?_dropLast] at h
    by_cases hk : k < (α.2.1 r).length - 1
    · rw [if_pos hk] at h; exact hz k w h
    · rw [if_neg hk] at h; cases h
theorem k_Row_push (hr : r < 21) (v : Int32) : ∀ y1, fR_push α r v = some y1 → kC l g y_Row_push b_Row_push 2 none 30 900 [.ref (kad g (11 + r)), .int v] α (kQr y1) := by
  intro y1 hy
  unfold fR_push at hy
  by_cases hm : nI (α.2.1 r).length < kMost r
  · rw [if_pos hm] at hy
    by_cases hO : kOk α
    case neg =>
      intro A ad
      exact vE_use fun a st h => absurd h.2.2.1 hO
    have h1 := hO.1 r hr
    have h2 := hO.sm (r := r) (by omega)
    have h16 := hO.ge (r := r) (by omega)
    have hFm := hO.F
    by_cases hn : (α.2.1 r).length = α.2.2.1 r
    · rw [if_pos hn] at hy
      by_cases h3 : 2 * α.2.2.1 r ≤ kMx r
      · rw [if_pos h3] at hy
        cases hy
        have hfit := hO.fits hr h3
        refine kl_row (rm := { frames := 30, cells := 1, slots := 2 * α.2.2.1 r, locals := 900 }) hr (fun _ => ⟨Nat.le_refl _, by show 1 ≤ _; omega, by show 2 * α.2.2.1 r ≤ _; omega, Nat.le_refl _⟩) (fun q f sz hO hz => ?_)
        refine ⟨_, c_Row_pushG l g.1 g.2.1 sz (kad g (11 + r)) q (α.2.2.1 r) (α.2.1 r).length (kcI g) f (kMost r) v h1 (by omega) (by omega) hm hn, ?_⟩
        rintro a st o t k n ⟨rfl, rfl, rfl, q1, f1, hP, -, hD, hf, hv⟩
        have e1 : (α.2.1 r ++ [v]).length = (α.2.1 r).length + 1 := by simp
        exact ⟨none, α.2.1 r ++ [v], 2 * α.2.2.1 r, q1, f1, rfl, ⟨rfl, rfl⟩, by rw [e1]; exact hP, by rw [e1]; exact hD, kpush_in hz hf hv, by rw [e1]; omega, hO.dbl (by omega) h3, by omega, by omega, fun e => by omega⟩
      · rw [if_neg h3] at hy; cases hy
    · rw [if_neg hn] at hy
      cases hy
      refine kl_row (rm := { frames := 30, cells := 0, slots := 0, locals := 900 }) hr (fun _ => ⟨Nat.le_refl _, Nat.zero_le _, Nat.zero_le _, Nat.le_refl _⟩) (fun q f sz hO hz => ?_)
      refine ⟨_, c_Row_pushN l g.1 g.2.1 sz (kad g (11 + r)) q (α.2.2.1 r) (α.2.1 r).length (kcI g) f (kMost r) v h1 (by omega) (by omega) hm hn, ?_⟩
      rintro a st o t k n ⟨rfl, rfl, rfl, f1, hP, -, hD, hf, hv⟩
      have e1 : (α.2.1 r ++ [v]).length = (α.2.1 r).length + 1 := by simp
      exact ⟨none, α.2.1 r ++ [v], α.2.2.1 r, q, f1, rfl, ⟨rfl, rfl⟩, by rw [e1]; exact hP, by rw [e1]; exact hD, kpush_in hz hf hv, by rw [e1]; omega, hO.2.1 r (by omega), by omega, by omega, fun _ => rfl⟩
  · rw [if_neg hm] at hy
    cases hy
    refine kl_row (rm := { frames := 30, cells := 0, slots := 0, locals := 900 }) hr (fun _ => ⟨Nat.le_refl _, Nat.zero_le _, Nat.zero_le _, Nat.le_refl _⟩) (fun q f sz hO hz => ?_)
    refine ⟨_, vE_ofMet (c_Row_pushFull l g.1 g.2.1 sz (kad g (11 + r)) q (α.2.1 r).length (α.2.2.1 r) (kcI g) f (kMost r) v hm), ?_⟩
    rintro a st o t k n ⟨rfl, rfl, hret, hq⟩
    obtain ⟨⟨u, hv, -, hP, -, hD⟩, hF⟩ := hq
    subst hv
    exact ⟨none, α.2.1 r, α.2.2.1 r, q, f, rfl, ⟨kRs_id, rfl⟩, hP, hD, hz, hO.1 r hr, hO.2.1 r (by omega), by omega, by omega, fun _ => rfl⟩
end KROW
