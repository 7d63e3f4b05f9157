-- what stands after a TERM was appended
theorem tPt.ext {γ β : kS} {n : Nat} (h : tPt γ n) (er : β.2.2.1 25 = γ.2.2.1 25) (e3 : β.2.2.2.2 3 = γ.2.2.2.2 3) (e2 : β.2.2.2.2 2 = γ.2.2.2.2 2) (hs : ∀ j, j < n → tSl β (γ.2.2.1 25) j = tSl γ (γ.2.2.1 25) j) : tPt β n := by
  unfold tPt
  rw [er, e3, e2]
  refine ⟨fun s hr => ?_, fun j hj => ?_⟩
  · rw [tLast_congr n hs]; exact h.1 s hr
  · rw [hs j hj, tLast_congr j (fun i hi => hs i (by omega))]; exact h.2 j hj
theorem tApp_ok {γ : kS} (h : tOk γ) (hlt : tn γ < γ.2.2.1 21) {w : Int64} {k l r : Int32} {s : Nat} (hw : w.toInt32 &&& 15 = k) (es : tSo (γ.2.2.1 25) k l r = nI s) (hs : s < γ.2.2.1 25) :
    tOk (tApp γ w l r s) ∧ tEx γ (tApp γ w l r s) ∧ tn (tApp γ w l r s) = tn γ + 1 ∧ (tApp γ w l r s).2.2.2.1 (tn γ) = w ∧ tLf (tApp γ w l r s) (tn γ) = l ∧ tRt (tApp γ w l r s) (tn γ) = r := by
  obtain ⟨hO, ⟨r2, r3, r4, r5⟩, hT⟩ := h
  obtain ⟨e6, h5, hrm⟩ := hO.n
  have h25 := hO.sm (r := 25) (by decide)
  have ec1 : (nI (tn γ + 1)).toNatClampNeg = tn γ + 1 := nI_clamp (by omega)
  have hn : tn (tApp γ w l r s) = tn γ + 1 := ec1
  have ei : ∀ i, i ≠ tn γ → (tApp γ w l r s).2.2.2.1 i = γ.2.2.2.1 i := fun i hi => if_neg hi
  have el : ∀ i, i ≠ tn γ → tLf (tApp γ w l r s) i = tLf γ i := fun i hi => pk_un hi
  have et : ∀ i, i ≠ tn γ → tRt (tApp γ w l r s) i = tRt γ i := fun i hi => pk_un hi
  have ei' : (tApp γ w l r s).2.2.2.1 (tn γ) = w := if_pos rfl
  have el' : tLf (tApp γ w l r s) (tn γ) = l := pk_us
  have et' : tRt (tApp γ w l r s) (tn γ) = r := pk_us
  have hsl : ∀ j, j ≠ tn γ → ∀ cap, tSl (tApp γ w l r s) cap j = tSl γ cap j := fun j hj cap => by
    unfold tSl tKd
    rw [ei j hj, el j hj, et j hj]
  have hsl' : tSl (tApp γ w l r s) (γ.2.2.1 25) (tn γ) = s := by
    unfold tSl tKd
    rw [ei', el', et', hw, es, nI_clamp (by omega)]
  have hp : tPt (kSA (kSA (kSI γ (vp_updL γ.2.2.2.1 (tn γ) w)) 0 (upd (γ.2.2.2.2 0) (tn γ) l)) 1 (upd (γ.2.2.2.2 1) (tn γ) r)) (tn γ) :=
    tPt.ext (γ := γ) hT rfl rfl rfl (fun j hj => hsl j (by omega) _)
  refine ⟨⟨⟨hO.1, hO.2.1, ?_, ?_⟩, ⟨r2, r3, r4, r5⟩, ?_⟩, ⟨fun k hk => kup_n hk, rfl, fun _ _ => rfl, by rw [hn]; omega, fun i hi => ⟨ei i (by omega), el i (by omega), et i (by omega)⟩⟩, hn, ei', el', et'⟩
  · show ¬ nI (tn γ + 1) < 0
    exact nI_pos (by omega)
  · intro r' a b
    show (nI (tn γ + 1)).toNatClampNeg ≤ γ.2.2.1 r'
    rw [ec1]
    have : r' = 21 ∨ r' = 22 ∨ r' = 23 ∨ r' = 24 ∨ r' = 25 := by omega
    rcases this with rfl | rfl | rfl | rfl | rfl <;> omega
  · have := hp.put (s := s) hsl' hs
    have h9 : tPt (tApp γ w l r s) (tn γ + 1) := this
    rw [← hn] at h9
    exact h9
