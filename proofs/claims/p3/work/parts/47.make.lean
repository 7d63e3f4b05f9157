-- make: one TERM more
def tApp (γ : kS) (w : Int64) (l r : Int32) (s : Nat) : kS := kSA (kSi (kSA (kSA (kSA (kSI γ (vp_updL γ.2.2.2.1 (tn γ) w)) 0 (upd (γ.2.2.2.2 0) (tn γ) l)) 1 (upd (γ.2.2.2.2 1) (tn γ) r)) 2 (upd (γ.2.2.2.2 2) (tn γ) (γ.2.2.2.2 3 s))) 6 (nI (tn γ + 1))) 3 (upd (γ.2.2.2.2 3) s (nI (tn γ + 1)))
def tInfo (y8 y7 y6 y5 y1 : Int32) : Int64 := (((((y8).toInt64 <<< ((39 : Int32).toInt64 &&& 63)) ||| ((y7).toInt64 <<< ((26 : Int32).toInt64 &&& 63))) ||| ((y6).toInt64 <<< ((17 : Int32).toInt64 &&& 63))) ||| ((y5).toInt64 <<< ((4 : Int32).toInt64 &&& 63))) ||| (y1).toInt64
theorem j265_is {N s : Nat} {γ : kS} (h : tOk γ) (hlt : tn γ < γ.2.2.1 21) (y8 y7 y6 y5 y1 y2 y3 : Int32) (es : tSo (γ.2.2.1 25) y1 y2 y3 = nI s) (hs : s < γ.2.2.1 25) :
    f_Terms_make_j265 N y8 y7 y6 y5 y1 y2 y3 γ = some (some (some (nI (tn γ))), tApp γ (tInfo y8 y7 y6 y5 y1) y2 y3 s) := by
  obtain ⟨hO, ⟨r2, r3, r4, r5⟩, -⟩ := h
  obtain ⟨e6, h5, hrm⟩ := hO.n
  have h25 := hO.sm (r := 25) (by decide)
  have ec : (nI (tn γ)).toNatClampNeg = tn γ := nI_clamp (by omega)
  have es2 : (nI s).toNatClampNeg = s := nI_clamp (by omega)
  have ec1 : (nI (tn γ + 1)).toNatClampNeg = tn γ + 1 := nI_clamp (by omega)
  have a1 : ∀ (β : kS) (r : Nat), β.2.2.1 = γ.2.2.1 → tn γ < γ.2.2.1 r → ¬ (nI (tn γ) < 0 ∨ β.2.2.1 r ≤ (nI (tn γ)).toNatClampNeg) := fun β r e hr z => z.elim (nI_pos (by omega)) (by rw [ec, e]; omega)
  have a2 : ∀ β : kS, β.2.2.1 = γ.2.2.1 → ¬ (nI s < 0 ∨ β.2.2.1 25 ≤ (nI s).toNatClampNeg) := fun β e z => z.elim (nI_pos (by omega)) (by rw [es2, e]; omega)
  have a3 : ∀ β : kS, β.2.2.1 = γ.2.2.1 → kLn β (nI (tn γ + 1)) := fun β e => by
    unfold kLn
    rw [e, ec1]
    exact ⟨nI_pos (by omega), by omega, by omega, by omega, by omega, by omega⟩
  unfold f_Terms_make_j265
  rw [slot_is, es, e6]
  refine (if_neg ?_).trans ?_
  · exact a1 _ 21 rfl hlt
  refine (if_neg ?_).trans ?_
  · exact a1 _ 22 rfl (by omega)
  refine (if_neg ?_).trans ?_
  · exact a1 _ 23 rfl (by omega)
  refine (if_neg ?_).trans ?_
  · exact a2 _ rfl
  refine (if_neg ?_).trans ?_
  · exact a1 _ 24 rfl (by omega)
  rw [nI_1]
  refine (if_pos ?_).trans ?_
  · exact a3 _ rfl
  refine (if_neg ?_).trans ?_
  · exact a2 _ rfl
  rw [ec, es2, nI_pred]
  rfl
