theorem kw_Terms_88 : kWv "FamilyKernel$Terms" 88 "FamilyKernel$Meter" y_Meter_fail b_Meter_fail 2 none 1 := ⟨vt_567, vt_406, vt_407, vt_13, vt_408, by decide, by decide, by decide +kernel⟩
theorem kw_Terms_94 : kWv "FamilyKernel$Terms" 94 "FamilyKernel$Terms" y_Terms_grow b_Terms_grow 4 none 0 := ⟨vt_568, vt_569, vt_570, vt_19, vt_571, by decide, by decide, by decide +kernel⟩
theorem kw_Terms_66 : kWv "FamilyKernel$Terms" 66 "FamilyKernel$Terms" y_Terms_size b_Terms_size 2 (some .int) 1 := ⟨vt_544, vt_545, vt_546, vt_19, vt_547, by decide, by decide, by decide +kernel⟩
theorem kw_Terms_69 : kWv "FamilyKernel$Terms" 69 "FamilyKernel$Terms" y_Terms_depth b_Terms_depth 2 (some .int) 1 := ⟨vt_548, vt_549, vt_550, vt_19, vt_551, by decide, by decide, by decide +kernel⟩
theorem kw_Terms_78 : kWv "FamilyKernel$Terms" 78 "FamilyKernel$Terms" y_Terms_loose b_Terms_loose 2 (some .int) 1 := ⟨vt_555, vt_556, vt_557, vt_19, vt_558, by decide, by decide, by decide +kernel⟩
theorem kw_Terms_81 : kWs "FamilyKernel$Terms" 81 y_Terms_binds b_Terms_binds 1 (some .int) 1 := ⟨vt_559, vt_560, vt_19, vt_561, by decide, by decide, by decide +kernel⟩
theorem kw_Terms_84 : kWv "FamilyKernel$Terms" 84 "FamilyKernel$Terms" y_Terms_free b_Terms_free 2 (some .int) 1 := ⟨vt_562, vt_563, vt_564, vt_19, vt_565, by decide, by decide, by decide +kernel⟩
def f_Terms_make_j265 (N : Nat)  (y8 : Int32) (y7 : Int32) (y6 : Int32) (y5 : Int32) (y1 : Int32) (y2 : Int32) (y3 : Int32) (γ : kS) : Option (kO × kS) := if (γ.1 6) < 0 ∨ γ.2.2.1 21 ≤ ((γ.1 6)).toNatClampNeg then none else (if (γ.1 6) < 0 ∨ (kSI γ (vp_updL γ.2.2.2.1 ((γ.1 6)).toNatClampNeg ((((((y8).toInt64 <<< ((39 : Int32).toInt64 &&& 63)) ||| ((y7).toInt64 <<< ((26 : Int32).toInt64 &&& 63))) ||| ((y6).toInt64 <<< ((17 : Int32).toInt64 &&& 63))) ||| ((y5).toInt64 <<< ((4 : Int32).toInt64 &&& 63))) ||| (y1).toInt64))).2.2.1 22 ≤ ((γ.1 6)).toNatClampNeg then none else (if (γ.1 6) < 0 ∨ (kSA (kSI γ (vp_updL γ.2.2.2.1 ((γ.1 6)).toNatClampNeg ((((((y8).toInt64 <<< ((39 : Int32).toInt64 &&& 63)) ||| ((y7).toInt64 <<< ((26 : Int32).toInt64 &&& 63))) ||| ((y6).toInt64 <<< ((17 : Int32).toInt64 &&& 63))) ||| ((y5).toInt64 <<< ((4 : Int32).toInt64 &&& 63))) ||| (y1).toInt64))) 0 (upd ((kSI γ (vp_updL γ.2.2.2.1 ((γ.1 6)).toNatClampNeg ((((((y8).toInt64 <<< ((39 : Int32).toInt64 &&& 63)) ||| ((y7).toInt64 <<< ((26 : Int32).toInt64 &&& 63))) ||| ((y6).toInt64 <<< ((17 : Int32).toInt64 &&& 63))) ||| ((y5).toInt64 <<< ((4 : Int32).toInt64 &&& 63))) ||| (y1).toInt64))).2.2.2.2 0) ((γ.1 6)).toNatClampNeg y2)).2.2.1 23 ≤ ((γ.1 6)).toNatClampNeg then none else (if (f_Terms_slot y1 y2 y3 γ) < 0 ∨ (kSA (kSA (kSI γ (vp_updL γ.2.2.2.1 ((γ.1 6)).toNatClampNeg ((((((y8).toInt64 <<< ((39 : Int32).toInt64 &&& 63)) ||| ((y7).toInt64 <<< ((26 : Int32).toInt64 &&& 63))) ||| ((y6).toInt64 <<< ((17 : Int32).toInt64 &&& 63))) ||| ((y5).toInt64 <<< ((4 : Int32).toInt64 &&& 63))) ||| (y1).toInt64))) 0 (upd ((kSI γ (vp_updL γ.2.2.2.1 ((γ.1 6)).toNatClampNeg ((((((y8).toInt64 <<< ((39 : Int32).toInt64 &&& 63)) ||| ((y7).toInt64 <<< ((26 : Int32).toInt64 &&& 63))) ||| ((y6).toInt64 <<< ((17 : Int32).toInt64 &&& 63))) ||| ((y5).toInt64 <<< ((4 : Int32).toInt64 &&& 63))) ||| (y1).toInt64))).2.2.2.2 0) ((γ.1 6)).toNatClampNeg y2)) 1 (upd ((kSA (kSI γ (vp_updL γ.2.2.2.1 ((γ.1 6)).toNatClampNeg ((((((y8).toInt64 <<< ((39 : Int32).toInt64 &&& 63)) ||| ((y7).toInt64 <<< ((26 : Int32).toInt64 &&& 63))) ||| ((y6).toInt64 <<< ((17 : Int32).toInt64 &&& 63))) ||| ((y5).toInt64 <<< ((4 : Int32).toInt64 &&& 63))) ||| (y1).toInt64))) 0 (upd ((kSI γ (vp_updL γ.2.2.2.1 ((γ.1 6)).toNatClampNeg ((((((y8).toInt64 <<< ((39 : Int32).toInt64 &&& 63)) ||| ((y7).toInt64 <<< ((26 : Int32).toInt64 &&& 63))) ||| ((y6).toInt64 <<< ((17 : Int32).toInt64 &&& 63))) ||| ((y5).toInt64 <<< ((4 : Int32).toInt64 &&& 63))) ||| (y1).toInt64))).2.2.2.2 0) ((γ.1 6)).toNatClampNeg y2)).2.2.2.2 1) ((γ.1 6)).toNatClampNeg y3)).2.2.1 25 ≤ ((f_Terms_slot y1 y2 y3 γ)).toNatClampNeg then none else (if (γ.1 6) < 0 ∨ (kSA (kSA (kSI γ (vp_updL γ.2.2.2.1 ((γ.1 6)).toNatClampNeg ((((((y8).toInt64 <<< ((39 : Int32).toInt64 &&& 63)) ||| ((y7).toInt64 <<< ((26 : Int32).toInt64 &&& 63))) ||| ((y6).toInt64 <<< ((17 : Int32).toInt64 &&& 63))) ||| ((y5).toInt64 <<< ((4 : Int32).toInt64 &&& 63))) ||| (y1).toInt64))) 0 (upd ((kSI γ (vp_updL γ.2.2.2.1 ((γ.1 6)).toNatClampNeg ((((((y8).toInt64 <<< ((39 : Int32).toInt64 &&& 63)) ||| ((y7).toInt64 <<< ((26 : Int32).toInt64 &&& 63))) ||| ((y6).toInt64 <<< ((17 : Int32).toInt64 &&& 63))) ||| ((y5).toInt64 <<< ((4 : Int32).toInt64 &&& 63))) ||| (y1).toInt64))).2.2.2.2 0) ((γ.1 6)).toNatClampNeg y2)) 1 (upd ((kSA (kSI γ (vp_updL γ.2.2.2.1 ((γ.1 6)).toNatClampNeg ((((((y8).toInt64 <<< ((39 : Int32).toInt64 &&& 63)) ||| ((y7).toInt64 <<< ((26 : Int32).toInt64 &&& 63))) ||| ((y6).toInt64 <<< ((17 : Int32).toInt64 &&& 63))) ||| ((y5).toInt64 <<< ((4 : Int32).toInt64 &&& 63))) ||| (y1).toInt64))) 0 (upd ((kSI γ (vp_updL γ.2.2.2.1 ((γ.1 6)).toNatClampNeg ((((((y8).toInt64 <<< ((39 : Int32).toInt64 &&& 63)) ||| ((y7).toInt64 <<< ((26 : Int32).toInt64 &&& 63))) ||| ((y6).toInt64 <<< ((17 : Int32).toInt64 &&& 63))) ||| ((y5).toInt64 <<< ((4 : Int32).toInt64 &&& 63))) ||| (y1).toInt64))).2.2.2.2 0) ((γ.1 6)).toNatClampNeg y2)).2.2.2.2 1) ((γ.1 6)).toNatClampNeg y3)).2.2.1 24 ≤ ((γ.1 6)).toNatClampNeg then none else (if kLn (kSA (kSA (kSA (kSI γ (vp_updL γ.2.2.2.1 ((γ.1 6)).toNatClampNeg ((((((y8).toInt64 <<< ((39 : Int32).toInt64 &&& 63)) ||| ((y7).toInt64 <<< ((26 : Int32).toInt64 &&& 63))) ||| ((y6).toInt64 <<< ((17 : Int32).toInt64 &&& 63))) ||| ((y5).toInt64 <<< ((4 : Int32).toInt64 &&& 63))) ||| (y1).toInt64))) 0 (upd ((kSI γ (vp_updL γ.2.2.2.1 ((γ.1 6)).toNatClampNeg ((((((y8).toInt64 <<< ((39 : Int32).toInt64 &&& 63)) ||| ((y7).toInt64 <<< ((26 : Int32).toInt64 &&& 63))) ||| ((y6).toInt64 <<< ((17 : Int32).toInt64 &&& 63))) ||| ((y5).toInt64 <<< ((4 : Int32).toInt64 &&& 63))) ||| (y1).toInt64))).2.2.2.2 0) ((γ.1 6)).toNatClampNeg y2)) 1 (upd ((kSA (kSI γ (vp_updL γ.2.2.2.1 ((γ.1 6)).toNatClampNeg ((((((y8).toInt64 <<< ((39 : Int32).toInt64 &&& 63)) ||| ((y7).toInt64 <<< ((26 : Int32).toInt64 &&& 63))) ||| ((y6).toInt64 <<< ((17 : Int32).toInt64 &&& 63))) ||| ((y5).toInt64 <<< ((4 : Int32).toInt64 &&& 63))) ||| (y1).toInt64))) 0 (upd ((kSI γ (vp_updL γ.2.2.2.1 ((γ.1 6)).toNatClampNeg ((((((y8).toInt64 <<< ((39 : Int32).toInt64 &&& 63)) ||| ((y7).toInt64 <<< ((26 : Int32).toInt64 &&& 63))) ||| ((y6).toInt64 <<< ((17 : Int32).toInt64 &&& 63))) ||| ((y5).toInt64 <<< ((4 : Int32).toInt64 &&& 63))) ||| (y1).toInt64))).2.2.2.2 0) ((γ.1 6)).toNatClampNeg y2)).2.2.2.2 1) ((γ.1 6)).toNatClampNeg y3)) 2 (upd ((kSA (kSA (kSI γ (vp_updL γ.2.2.2.1 ((γ.1 6)).toNatClampNeg ((((((y8).toInt64 <<< ((39 : Int32).toInt64 &&& 63)) ||| ((y7).toInt64 <<< ((26 : Int32).toInt64 &&& 63))) ||| ((y6).toInt64 <<< ((17 : Int32).toInt64 &&& 63))) ||| ((y5).toInt64 <<< ((4 : Int32).toInt64 &&& 63))) ||| (y1).toInt64))) 0 (upd ((kSI γ (vp_updL γ.2.2.2.1 ((γ.1 6)).toNatClampNeg ((((((y8).toInt64 <<< ((39 : Int32).toInt64 &&& 63)) ||| ((y7).toInt64 <<< ((26 : Int32).toInt64 &&& 63))) ||| ((y6).toInt64 <<< ((17 : Int32).toInt64 &&& 63))) ||| ((y5).toInt64 <<< ((4 : Int32).toInt64 &&& 63))) ||| (y1).toInt64))).2.2.2.2 0) ((γ.1 6)).toNatClampNeg y2)) 1 (upd ((kSA (kSI γ (vp_updL γ.2.2.2.1 ((γ.1 6)).toNatClampNeg ((((((y8).toInt64 <<< ((39 : Int32).toInt64 &&& 63)) ||| ((y7).toInt64 <<< ((26 : Int32).toInt64 &&& 63))) ||| ((y6).toInt64 <<< ((17 : Int32).toInt64 &&& 63))) ||| ((y5).toInt64 <<< ((4 : Int32).toInt64 &&& 63))) ||| (y1).toInt64))) 0 (upd ((kSI γ (vp_updL γ.2.2.2.1 ((γ.1 6)).toNatClampNeg ((((((y8).toInt64 <<< ((39 : Int32).toInt64 &&& 63)) ||| ((y7).toInt64 <<< ((26 : Int32).toInt64 &&& 63))) ||| ((y6).toInt64 <<< ((17 : Int32).toInt64 &&& 63))) ||| ((y5).toInt64 <<< ((4 : Int32).toInt64 &&& 63))) ||| (y1).toInt64))).2.2.2.2 0) ((γ.1 6)).toNatClampNeg y2)).2.2.2.2 1) ((γ.1 6)).toNatClampNeg y3)).2.2.2.2 2) ((γ.1 6)).toNatClampNeg ((kSA (kSA (kSI γ (vp_updL γ.2.2.2.1 ((γ.1 6)).toNatClampNeg ((((((y8).toInt64 <<< ((39 : Int32).toInt64 &&& 63)) ||| ((y7).toInt64 <<< ((26 : Int32).toInt64 &&& 63))) ||| ((y6).toInt64 <<< ((17 : Int32).toInt64 &&& 63))) ||| ((y5).toInt64 <<< ((4 : Int32).toInt64 &&& 63))) ||| (y1).toInt64))) 0 (upd ((kSI γ (vp_updL γ.2.2.2.1 ((γ.1 6)).toNatClampNeg ((((((y8).toInt64 <<< ((39 : Int32).toInt64 &&& 63)) ||| ((y7).toInt64 <<< ((26 : Int32).toInt64 &&& 63))) ||| ((y6).toInt64 <<< ((17 : Int32).toInt64 &&& 63))) ||| ((y5).toInt64 <<< ((4 : Int32).toInt64 &&& 63))) ||| (y1).toInt64))).2.2.2.2 0) ((γ.1 6)).toNatClampNeg y2)) 1 (upd ((kSA (kSI γ (vp_updL γ.2.2.2.1 ((γ.1 6)).toNatClampNeg ((((((y8).toInt64 <<< ((39 : Int32).toInt64 &&& 63)) ||| ((y7).toInt64 <<< ((26 : Int32).toInt64 &&& 63))) ||| ((y6).toInt64 <<< ((17 : Int32).toInt64 &&& 63))) ||| ((y5).toInt64 <<< ((4 : Int32).toInt64 &&& 63))) ||| (y1).toInt64))) 0 (upd ((kSI γ (vp_updL γ.2.2.2.1 ((γ.1 6)).toNatClampNeg ((((((y8).toInt64 <<< ((39 : Int32).toInt64 &&& 63)) ||| ((y7).toInt64 <<< ((26 : Int32).toInt64 &&& 63))) ||| ((y6).toInt64 <<< ((17 : Int32).toInt64 &&& 63))) ||| ((y5).toInt64 <<< ((4 : Int32).toInt64 &&& 63))) ||| (y1).toInt64))).2.2.2.2 0) ((γ.1 6)).toNatClampNeg y2)).2.2.2.2 1) ((γ.1 6)).toNatClampNeg y3)).2.2.2.2 3 ((f_Terms_slot y1 y2 y3 γ)).toNatClampNeg))) ((γ.1 6) + 1) then (if (f_Terms_slot y1 y2 y3 γ) < 0 ∨ (kSi (kSA (kSA (kSA (kSI γ (vp_updL γ.2.2.2.1 ((γ.1 6)).toNatClampNeg ((((((y8).toInt64 <<< ((39 : Int32).toInt64 &&& 63)) ||| ((y7).toInt64 <<< ((26 : Int32).toInt64 &&& 63))) ||| ((y6).toInt64 <<< ((17 : Int32).toInt64 &&& 63))) ||| ((y5).toInt64 <<< ((4 : Int32).toInt64 &&& 63))) ||| (y1).toInt64))) 0 (upd ((kSI γ (vp_updL γ.2.2.2.1 ((γ.1 6)).toNatClampNeg ((((((y8).toInt64 <<< ((39 : Int32).toInt64 &&& 63)) ||| ((y7).toInt64 <<< ((26 : Int32).toInt64 &&& 63))) ||| ((y6).toInt64 <<< ((17 : Int32).toInt64 &&& 63))) ||| ((y5).toInt64 <<< ((4 : Int32).toInt64 &&& 63))) ||| (y1).toInt64))).2.2.2.2 0) ((γ.1 6)).toNatClampNeg y2)) 1 (upd ((kSA (kSI γ (vp_updL γ.2.2.2.1 ((γ.1 6)).toNatClampNeg ((((((y8).toInt64 <<< ((39 : Int32).toInt64 &&& 63)) ||| ((y7).toInt64 <<< ((26 : Int32).toInt64 &&& 63))) ||| ((y6).toInt64 <<< ((17 : Int32).toInt64 &&& 63))) ||| ((y5).toInt64 <<< ((4 : Int32).toInt64 &&& 63))) ||| (y1).toInt64))) 0 (upd ((kSI γ (vp_updL γ.2.2.2.1 ((γ.1 6)).toNatClampNeg ((((((y8).toInt64 <<< ((39 : Int32).toInt64 &&& 63)) ||| ((y7).toInt64 <<< ((26 : Int32).toInt64 &&& 63))) ||| ((y6).toInt64 <<< ((17 : Int32).toInt64 &&& 63))) ||| ((y5).toInt64 <<< ((4 : Int32).toInt64 &&& 63))) ||| (y1).toInt64))).2.2.2.2 0) ((γ.1 6)).toNatClampNeg y2)).2.2.2.2 1) ((γ.1 6)).toNatClampNeg y3)) 2 (upd ((kSA (kSA (kSI γ (vp_updL γ.2.2.2.1 ((γ.1 6)).toNatClampNeg ((((((y8).toInt64 <<< ((39 : Int32).toInt64 &&& 63)) ||| ((y7).toInt64 <<< ((26 : Int32).toInt64 &&& 63))) ||| ((y6).toInt64 <<< ((17 : Int32).toInt64 &&& 63))) ||| ((y5).toInt64 <<< ((4 : Int32).toInt64 &&& 63))) ||| (y1).toInt64))) 0 (upd ((kSI γ (vp_updL γ.2.2.2.1 ((γ.1 6)).toNatClampNeg ((((((y8).toInt64 <<< ((39 : Int32).toInt64 &&& 63)) ||| ((y7).toInt64 <<< ((26 : Int32).toInt64 &&& 63))) ||| ((y6).toInt64 <<< ((17 : Int32).toInt64 &&& 63))) ||| ((y5).toInt64 <<< ((4 : Int32).toInt64 &&& 63))) ||| (y1).toInt64))).2.2.2.2 0) ((γ.1 6)).toNatClampNeg y2)) 1 (upd ((kSA (kSI γ (vp_updL γ.2.2.2.1 ((γ.1 6)).toNatClampNeg ((((((y8).toInt64 <<< ((39 : Int32).toInt64 &&& 63)) ||| ((y7).toInt64 <<< ((26 : Int32).toInt64 &&& 63))) ||| ((y6).toInt64 <<< ((17 : Int32).toInt64 &&& 63))) ||| ((y5).toInt64 <<< ((4 : Int32).toInt64 &&& 63))) ||| (y1).toInt64))) 0 (upd ((kSI γ (vp_updL γ.2.2.2.1 ((γ.1 6)).toNatClampNeg ((((((y8).toInt64 <<< ((39 : Int32).toInt64 &&& 63)) ||| ((y7).toInt64 <<< ((26 : Int32).toInt64 &&& 63))) ||| ((y6).toInt64 <<< ((17 : Int32).toInt64 &&& 63))) ||| ((y5).toInt64 <<< ((4 : Int32).toInt64 &&& 63))) ||| (y1).toInt64))).2.2.2.2 0) ((γ.1 6)).toNatClampNeg y2)).2.2.2.2 1) ((γ.1 6)).toNatClampNeg y3)).2.2.2.2 2) ((γ.1 6)).toNatClampNeg ((kSA (kSA (kSI γ (vp_updL γ.2.2.2.1 ((γ.1 6)).toNatClampNeg ((((((y8).toInt64 <<< ((39 : Int32).toInt64 &&& 63)) ||| ((y7).toInt64 <<< ((26 : Int32).toInt64 &&& 63))) ||| ((y6).toInt64 <<< ((17 : Int32).toInt64 &&& 63))) ||| ((y5).toInt64 <<< ((4 : Int32).toInt64 &&& 63))) ||| (y1).toInt64))) 0 (upd ((kSI γ (vp_updL γ.2.2.2.1 ((γ.1 6)).toNatClampNeg ((((((y8).toInt64 <<< ((39 : Int32).toInt64 &&& 63)) ||| ((y7).toInt64 <<< ((26 : Int32).toInt64 &&& 63))) ||| ((y6).toInt64 <<< ((17 : Int32).toInt64 &&& 63))) ||| ((y5).toInt64 <<< ((4 : Int32).toInt64 &&& 63))) ||| (y1).toInt64))).2.2.2.2 0) ((γ.1 6)).toNatClampNeg y2)) 1 (upd ((kSA (kSI γ (vp_updL γ.2.2.2.1 ((γ.1 6)).toNatClampNeg ((((((y8).toInt64 <<< ((39 : Int32).toInt64 &&& 63)) ||| ((y7).toInt64 <<< ((26 : Int32).toInt64 &&& 63))) ||| ((y6).toInt64 <<< ((17 : Int32).toInt64 &&& 63))) ||| ((y5).toInt64 <<< ((4 : Int32).toInt64 &&& 63))) ||| (y1).toInt64))) 0 (upd ((kSI γ (vp_updL γ.2.2.2.1 ((γ.1 6)).toNatClampNeg ((((((y8).toInt64 <<< ((39 : Int32).toInt64 &&& 63)) ||| ((y7).toInt64 <<< ((26 : Int32).toInt64 &&& 63))) ||| ((y6).toInt64 <<< ((17 : Int32).toInt64 &&& 63))) ||| ((y5).toInt64 <<< ((4 : Int32).toInt64 &&& 63))) ||| (y1).toInt64))).2.2.2.2 0) ((γ.1 6)).toNatClampNeg y2)).2.2.2.2 1) ((γ.1 6)).toNatClampNeg y3)).2.2.2.2 3 ((f_Terms_slot y1 y2 y3 γ)).toNatClampNeg))) 6 ((γ.1 6) + 1)).2.2.1 25 ≤ ((f_Terms_slot y1 y2 y3 γ)).toNatClampNeg then none else (some (some (some (((γ.1 6) + 1) - 1)), (kSA (kSi (kSA (kSA (kSA (kSI γ (vp_updL γ.2.2.2.1 ((γ.1 6)).toNatClampNeg ((((((y8).toInt64 <<< ((39 : Int32).toInt64 &&& 63)) ||| ((y7).toInt64 <<< ((26 : Int32).toInt64 &&& 63))) ||| ((y6).toInt64 <<< ((17 : Int32).toInt64 &&& 63))) ||| ((y5).toInt64 <<< ((4 : Int32).toInt64 &&& 63))) ||| (y1).toInt64))) 0 (upd ((kSI γ (vp_updL γ.2.2.2.1 ((γ.1 6)).toNatClampNeg ((((((y8).toInt64 <<< ((39 : Int32).toInt64 &&& 63)) ||| ((y7).toInt64 <<< ((26 : Int32).toInt64 &&& 63))) ||| ((y6).toInt64 <<< ((17 : Int32).toInt64 &&& 63))) ||| ((y5).toInt64 <<< ((4 : Int32).toInt64 &&& 63))) ||| (y1).toInt64))).2.2.2.2 0) ((γ.1 6)).toNatClampNeg y2)) 1 (upd ((kSA (kSI γ (vp_updL γ.2.2.2.1 ((γ.1 6)).toNatClampNeg ((((((y8).toInt64 <<< ((39 : Int32).toInt64 &&& 63)) ||| ((y7).toInt64 <<< ((26 : Int32).toInt64 &&& 63))) ||| ((y6).toInt64 <<< ((17 : Int32).toInt64 &&& 63))) ||| ((y5).toInt64 <<< ((4 : Int32).toInt64 &&& 63))) ||| (y1).toInt64))) 0 (upd ((kSI γ (vp_updL γ.2.2.2.1 ((γ.1 6)).toNatClampNeg ((((((y8).toInt64 <<< ((39 : Int32).toInt64 &&& 63)) ||| ((y7).toInt64 <<< ((26 : Int32).toInt64 &&& 63))) ||| ((y6).toInt64 <<< ((17 : Int32).toInt64 &&& 63))) ||| ((y5).toInt64 <<< ((4 : Int32).toInt64 &&& 63))) ||| (y1).toInt64))).2.2.2.2 0) ((γ.1 6)).toNatClampNeg y2)).2.2.2.2 1) ((γ.1 6)).toNatClampNeg y3)) 2 (upd ((kSA (kSA (kSI γ (vp_updL γ.2.2.2.1 ((γ.1 6)).toNatClampNeg ((((((y8).toInt64 <<< ((39 : Int32).toInt64 &&& 63)) ||| ((y7).toInt64 <<< ((26 : Int32).toInt64 &&& 63))) ||| ((y6).toInt64 <<< ((17 : Int32).toInt64 &&& 63))) ||| ((y5).toInt64 <<< ((4 : Int32).toInt64 &&& 63))) ||| (y1).toInt64))) 0 (upd ((kSI γ (vp_updL γ.2.2.2.1 ((γ.1 6)).toNatClampNeg ((((((y8).toInt64 <<< ((39 : Int32).toInt64 &&& 63)) ||| ((y7).toInt64 <<< ((26 : Int32).toInt64 &&& 63))) ||| ((y6).toInt64 <<< ((17 : Int32).toInt64 &&& 63))) ||| ((y5).toInt64 <<< ((4 : Int32).toInt64 &&& 63))) ||| (y1).toInt64))).2.2.2.2 0) ((γ.1 6)).toNatClampNeg y2)) 1 (upd ((kSA (kSI γ (vp_updL γ.2.2.2.1 ((γ.1 6)).toNatClampNeg ((((((y8).toInt64 <<< ((39 : Int32).toInt64 &&& 63)) ||| ((y7).toInt64 <<< ((26 : Int32).toInt64 &&& 63))) ||| ((y6).toInt64 <<< ((17 : Int32).toInt64 &&& 63))) ||| ((y5).toInt64 <<< ((4 : Int32).toInt64 &&& 63))) ||| (y1).toInt64))) 0 (upd ((kSI γ (vp_updL γ.2.2.2.1 ((γ.1 6)).toNatClampNeg ((((((y8).toInt64 <<< ((39 : Int32).toInt64 &&& 63)) ||| ((y7).toInt64 <<< ((26 : Int32).toInt64 &&& 63))) ||| ((y6).toInt64 <<< ((17 : Int32).toInt64 &&& 63))) ||| ((y5).toInt64 <<< ((4 : Int32).toInt64 &&& 63))) ||| (y1).toInt64))).2.2.2.2 0) ((γ.1 6)).toNatClampNeg y2)).2.2.2.2 1) ((γ.1 6)).toNatClampNeg y3)).2.2.2.2 2) ((γ.1 6)).toNatClampNeg ((kSA (kSA (kSI γ (vp_updL γ.2.2.2.1 ((γ.1 6)).toNatClampNeg ((((((y8).toInt64 <<< ((39 : Int32).toInt64 &&& 63)) ||| ((y7).toInt64 <<< ((26 : Int32).toInt64 &&& 63))) ||| ((y6).toInt64 <<< ((17 : Int32).toInt64 &&& 63))) ||| ((y5).toInt64 <<< ((4 : Int32).toInt64 &&& 63))) ||| (y1).toInt64))) 0 (upd ((kSI γ (vp_updL γ.2.2.2.1 ((γ.1 6)).toNatClampNeg ((((((y8).toInt64 <<< ((39 : Int32).toInt64 &&& 63)) ||| ((y7).toInt64 <<< ((26 : Int32).toInt64 &&& 63))) ||| ((y6).toInt64 <<< ((17 : Int32).toInt64 &&& 63))) ||| ((y5).toInt64 <<< ((4 : Int32).toInt64 &&& 63))) ||| (y1).toInt64))).2.2.2.2 0) ((γ.1 6)).toNatClampNeg y2)) 1 (upd ((kSA (kSI γ (vp_updL γ.2.2.2.1 ((γ.1 6)).toNatClampNeg ((((((y8).toInt64 <<< ((39 : Int32).toInt64 &&& 63)) ||| ((y7).toInt64 <<< ((26 : Int32).toInt64 &&& 63))) ||| ((y6).toInt64 <<< ((17 : Int32).toInt64 &&& 63))) ||| ((y5).toInt64 <<< ((4 : Int32).toInt64 &&& 63))) ||| (y1).toInt64))) 0 (upd ((kSI γ (vp_updL γ.2.2.2.1 ((γ.1 6)).toNatClampNeg ((((((y8).toInt64 <<< ((39 : Int32).toInt64 &&& 63)) ||| ((y7).toInt64 <<< ((26 : Int32).toInt64 &&& 63))) ||| ((y6).toInt64 <<< ((17 : Int32).toInt64 &&& 63))) ||| ((y5).toInt64 <<< ((4 : Int32).toInt64 &&& 63))) ||| (y1).toInt64))).2.2.2.2 0) ((γ.1 6)).toNatClampNeg y2)).2.2.2.2 1) ((γ.1 6)).toNatClampNeg y3)).2.2.2.2 3 ((f_Terms_slot y1 y2 y3 γ)).toNatClampNeg))) 6 ((γ.1 6) + 1)) 3 (upd ((kSi (kSA (kSA (kSA (kSI γ (vp_updL γ.2.2.2.1 ((γ.1 6)).toNatClampNeg ((((((y8).toInt64 <<< ((39 : Int32).toInt64 &&& 63)) ||| ((y7).toInt64 <<< ((26 : Int32).toInt64 &&& 63))) ||| ((y6).toInt64 <<< ((17 : Int32).toInt64 &&& 63))) ||| ((y5).toInt64 <<< ((4 : Int32).toInt64 &&& 63))) ||| (y1).toInt64))) 0 (upd ((kSI γ (vp_updL γ.2.2.2.1 ((γ.1 6)).toNatClampNeg ((((((y8).toInt64 <<< ((39 : Int32).toInt64 &&& 63)) ||| ((y7).toInt64 <<< ((26 : Int32).toInt64 &&& 63))) ||| ((y6).toInt64 <<< ((17 : Int32).toInt64 &&& 63))) ||| ((y5).toInt64 <<< ((4 : Int32).toInt64 &&& 63))) ||| (y1).toInt64))).2.2.2.2 0) ((γ.1 6)).toNatClampNeg y2)) 1 (upd ((kSA (kSI γ (vp_updL γ.2.2.2.1 ((γ.1 6)).toNatClampNeg ((((((y8).toInt64 <<< ((39 : Int32).toInt64 &&& 63)) ||| ((y7).toInt64 <<< ((26 : Int32).toInt64 &&& 63))) ||| ((y6).toInt64 <<< ((17 : Int32).toInt64 &&& 63))) ||| ((y5).toInt64 <<< ((4 : Int32).toInt64 &&& 63))) ||| (y1).toInt64))) 0 (upd ((kSI γ (vp_updL γ.2.2.2.1 ((γ.1 6)).toNatClampNeg ((((((y8).toInt64 <<< ((39 : Int32).toInt64 &&& 63)) ||| ((y7).toInt64 <<< ((26 : Int32).toInt64 &&& 63))) ||| ((y6).toInt64 <<< ((17 : Int32).toInt64 &&& 63))) ||| ((y5).toInt64 <<< ((4 : Int32).toInt64 &&& 63))) ||| (y1).toInt64))).2.2.2.2 0) ((γ.1 6)).toNatClampNeg y2)).2.2.2.2 1) ((γ.1 6)).toNatClampNeg y3)) 2 (upd ((kSA (kSA (kSI γ (vp_updL γ.2.2.2.1 ((γ.1 6)).toNatClampNeg ((((((y8).toInt64 <<< ((39 : Int32).toInt64 &&& 63)) ||| ((y7).toInt64 <<< ((26 : Int32).toInt64 &&& 63))) ||| ((y6).toInt64 <<< ((17 : Int32).toInt64 &&& 63))) ||| ((y5).toInt64 <<< ((4 : Int32).toInt64 &&& 63))) ||| (y1).toInt64))) 0 (upd ((kSI γ (vp_updL γ.2.2.2.1 ((γ.1 6)).toNatClampNeg ((((((y8).toInt64 <<< ((39 : Int32).toInt64 &&& 63)) ||| ((y7).toInt64 <<< ((26 : Int32).toInt64 &&& 63))) ||| ((y6).toInt64 <<< ((17 : Int32).toInt64 &&& 63))) ||| ((y5).toInt64 <<< ((4 : Int32).toInt64 &&& 63))) ||| (y1).toInt64))).2.2.2.2 0) ((γ.1 6)).toNatClampNeg y2)) 1 (upd ((kSA (kSI γ (vp_updL γ.2.2.2.1 ((γ.1 6)).toNatClampNeg ((((((y8).toInt64 <<< ((39 : Int32).toInt64 &&& 63)) ||| ((y7).toInt64 <<< ((26 : Int32).toInt64 &&& 63))) ||| ((y6).toInt64 <<< ((17 : Int32).toInt64 &&& 63))) ||| ((y5).toInt64 <<< ((4 : Int32).toInt64 &&& 63))) ||| (y1).toInt64))) 0 (upd ((kSI γ (vp_updL γ.2.2.2.1 ((γ.1 6)).toNatClampNeg ((((((y8).toInt64 <<< ((39 : Int32).toInt64 &&& 63)) ||| ((y7).toInt64 <<< ((26 : Int32).toInt64 &&& 63))) ||| ((y6).toInt64 <<< ((17 : Int32).toInt64 &&& 63))) ||| ((y5).toInt64 <<< ((4 : Int32).toInt64 &&& 63))) ||| (y1).toInt64))).2.2.2.2 0) ((γ.1 6)).toNatClampNeg y2)).2.2.2.2 1) ((γ.1 6)).toNatClampNeg y3)).2.2.2.2 2) ((γ.1 6)).toNatClampNeg ((kSA (kSA (kSI γ (vp_updL γ.2.2.2.1 ((γ.1 6)).toNatClampNeg ((((((y8).toInt64 <<< ((39 : Int32).toInt64 &&& 63)) ||| ((y7).toInt64 <<< ((26 : Int32).toInt64 &&& 63))) ||| ((y6).toInt64 <<< ((17 : Int32).toInt64 &&& 63))) ||| ((y5).toInt64 <<< ((4 : Int32).toInt64 &&& 63))) ||| (y1).toInt64))) 0 (upd ((kSI γ (vp_updL γ.2.2.2.1 ((γ.1 6)).toNatClampNeg ((((((y8).toInt64 <<< ((39 : Int32).toInt64 &&& 63)) ||| ((y7).toInt64 <<< ((26 : Int32).toInt64 &&& 63))) ||| ((y6).toInt64 <<< ((17 : Int32).toInt64 &&& 63))) ||| ((y5).toInt64 <<< ((4 : Int32).toInt64 &&& 63))) ||| (y1).toInt64))).2.2.2.2 0) ((γ.1 6)).toNatClampNeg y2)) 1 (upd ((kSA (kSI γ (vp_updL γ.2.2.2.1 ((γ.1 6)).toNatClampNeg ((((((y8).toInt64 <<< ((39 : Int32).toInt64 &&& 63)) ||| ((y7).toInt64 <<< ((26 : Int32).toInt64 &&& 63))) ||| ((y6).toInt64 <<< ((17 : Int32).toInt64 &&& 63))) ||| ((y5).toInt64 <<< ((4 : Int32).toInt64 &&& 63))) ||| (y1).toInt64))) 0 (upd ((kSI γ (vp_updL γ.2.2.2.1 ((γ.1 6)).toNatClampNeg ((((((y8).toInt64 <<< ((39 : Int32).toInt64 &&& 63)) ||| ((y7).toInt64 <<< ((26 : Int32).toInt64 &&& 63))) ||| ((y6).toInt64 <<< ((17 : Int32).toInt64 &&& 63))) ||| ((y5).toInt64 <<< ((4 : Int32).toInt64 &&& 63))) ||| (y1).toInt64))).2.2.2.2 0) ((γ.1 6)).toNatClampNeg y2)).2.2.2.2 1) ((γ.1 6)).toNatClampNeg y3)).2.2.2.2 3 ((f_Terms_slot y1 y2 y3 γ)).toNatClampNeg))) 6 ((γ.1 6) + 1)).2.2.2.2 3) ((f_Terms_slot y1 y2 y3 γ)).toNatClampNeg ((γ.1 6) + 1)))))) else none)))))
def f_Terms_make_j249 (N : Nat)  (y8 : Int32) (y7 : Int32) (y6 : Int32) (y5 : Int32) (y1 : Int32) (y2 : Int32) (y3 : Int32) (γ : kS) : Option (kO × kS) := if (γ.1 6) = (nI (γ.2.2.1 21)) then (kBv (f_Terms_grow N γ) fun α17 => (f_Terms_make_j265 N y8 y7 y6 y5 y1 y2 y3 α17)) else (f_Terms_make_j265 N y8 y7 y6 y5 y1 y2 y3 γ)
def f_Terms_make_j240 (N : Nat)  (y8 : Int32) (y7 : Int32) (y6 : Int32) (y5 : Int32) (y1 : Int32) (y2 : Int32) (y3 : Int32) (γ : kS) : Option (kO × kS) := kBv (f_Meter_fail N 10 γ) fun α7 => (f_Terms_make_j249 N y8 y7 y6 y5 y1 y2 y3 α7)
def f_Terms_make_j215 (N : Nat)  (y8 : Int32) (y7 : Int32) (y6 : Int32) (y5 : Int32) (y1 : Int32) (y2 : Int32) (y3 : Int32) (γ : kS) : Option (kO × kS) := if 3000 < y5 then (f_Terms_make_j240 N y8 y7 y6 y5 y1 y2 y3 γ) else (if 200 < y6 then (f_Terms_make_j240 N y8 y7 y6 y5 y1 y2 y3 γ) else (if (γ.1 6) < 524288 then (f_Terms_make_j249 N y8 y7 y6 y5 y1 y2 y3 γ) else (f_Terms_make_j240 N y8 y7 y6 y5 y1 y2 y3 γ)))
def f_Terms_make_j178 (N : Nat)  (y5 : Int32) (y1 : Int32) (y2 : Int32) (y3 : Int32) (t0 : Int32) (γ : kS) : Option (kO × kS) := f_Terms_make_j215 N (if (f_Terms_free y2 γ) < (f_Terms_free y3 γ) then (f_Terms_free y3 γ) else (f_Terms_free y2 γ)) (if (f_Terms_loose y2 γ) < ((f_Terms_loose y3 γ) - (f_Terms_binds y1 γ)) then ((f_Terms_loose y3 γ) - (f_Terms_binds y1 γ)) else (f_Terms_loose y2 γ)) t0 y5 y1 y2 y3 γ
def f_Terms_make_j121 (N : Nat)  (y1 : Int32) (y2 : Int32) (y3 : Int32) (t0 : Int32) (γ : kS) : Option (kO × kS) := if y1 = 5 then (f_Terms_make_j178 N (((f_Terms_size y2 γ) + (f_Terms_size y3 γ)) + t0) y1 y2 y3 (if (f_Terms_depth y2 γ) < ((f_Terms_depth y3 γ) + 1) then ((f_Terms_depth y3 γ) + 1) else (f_Terms_depth y2 γ)) γ) else (f_Terms_make_j178 N (((f_Terms_size y2 γ) + (f_Terms_size y3 γ)) + t0) y1 y2 y3 ((if (f_Terms_depth y2 γ) < (f_Terms_depth y3 γ) then (f_Terms_depth y3 γ) else (f_Terms_depth y2 γ)) + t0) γ)
def f_Terms_make_j103 (N : Nat)  (y7 : Int32) (y6 : Int32) (y5 : Int32) (y1 : Int32) (y2 : Int32) (y3 : Int32) (t0 : Int32) (γ : kS) : Option (kO × kS) := if y1 < 5 then (f_Terms_make_j215 N t0 y7 y6 y5 y1 y2 y3 γ) else (if y1 = 9 then (f_Terms_make_j121 N y1 y2 y3 0 γ) else (f_Terms_make_j121 N y1 y2 y3 1 γ))
def f_Terms_make_j89 (N : Nat)  (y6 : Int32) (y5 : Int32) (y1 : Int32) (y2 : Int32) (y3 : Int32) (t0 : Int32) (γ : kS) : Option (kO × kS) := if y1 = 1 then (f_Terms_make_j103 N t0 y6 y5 y1 y2 y3 (y2 + 1) γ) else (f_Terms_make_j103 N t0 y6 y5 y1 y2 y3 0 γ)
def f_Terms_make_j60 (N : Nat)  (k14 : Int32 → Int32 → Int32 → Int32 → kS → Option (kO × kS)) (y5 : Int32) (y1 : Int32) (y2 : Int32) (y3 : Int32) (γ : kS) : Option (kO × kS) := if y5 < 0 ∨ γ.2.2.1 24 ≤ (y5).toNatClampNeg then none else (k14 (γ.2.2.2.2 2 (y5).toNatClampNeg) y1 y2 y3 γ)
def f_Terms_make_14 (N : Nat)  : Nat → Int32 → Int32 → Int32 → Int32 → kS → Option (kO × kS)
  | 0, _, _, _, _, _ => none
  | n + 1, x4, x1, x2, x3, β => if x4 ≤ 0 then (if x1 = 0 then (f_Terms_make_j89 N 1 1 x1 x2 x3 (x2 + 1) β) else (f_Terms_make_j89 N 1 1 x1 x2 x3 0 β)) else (if (x4 - 1) < 0 ∨ β.2.2.1 22 ≤ ((x4 - 1)).toNatClampNeg then none else (if (β.2.2.2.2 0 ((x4 - 1)).toNatClampNeg) = x2 then (if (x4 - 1) < 0 ∨ β.2.2.1 23 ≤ ((x4 - 1)).toNatClampNeg then none else (if (β.2.2.2.2 1 ((x4 - 1)).toNatClampNeg) = x3 then (if (f_Terms_kind (x4 - 1) β) = x1 then (some (some (some (x4 - 1)), β)) else (f_Terms_make_j60 N (f_Terms_make_14 N n) (x4 - 1) x1 x2 x3 β)) else (f_Terms_make_j60 N (f_Terms_make_14 N n) (x4 - 1) x1 x2 x3 β))) else (f_Terms_make_j60 N (f_Terms_make_14 N n) (x4 - 1) x1 x2 x3 β)))
def f_Terms_make (N : Nat) (a1 : Int32) (a2 : Int32) (a3 : Int32) (α : kS) : Option (kO × kS) := if (f_Terms_slot a1 a2 a3 α) < 0 ∨ α.2.2.1 25 ≤ ((f_Terms_slot a1 a2 a3 α)).toNatClampNeg then none else (f_Terms_make_14 N N (α.2.2.2.2 3 ((f_Terms_slot a1 a2 a3 α)).toNatClampNeg) a1 a2 a3 α)
set_option maxHeartbeats 4000000 in
set_option maxRecDepth 100000 in
theorem k_Terms_make {l : Launch} {g : kG} {α : kS} (hfl : kFl l) (N : Nat) (a1 : Int32) (a2 : Int32) (a3 : Int32)  : ∀ x, f_Terms_make N a1 a2 a3 α = some x → kC l g y_Terms_make b_Terms_make 10 (some .int) 22 663 [.ref (kad g 2), .int a1, .int a2, .int a3] α (kQr x) := by
  intro x h
  unfold f_Terms_make at h
  refine kc_ofW (by decide) (fun A ad0 p e s m args below meth c S hr hlocks hno hadm hargs E hI => ?_)
  have hx := S.1
  have hb := S.2.1
  have hown := S.2.2.2.1
  have hT := S.2.2.2.2
  subst hargs
  have hl := lv_entry ([.ref (kad g 2), .int a1, .int a2, .int a3]) (n := 10) (Nat.le_of_ble_eq_true rfl)
  rw [lg_entry_eq]
  generalize (lg_sl ([.ref (kad g 2), .int a1, .int a2, .int a3]) ++ List.replicate (10 - (lg_sl ([.ref (kad g 2), .int a1, .int a2, .int a3])).length) Slot.unset).toArray = ls at hl ⊢
  have hl : lv_has ls 10 [(0, .ref (kad g 2)), (1, .int a1), (2, .int a2), (3, .int a3)] := hl
  refine lv_aload_n hx hb d_Terms_make_0 rfl (lv_at hl 0 rfl) ?_
  refine kf_Terms_heads S E hI.1 vt_100 d_Terms_make_1 ?_
  refine lv_aload_n hx hb d_Terms_make_4 rfl (lv_at hl 0 rfl) ?_
  refine lv_iload_n hx hb d_Terms_make_5 rfl (lv_at hl 1 rfl) ?_
  refine lv_iload_n hx hb d_Terms_make_6 rfl (lv_at hl 2 rfl) ?_
  refine lv_iload_n hx hb d_Terms_make_7 rfl (lv_at hl 3 rfl) ?_
  refine kg_p (As := [.int a1, .int a2, .int a3]) (rest := [.ref (ad0 25)]) (k_Terms_slot (l := l) (g := g) (α := α) a1 a2 a3) S E hI.1 kw_Terms_62 ⟨Nat.le_of_ble_eq_true rfl, Nat.le_of_ble_eq_true rfl⟩ hI.room (kv_Terms E hI.1) rfl hl.1 rfl (Nat.le_of_ble_eq_true rfl) d_Terms_make_8 rfl ?_
  by_cases c1 : (f_Terms_slot a1 a2 a3 α) < 0 ∨ α.2.2.1 25 ≤ ((f_Terms_slot a1 a2 a3 α)).toNatClampNeg
  · replace h := Eq.trans (if_pos c1).symm h
    cases h
  · replace h := Eq.trans (if_neg c1).symm h
    refine kl_heads S E hI.1 c1 d_Terms_make_11 ?_
    refine lv_istore (lv' := [(4, .int (α.2.2.2.2 3 ((f_Terms_slot a1 a2 a3 α)).toNatClampNeg)), (0, .ref (kad g 2)), (1, .int a1), (2, .int a2), (3, .int a3)]) hx hb d_Terms_make_12 hl (by decide) rfl (fun ls hl => ?_)
    have L14 : ∀ (n14 : Nat) (x4 : Int32) (x1 : Int32) (x2 : Int32) (x3 : Int32) (β : kS) (ad : Nat → Nat) (H : Heap) (locs : List Loc) (cells slots : Nat) (ls : Array Slot), f_Terms_make_14 N n14 x4 x1 x2 x3 β = some x → kI g A s α ad0 β ad H locs cells slots → lv_has ls 10 [(4, .int x4), (0, .ref (kad g 2)), (1, .int x1), (2, .int x2), (3, .int x3)] → W p l e (kR 22 663 α) s m ([.ref (kad g 2), .int a1, .int a2, .int a3]).toArray below meth c H locs cells slots (vEQ below (kQ g A α ad0 (kQr x)) ([.ref (kad g 2), .int a1, .int a2, .int a3]).toArray s A) (F0 m 14 ls []) := by
      intro n14
      induction n14 with
      | zero => intro x4 x1 x2 x3 β ad H locs cells slots ls h hI hl; rw [f_Terms_make_14] at h; cases h
      | succ n14 ih14 =>
        intro x4 x1 x2 x3 β ad H locs cells slots ls h hI hl
        rw [f_Terms_make_14] at h
        have J265 : ∀ (y8 : Int32) (y7 : Int32) (y6 : Int32) (y5 : Int32) (y1 : Int32) (y2 : Int32) (y3 : Int32) (γ : kS) (ad : Nat → Nat) (H : Heap) (locs : List Loc) (cells slots : Nat) (ls : Array Slot), f_Terms_make_j265 N y8 y7 y6 y5 y1 y2 y3 γ = some x → kI g A s α ad0 γ ad H locs cells slots → lv_has ls 10 [(8, .int y8), (7, .int y7), (6, .int y6), (5, .int y5), (0, .ref (kad g 2)), (1, .int y1), (2, .int y2), (3, .int y3)] → W p l e (kR 22 663 α) s m ([.ref (kad g 2), .int a1, .int a2, .int a3]).toArray below meth c H locs cells slots (vEQ below (kQ g A α ad0 (kQr x)) ([.ref (kad g 2), .int a1, .int a2, .int a3]).toArray s A) (F0 m 265 ls []) := by
          intro y8 y7 y6 y5 y1 y2 y3 γ ad H locs cells slots ls h hI hl
          unfold f_Terms_make_j265 at h
          refine lv_aload_n hx hb d_Terms_make_265 rfl (lv_at hl 4 rfl) ?_
          refine lv_iload_n hx hb d_Terms_make_266 rfl (lv_at hl 5 rfl) ?_
          refine lv_iload_n hx hb d_Terms_make_267 rfl (lv_at hl 6 rfl) ?_
          refine lv_iload_n hx hb d_Terms_make_268 rfl (lv_at hl 7 rfl) ?_
          refine kg_p (As := [.int y1, .int y2, .int y3]) (rest := []) (k_Terms_slot (l := l) (g := g) (α := γ) y1 y2 y3) S E hI.1 kw_Terms_62 ⟨Nat.le_of_ble_eq_true rfl, Nat.le_of_ble_eq_true rfl⟩ hI.room (kv_Terms E hI.1) rfl hl.1 rfl (Nat.le_of_ble_eq_true rfl) d_Terms_make_269 rfl ?_
          refine lv_istore (lv' := [(9, .int (f_Terms_slot y1 y2 y3 γ)), (8, .int y8), (7, .int y7), (6, .int y6), (5, .int y5), (0, .ref (kad g 2)), (1, .int y1), (2, .int y2), (3, .int y3)]) hx hb d_Terms_make_272 hl (by decide) rfl (fun ls hl => ?_)
          refine lv_aload_n hx hb d_Terms_make_274 rfl (lv_at hl 5 rfl) ?_
          refine kf_Terms_infos S E hI.1 vt_96 d_Terms_make_275 ?_
          refine lv_aload_n hx hb d_Terms_make_278 rfl (lv_at hl 5 rfl) ?_
          refine kf_Terms_length S E hI.1 vt_324 d_Terms_make_279 ?_
          refine lv_iload hx hb d_Terms_make_282 (lv_at hl 1 rfl) ?_
          refine lv_i2l (v := (y8).toInt64) hx hb d_Terms_make_284 rfl ?_
          refine lv_bipush (v := 39) hx hb d_Terms_make_285 (by decide) ?_
          refine lv_lshl (v := ((y8).toInt64 <<< ((39 : Int32).toInt64 &&& 63))) hx hb d_Terms_make_287 rfl ?_
          refine lv_iload hx hb d_Terms_make_288 (lv_at hl 2 rfl) ?_
          refine lv_i2l (v := (y7).toInt64) hx hb d_Terms_make_290 rfl ?_
          refine lv_bipush (v := 26) hx hb d_Terms_make_291 (by decide) ?_
          refine lv_lshl (v := ((y7).toInt64 <<< ((26 : Int32).toInt64 &&& 63))) hx hb d_Terms_make_293 rfl ?_
          refine lv_lor hx hb d_Terms_make_294 ?_
          refine lv_iload hx hb d_Terms_make_295 (lv_at hl 3 rfl) ?_
          refine lv_i2l (v := (y6).toInt64) hx hb d_Terms_make_297 rfl ?_
          refine lv_bipush (v := 17) hx hb d_Terms_make_298 (by decide) ?_
          refine lv_lshl (v := ((y6).toInt64 <<< ((17 : Int32).toInt64 &&& 63))) hx hb d_Terms_make_300 rfl ?_
          refine lv_lor hx hb d_Terms_make_301 ?_
          refine lv_iload hx hb d_Terms_make_302 (lv_at hl 4 rfl) ?_
          refine lv_i2l (v := (y5).toInt64) hx hb d_Terms_make_304 rfl ?_
          refine lv_iconst (v := 4) hx hb d_Terms_make_305 (by decide) ?_
          refine lv_lshl (v := ((y5).toInt64 <<< ((4 : Int32).toInt64 &&& 63))) hx hb d_Terms_make_306 rfl ?_
          refine lv_lor hx hb d_Terms_make_307 ?_
          refine lv_iload_n hx hb d_Terms_make_308 rfl (lv_at hl 6 rfl) ?_
          refine lv_i2l (v := (y1).toInt64) hx hb d_Terms_make_309 rfl ?_
          refine lv_lor hx hb d_Terms_make_310 ?_
          by_cases c10 : (γ.1 6) < 0 ∨ γ.2.2.1 21 ≤ ((γ.1 6)).toNatClampNeg
          · replace h := Eq.trans (if_pos c10).symm h
            cases h
          · replace h := Eq.trans (if_neg c10).symm h
            refine ks_infos S E hI c10 d_Terms_make_311 (fun H locs hI => ?_)
            refine lv_aload_n hx hb d_Terms_make_312 rfl (lv_at hl 5 rfl) ?_
            refine kf_Terms_lefts S E hI.1 vt_97 d_Terms_make_313 ?_
            refine lv_aload_n hx hb d_Terms_make_316 rfl (lv_at hl 5 rfl) ?_
            refine kf_Terms_length S E hI.1 vt_324 d_Terms_make_317 ?_
            refine lv_iload_n hx hb d_Terms_make_320 rfl (lv_at hl 7 rfl) ?_
            by_cases c11 : (γ.1 6) < 0 ∨ (kSI γ (vp_updL γ.2.2.2.1 ((γ.1 6)).toNatClampNeg ((((((y8).toInt64 <<< ((39 : Int32).toInt64 &&& 63)) ||| ((y7).toInt64 <<< ((26 : Int32).toInt64 &&& 63))) ||| ((y6).toInt64 <<< ((17 : Int32).toInt64 &&& 63))) ||| ((y5).toInt64 <<< ((4 : Int32).toInt64 &&& 63))) ||| (y1).toInt64))).2.2.1 22 ≤ ((γ.1 6)).toNatClampNeg
            · replace h := Eq.trans (if_pos c11).symm h
              cases h
            · replace h := Eq.trans (if_neg c11).symm h
              refine ks_lefts S E hI c11 d_Terms_make_321 (fun H locs hI => ?_)
              refine lv_aload_n hx hb d_Terms_make_322 rfl (lv_at hl 5 rfl) ?_
              refine kf_Terms_rights S E hI.1 vt_98 d_Terms_make_323 ?_
              refine lv_aload_n hx hb d_Terms_make_326 rfl (lv_at hl 5 rfl) ?_
              refine kf_Terms_length S E hI.1 vt_324 d_Terms_make_327 ?_
              refine lv_iload_n hx hb d_Terms_make_330 rfl (lv_at hl 8 rfl) ?_
              by_cases c12 : (γ.1 6) < 0 ∨ (kSA (kSI γ (vp_updL γ.2.2.2.1 ((γ.1 6)).toNatClampNeg ((((((y8).toInt64 <<< ((39 : Int32).toInt64 &&& 63)) ||| ((y7).toInt64 <<< ((26 : Int32).toInt64 &&& 63))) ||| ((y6).toInt64 <<< ((17 : Int32).toInt64 &&& 63))) ||| ((y5).toInt64 <<< ((4 : Int32).toInt64 &&& 63))) ||| (y1).toInt64))) 0 (upd ((kSI γ (vp_updL γ.2.2.2.1 ((γ.1 6)).toNatClampNeg ((((((y8).toInt64 <<< ((39 : Int32).toInt64 &&& 63)) ||| ((y7).toInt64 <<< ((26 : Int32).toInt64 &&& 63))) ||| ((y6).toInt64 <<< ((17 : Int32).toInt64 &&& 63))) ||| ((y5).toInt64 <<< ((4 : Int32).toInt64 &&& 63))) ||| (y1).toInt64))).2.2.2.2 0) ((γ.1 6)).toNatClampNeg y2)).2.2.1 23 ≤ ((γ.1 6)).toNatClampNeg
              · replace h := Eq.trans (if_pos c12).symm h
                cases h
              · replace h := Eq.trans (if_neg c12).symm h
                refine ks_rights S E hI c12 d_Terms_make_331 (fun H locs hI => ?_)
                refine lv_aload_n hx hb d_Terms_make_332 rfl (lv_at hl 5 rfl) ?_
                refine kf_Terms_links S E hI.1 vt_99 d_Terms_make_333 ?_
                refine lv_aload_n hx hb d_Terms_make_336 rfl (lv_at hl 5 rfl) ?_
                refine kf_Terms_length S E hI.1 vt_324 d_Terms_make_337 ?_
                refine lv_aload_n hx hb d_Terms_make_340 rfl (lv_at hl 5 rfl) ?_
                refine kf_Terms_heads S E hI.1 vt_100 d_Terms_make_341 ?_
                refine lv_iload hx hb d_Terms_make_344 (lv_at hl 0 rfl) ?_
                by_cases c13 : (f_Terms_slot y1 y2 y3 γ) < 0 ∨ (kSA (kSA (kSI γ (vp_updL γ.2.2.2.1 ((γ.1 6)).toNatClampNeg ((((((y8).toInt64 <<< ((39 : Int32).toInt64 &&& 63)) ||| ((y7).toInt64 <<< ((26 : Int32).toInt64 &&& 63))) ||| ((y6).toInt64 <<< ((17 : Int32).toInt64 &&& 63))) ||| ((y5).toInt64 <<< ((4 : Int32).toInt64 &&& 63))) ||| (y1).toInt64))) 0 (upd ((kSI γ (vp_updL γ.2.2.2.1 ((γ.1 6)).toNatClampNeg ((((((y8).toInt64 <<< ((39 : Int32).toInt64 &&& 63)) ||| ((y7).toInt64 <<< ((26 : Int32).toInt64 &&& 63))) ||| ((y6).toInt64 <<< ((17 : Int32).toInt64 &&& 63))) ||| ((y5).toInt64 <<< ((4 : Int32).toInt64 &&& 63))) ||| (y1).toInt64))).2.2.2.2 0) ((γ.1 6)).toNatClampNeg y2)) 1 (upd ((kSA (kSI γ (vp_updL γ.2.2.2.1 ((γ.1 6)).toNatClampNeg ((((((y8).toInt64 <<< ((39 : Int32).toInt64 &&& 63)) ||| ((y7).toInt64 <<< ((26 : Int32).toInt64 &&& 63))) ||| ((y6).toInt64 <<< ((17 : Int32).toInt64 &&& 63))) ||| ((y5).toInt64 <<< ((4 : Int32).toInt64 &&& 63))) ||| (y1).toInt64))) 0 (upd ((kSI γ (vp_updL γ.2.2.2.1 ((γ.1 6)).toNatClampNeg ((((((y8).toInt64 <<< ((39 : Int32).toInt64 &&& 63)) ||| ((y7).toInt64 <<< ((26 : Int32).toInt64 &&& 63))) ||| ((y6).toInt64 <<< ((17 : Int32).toInt64 &&& 63))) ||| ((y5).toInt64 <<< ((4 : Int32).toInt64 &&& 63))) ||| (y1).toInt64))).2.2.2.2 0) ((γ.1 6)).toNatClampNeg y2)).2.2.2.2 1) ((γ.1 6)).toNatClampNeg y3)).2.2.1 25 ≤ ((f_Terms_slot y1 y2 y3 γ)).toNatClampNeg
                · replace h := Eq.trans (if_pos c13).symm h
                  cases h
                · replace h := Eq.trans (if_neg c13).symm h
                  refine kl_heads S E hI.1 c13 d_Terms_make_346 ?_
                  by_cases c14 : (γ.1 6) < 0 ∨ (kSA (kSA (kSI γ (vp_updL γ.2.2.2.1 ((γ.1 6)).toNatClampNeg ((((((y8).toInt64 <<< ((39 : Int32).toInt64 &&& 63)) ||| ((y7).toInt64 <<< ((26 : Int32).toInt64 &&& 63))) ||| ((y6).toInt64 <<< ((17 : Int32).toInt64 &&& 63))) ||| ((y5).toInt64 <<< ((4 : Int32).toInt64 &&& 63))) ||| (y1).toInt64))) 0 (upd ((kSI γ (vp_updL γ.2.2.2.1 ((γ.1 6)).toNatClampNeg ((((((y8).toInt64 <<< ((39 : Int32).toInt64 &&& 63)) ||| ((y7).toInt64 <<< ((26 : Int32).toInt64 &&& 63))) ||| ((y6).toInt64 <<< ((17 : Int32).toInt64 &&& 63))) ||| ((y5).toInt64 <<< ((4 : Int32).toInt64 &&& 63))) ||| (y1).toInt64))).2.2.2.2 0) ((γ.1 6)).toNatClampNeg y2)) 1 (upd ((kSA (kSI γ (vp_updL γ.2.2.2.1 ((γ.1 6)).toNatClampNeg ((((((y8).toInt64 <<< ((39 : Int32).toInt64 &&& 63)) ||| ((y7).toInt64 <<< ((26 : Int32).toInt64 &&& 63))) ||| ((y6).toInt64 <<< ((17 : Int32).toInt64 &&& 63))) ||| ((y5).toInt64 <<< ((4 : Int32).toInt64 &&& 63))) ||| (y1).toInt64))) 0 (upd ((kSI γ (vp_updL γ.2.2.2.1 ((γ.1 6)).toNatClampNeg ((((((y8).toInt64 <<< ((39 : Int32).toInt64 &&& 63)) ||| ((y7).toInt64 <<< ((26 : Int32).toInt64 &&& 63))) ||| ((y6).toInt64 <<< ((17 : Int32).toInt64 &&& 63))) ||| ((y5).toInt64 <<< ((4 : Int32).toInt64 &&& 63))) ||| (y1).toInt64))).2.2.2.2 0) ((γ.1 6)).toNatClampNeg y2)).2.2.2.2 1) ((γ.1 6)).toNatClampNeg y3)).2.2.1 24 ≤ ((γ.1 6)).toNatClampNeg
                  · replace h := Eq.trans (if_pos c14).symm h
                    cases h
                  · replace h := Eq.trans (if_neg c14).symm h
                    refine ks_links S E hI c14 d_Terms_make_347 (fun H locs hI => ?_)
                    refine lv_aload_n hx hb d_Terms_make_348 rfl (lv_at hl 5 rfl) ?_
                    refine lv_dup hx hb d_Terms_make_349 rfl ?_
                    refine kf_Terms_length S E hI.1 vt_324 d_Terms_make_350 ?_
                    refine lv_iconst (v := 1) hx hb d_Terms_make_353 (by decide) ?_
                    refine lv_iadd hx hb d_Terms_make_354 ?_
                    by_cases c15 : kLn (kSA (kSA (kSA (kSI γ (vp_updL γ.2.2.2.1 ((γ.1 6)).toNatClampNeg ((((((y8).toInt64 <<< ((39 : Int32).toInt64 &&& 63)) ||| ((y7).toInt64 <<< ((26 : Int32).toInt64 &&& 63))) ||| ((y6).toInt64 <<< ((17 : Int32).toInt64 &&& 63))) ||| ((y5).toInt64 <<< ((4 : Int32).toInt64 &&& 63))) ||| (y1).toInt64))) 0 (upd ((kSI γ (vp_updL γ.2.2.2.1 ((γ.1 6)).toNatClampNeg ((((((y8).toInt64 <<< ((39 : Int32).toInt64 &&& 63)) ||| ((y7).toInt64 <<< ((26 : Int32).toInt64 &&& 63))) ||| ((y6).toInt64 <<< ((17 : Int32).toInt64 &&& 63))) ||| ((y5).toInt64 <<< ((4 : Int32).toInt64 &&& 63))) ||| (y1).toInt64))).2.2.2.2 0) ((γ.1 6)).toNatClampNeg y2)) 1 (upd ((kSA (kSI γ (vp_updL γ.2.2.2.1 ((γ.1 6)).toNatClampNeg ((((((y8).toInt64 <<< ((39 : Int32).toInt64 &&& 63)) ||| ((y7).toInt64 <<< ((26 : Int32).toInt64 &&& 63))) ||| ((y6).toInt64 <<< ((17 : Int32).toInt64 &&& 63))) ||| ((y5).toInt64 <<< ((4 : Int32).toInt64 &&& 63))) ||| (y1).toInt64))) 0 (upd ((kSI γ (vp_updL γ.2.2.2.1 ((γ.1 6)).toNatClampNeg ((((((y8).toInt64 <<< ((39 : Int32).toInt64 &&& 63)) ||| ((y7).toInt64 <<< ((26 : Int32).toInt64 &&& 63))) ||| ((y6).toInt64 <<< ((17 : Int32).toInt64 &&& 63))) ||| ((y5).toInt64 <<< ((4 : Int32).toInt64 &&& 63))) ||| (y1).toInt64))).2.2.2.2 0) ((γ.1 6)).toNatClampNeg y2)).2.2.2.2 1) ((γ.1 6)).toNatClampNeg y3)) 2 (upd ((kSA (kSA (kSI γ (vp_updL γ.2.2.2.1 ((γ.1 6)).toNatClampNeg ((((((y8).toInt64 <<< ((39 : Int32).toInt64 &&& 63)) ||| ((y7).toInt64 <<< ((26 : Int32).toInt64 &&& 63))) ||| ((y6).toInt64 <<< ((17 : Int32).toInt64 &&& 63))) ||| ((y5).toInt64 <<< ((4 : Int32).toInt64 &&& 63))) ||| (y1).toInt64))) 0 (upd ((kSI γ (vp_updL γ.2.2.2.1 ((γ.1 6)).toNatClampNeg ((((((y8).toInt64 <<< ((39 : Int32).toInt64 &&& 63)) ||| ((y7).toInt64 <<< ((26 : Int32).toInt64 &&& 63))) ||| ((y6).toInt64 <<< ((17 : Int32).toInt64 &&& 63))) ||| ((y5).toInt64 <<< ((4 : Int32).toInt64 &&& 63))) ||| (y1).toInt64))).2.2.2.2 0) ((γ.1 6)).toNatClampNeg y2)) 1 (upd ((kSA (kSI γ (vp_updL γ.2.2.2.1 ((γ.1 6)).toNatClampNeg ((((((y8).toInt64 <<< ((39 : Int32).toInt64 &&& 63)) ||| ((y7).toInt64 <<< ((26 : Int32).toInt64 &&& 63))) ||| ((y6).toInt64 <<< ((17 : Int32).toInt64 &&& 63))) ||| ((y5).toInt64 <<< ((4 : Int32).toInt64 &&& 63))) ||| (y1).toInt64))) 0 (upd ((kSI γ (vp_updL γ.2.2.2.1 ((γ.1 6)).toNatClampNeg ((((((y8).toInt64 <<< ((39 : Int32).toInt64 &&& 63)) ||| ((y7).toInt64 <<< ((26 : Int32).toInt64 &&& 63))) ||| ((y6).toInt64 <<< ((17 : Int32).toInt64 &&& 63))) ||| ((y5).toInt64 <<< ((4 : Int32).toInt64 &&& 63))) ||| (y1).toInt64))).2.2.2.2 0) ((γ.1 6)).toNatClampNeg y2)).2.2.2.2 1) ((γ.1 6)).toNatClampNeg y3)).2.2.2.2 2) ((γ.1 6)).toNatClampNeg ((kSA (kSA (kSI γ (vp_updL γ.2.2.2.1 ((γ.1 6)).toNatClampNeg ((((((y8).toInt64 <<< ((39 : Int32).toInt64 &&& 63)) ||| ((y7).toInt64 <<< ((26 : Int32).toInt64 &&& 63))) ||| ((y6).toInt64 <<< ((17 : Int32).toInt64 &&& 63))) ||| ((y5).toInt64 <<< ((4 : Int32).toInt64 &&& 63))) ||| (y1).toInt64))) 0 (upd ((kSI γ (vp_updL γ.2.2.2.1 ((γ.1 6)).toNatClampNeg ((((((y8).toInt64 <<< ((39 : Int32).toInt64 &&& 63)) ||| ((y7).toInt64 <<< ((26 : Int32).toInt64 &&& 63))) ||| ((y6).toInt64 <<< ((17 : Int32).toInt64 &&& 63))) ||| ((y5).toInt64 <<< ((4 : Int32).toInt64 &&& 63))) ||| (y1).toInt64))).2.2.2.2 0) ((γ.1 6)).toNatClampNeg y2)) 1 (upd ((kSA (kSI γ (vp_updL γ.2.2.2.1 ((γ.1 6)).toNatClampNeg ((((((y8).toInt64 <<< ((39 : Int32).toInt64 &&& 63)) ||| ((y7).toInt64 <<< ((26 : Int32).toInt64 &&& 63))) ||| ((y6).toInt64 <<< ((17 : Int32).toInt64 &&& 63))) ||| ((y5).toInt64 <<< ((4 : Int32).toInt64 &&& 63))) ||| (y1).toInt64))) 0 (upd ((kSI γ (vp_updL γ.2.2.2.1 ((γ.1 6)).toNatClampNeg ((((((y8).toInt64 <<< ((39 : Int32).toInt64 &&& 63)) ||| ((y7).toInt64 <<< ((26 : Int32).toInt64 &&& 63))) ||| ((y6).toInt64 <<< ((17 : Int32).toInt64 &&& 63))) ||| ((y5).toInt64 <<< ((4 : Int32).toInt64 &&& 63))) ||| (y1).toInt64))).2.2.2.2 0) ((γ.1 6)).toNatClampNeg y2)).2.2.2.2 1) ((γ.1 6)).toNatClampNeg y3)).2.2.2.2 3 ((f_Terms_slot y1 y2 y3 γ)).toNatClampNeg))) ((γ.1 6) + 1)
                    · replace h := Eq.trans (if_pos c15).symm h
                      refine kp_Terms_length S E hI (kLn_to c15) vt_324 d_Terms_make_355 (fun H locs hI => ?_)
                      refine lv_aload_n hx hb d_Terms_make_358 rfl (lv_at hl 5 rfl) ?_
                      refine kf_Terms_heads S E hI.1 vt_100 d_Terms_make_359 ?_
                      refine lv_iload hx hb d_Terms_make_362 (lv_at hl 0 rfl) ?_
                      refine lv_aload_n hx hb d_Terms_make_364 rfl (lv_at hl 5 rfl) ?_
                      refine kf_Terms_length S E hI.1 vt_324 d_Terms_make_365 ?_
                      by_cases c16 : (f_Terms_slot y1 y2 y3 γ) < 0 ∨ (kSi (kSA (kSA (kSA (kSI γ (vp_updL γ.2.2.2.1 ((γ.1 6)).toNatClampNeg ((((((y8).toInt64 <<< ((39 : Int32).toInt64 &&& 63)) ||| ((y7).toInt64 <<< ((26 : Int32).toInt64 &&& 63))) ||| ((y6).toInt64 <<< ((17 : Int32).toInt64 &&& 63))) ||| ((y5).toInt64 <<< ((4 : Int32).toInt64 &&& 63))) ||| (y1).toInt64))) 0 (upd ((kSI γ (vp_updL γ.2.2.2.1 ((γ.1 6)).toNatClampNeg ((((((y8).toInt64 <<< ((39 : Int32).toInt64 &&& 63)) ||| ((y7).toInt64 <<< ((26 : Int32).toInt64 &&& 63))) ||| ((y6).toInt64 <<< ((17 : Int32).toInt64 &&& 63))) ||| ((y5).toInt64 <<< ((4 : Int32).toInt64 &&& 63))) ||| (y1).toInt64))).2.2.2.2 0) ((γ.1 6)).toNatClampNeg y2)) 1 (upd ((kSA (kSI γ (vp_updL γ.2.2.2.1 ((γ.1 6)).toNatClampNeg ((((((y8).toInt64 <<< ((39 : Int32).toInt64 &&& 63)) ||| ((y7).toInt64 <<< ((26 : Int32).toInt64 &&& 63))) ||| ((y6).toInt64 <<< ((17 : Int32).toInt64 &&& 63))) ||| ((y5).toInt64 <<< ((4 : Int32).toInt64 &&& 63))) ||| (y1).toInt64))) 0 (upd ((kSI γ (vp_updL γ.2.2.2.1 ((γ.1 6)).toNatClampNeg ((((((y8).toInt64 <<< ((39 : Int32).toInt64 &&& 63)) ||| ((y7).toInt64 <<< ((26 : Int32).toInt64 &&& 63))) ||| ((y6).toInt64 <<< ((17 : Int32).toInt64 &&& 63))) ||| ((y5).toInt64 <<< ((4 : Int32).toInt64 &&& 63))) ||| (y1).toInt64))).2.2.2.2 0) ((γ.1 6)).toNatClampNeg y2)).2.2.2.2 1) ((γ.1 6)).toNatClampNeg y3)) 2 (upd ((kSA (kSA (kSI γ (vp_updL γ.2.2.2.1 ((γ.1 6)).toNatClampNeg ((((((y8).toInt64 <<< ((39 : Int32).toInt64 &&& 63)) ||| ((y7).toInt64 <<< ((26 : Int32).toInt64 &&& 63))) ||| ((y6).toInt64 <<< ((17 : Int32).toInt64 &&& 63))) ||| ((y5).toInt64 <<< ((4 : Int32).toInt64 &&& 63))) ||| (y1).toInt64))) 0 (upd ((kSI γ (vp_updL γ.2.2.2.1 ((γ.1 6)).toNatClampNeg ((((((y8).toInt64 <<< ((39 : Int32).toInt64 &&& 63)) ||| ((y7).toInt64 <<< ((26 : Int32).toInt64 &&& 63))) ||| ((y6).toInt64 <<< ((17 : Int32).toInt64 &&& 63))) ||| ((y5).toInt64 <<< ((4 : Int32).toInt64 &&& 63))) ||| (y1).toInt64))).2.2.2.2 0) ((γ.1 6)).toNatClampNeg y2)) 1 (upd ((kSA (kSI γ (vp_updL γ.2.2.2.1 ((γ.1 6)).toNatClampNeg ((((((y8).toInt64 <<< ((39 : Int32).toInt64 &&& 63)) ||| ((y7).toInt64 <<< ((26 : Int32).toInt64 &&& 63))) ||| ((y6).toInt64 <<< ((17 : Int32).toInt64 &&& 63))) ||| ((y5).toInt64 <<< ((4 : Int32).toInt64 &&& 63))) ||| (y1).toInt64))) 0 (upd ((kSI γ (vp_updL γ.2.2.2.1 ((γ.1 6)).toNatClampNeg ((((((y8).toInt64 <<< ((39 : Int32).toInt64 &&& 63)) ||| ((y7).toInt64 <<< ((26 : Int32).toInt64 &&& 63))) ||| ((y6).toInt64 <<< ((17 : Int32).toInt64 &&& 63))) ||| ((y5).toInt64 <<< ((4 : Int32).toInt64 &&& 63))) ||| (y1).toInt64))).2.2.2.2 0) ((γ.1 6)).toNatClampNeg y2)).2.2.2.2 1) ((γ.1 6)).toNatClampNeg y3)).2.2.2.2 2) ((γ.1 6)).toNatClampNeg ((kSA (kSA (kSI γ (vp_updL γ.2.2.2.1 ((γ.1 6)).toNatClampNeg ((((((y8).toInt64 <<< ((39 : Int32).toInt64 &&& 63)) ||| ((y7).toInt64 <<< ((26 : Int32).toInt64 &&& 63))) ||| ((y6).toInt64 <<< ((17 : Int32).toInt64 &&& 63))) ||| ((y5).toInt64 <<< ((4 : Int32).toInt64 &&& 63))) ||| (y1).toInt64))) 0 (upd ((kSI γ (vp_updL γ.2.2.2.1 ((γ.1 6)).toNatClampNeg ((((((y8).toInt64 <<< ((39 : Int32).toInt64 &&& 63)) ||| ((y7).toInt64 <<< ((26 : Int32).toInt64 &&& 63))) ||| ((y6).toInt64 <<< ((17 : Int32).toInt64 &&& 63))) ||| ((y5).toInt64 <<< ((4 : Int32).toInt64 &&& 63))) ||| (y1).toInt64))).2.2.2.2 0) ((γ.1 6)).toNatClampNeg y2)) 1 (upd ((kSA (kSI γ (vp_updL γ.2.2.2.1 ((γ.1 6)).toNatClampNeg ((((((y8).toInt64 <<< ((39 : Int32).toInt64 &&& 63)) ||| ((y7).toInt64 <<< ((26 : Int32).toInt64 &&& 63))) ||| ((y6).toInt64 <<< ((17 : Int32).toInt64 &&& 63))) ||| ((y5).toInt64 <<< ((4 : Int32).toInt64 &&& 63))) ||| (y1).toInt64))) 0 (upd ((kSI γ (vp_updL γ.2.2.2.1 ((γ.1 6)).toNatClampNeg ((((((y8).toInt64 <<< ((39 : Int32).toInt64 &&& 63)) ||| ((y7).toInt64 <<< ((26 : Int32).toInt64 &&& 63))) ||| ((y6).toInt64 <<< ((17 : Int32).toInt64 &&& 63))) ||| ((y5).toInt64 <<< ((4 : Int32).toInt64 &&& 63))) ||| (y1).toInt64))).2.2.2.2 0) ((γ.1 6)).toNatClampNeg y2)).2.2.2.2 1) ((γ.1 6)).toNatClampNeg y3)).2.2.2.2 3 ((f_Terms_slot y1 y2 y3 γ)).toNatClampNeg))) 6 ((γ.1 6) + 1)).2.2.1 25 ≤ ((f_Terms_slot y1 y2 y3 γ)).toNatClampNeg
                      · replace h := Eq.trans (if_pos c16).symm h
                        cases h
                      · replace h := Eq.trans (if_neg c16).symm h
                        refine ks_heads S E hI c16 d_Terms_make_368 (fun H locs hI => ?_)
                        refine lv_aload_n hx hb d_Terms_make_369 rfl (lv_at hl 5 rfl) ?_
                        refine kf_Terms_length S E hI.1 vt_324 d_Terms_make_370 ?_
                        refine lv_iconst (v := 1) hx hb d_Terms_make_373 (by decide) ?_
                        refine lv_isub hx hb d_Terms_make_374 ?_
                        exact kc_iret (w := (((γ.1 6) + 1) - 1)) hx hb hr rfl hlocks E hI h d_Terms_make_375
                    · replace h := Eq.trans (if_neg c15).symm h
                      cases h
        have J249 : ∀ (y8 : Int32) (y7 : Int32) (y6 : Int32) (y5 : Int32) (y1 : Int32) (y2 : Int32) (y3 : Int32) (γ : kS) (ad : Nat → Nat) (H : Heap) (locs : List Loc) (cells slots : Nat) (ls : Array Slot), f_Terms_make_j249 N y8 y7 y6 y5 y1 y2 y3 γ = some x → kI g A s α ad0 γ ad H locs cells slots → lv_has ls 10 [(8, .int y8), (7, .int y7), (6, .int y6), (5, .int y5), (0, .ref (kad g 2)), (1, .int y1), (2, .int y2), (3, .int y3)] → W p l e (kR 22 663 α) s m ([.ref (kad g 2), .int a1, .int a2, .int a3]).toArray below meth c H locs cells slots (vEQ below (kQ g A α ad0 (kQr x)) ([.ref (kad g 2), .int a1, .int a2, .int a3]).toArray s A) (F0 m 249 ls []) := by
          intro y8 y7 y6 y5 y1 y2 y3 γ ad H locs cells slots ls h hI hl
          unfold f_Terms_make_j249 at h
          refine lv_aload_n hx hb d_Terms_make_249 rfl (lv_at hl 4 rfl) ?_
          refine kf_Terms_length S E hI.1 vt_324 d_Terms_make_250 ?_
          refine lv_aload_n hx hb d_Terms_make_253 rfl (lv_at hl 4 rfl) ?_
          refine kf_Terms_infos S E hI.1 vt_96 d_Terms_make_254 ?_
          refine kn_infos S E hI.1 d_Terms_make_257 ?_
          refine lv_icmp_ne (tgt := 265) hx hb d_Terms_make_258 (by decide) (fun c9 => ?_) (fun c9 => ?_)
          · replace h := Eq.trans (if_neg c9).symm h
            exact J265 y8 y7 y6 y5 y1 y2 y3 _ _ _ _ _ _ _ h hI (lv_sub hl [0, 1, 2, 3, 4, 5, 6, 7] rfl)
          · replace h := Eq.trans (if_pos c9).symm h
            refine lv_aload_n hx hb d_Terms_make_261 rfl (lv_at hl 4 rfl) ?_
            refine kg_cV (As := []) (rest := []) h (k_Terms_grow (l := l) (g := g) (α := γ) hfl N) S hlocks hno E hI kw_Terms_94 ⟨Nat.le_of_ble_eq_true rfl, Nat.le_of_ble_eq_true rfl⟩ (kv_Terms E hI.1) rfl hl.1 rfl (Nat.le_of_ble_eq_true rfl) d_Terms_make_262 (fun α17 ad H locs cells slots e18 h hRm hI => ?_)
            exact J265 y8 y7 y6 y5 y1 y2 y3 _ _ _ _ _ _ _ h hI (lv_sub hl [0, 1, 2, 3, 4, 5, 6, 7] rfl)
        have J240 : ∀ (y8 : Int32) (y7 : Int32) (y6 : Int32) (y5 : Int32) (y1 : Int32) (y2 : Int32) (y3 : Int32) (γ : kS) (ad : Nat → Nat) (H : Heap) (locs : List Loc) (cells slots : Nat) (ls : Array Slot), f_Terms_make_j240 N y8 y7 y6 y5 y1 y2 y3 γ = some x → kI g A s α ad0 γ ad H locs cells slots → lv_has ls 10 [(8, .int y8), (7, .int y7), (6, .int y6), (5, .int y5), (0, .ref (kad g 2)), (1, .int y1), (2, .int y2), (3, .int y3)] → W p l e (kR 22 663 α) s m ([.ref (kad g 2), .int a1, .int a2, .int a3]).toArray below meth c H locs cells slots (vEQ below (kQ g A α ad0 (kQr x)) ([.ref (kad g 2), .int a1, .int a2, .int a3]).toArray s A) (F0 m 240 ls []) := by
          intro y8 y7 y6 y5 y1 y2 y3 γ ad H locs cells slots ls h hI hl
          unfold f_Terms_make_j240 at h
          refine lv_aload_n hx hb d_Terms_make_240 rfl (lv_at hl 4 rfl) ?_
          refine kf_Terms_meter S E hI.1 vt_88 d_Terms_make_241 ?_
          refine lv_bipush (v := 10) hx hb d_Terms_make_244 (by decide) ?_
          refine kg_cV (As := [.int 10]) (rest := []) h (k_Meter_fail (l := l) (g := g) (α := γ) hfl N 10) S hlocks hno E hI kw_Terms_88 ⟨Nat.le_of_ble_eq_true rfl, Nat.le_of_ble_eq_true rfl⟩ (kv_Meter E hI.1) rfl hl.1 rfl (Nat.le_of_ble_eq_true rfl) d_Terms_make_246 (fun α7 ad H locs cells slots e8 h hRm hI => ?_)
          exact J249 y8 y7 y6 y5 y1 y2 y3 _ _ _ _ _ _ _ h hI (lv_sub hl [0, 1, 2, 3, 4, 5, 6, 7] rfl)
        have J215 : ∀ (y8 : Int32) (y7 : Int32) (y6 : Int32) (y5 : Int32) (y1 : Int32) (y2 : Int32) (y3 : Int32) (γ : kS) (ad : Nat → Nat) (H : Heap) (locs : List Loc) (cells slots : Nat) (ls : Array Slot), f_Terms_make_j215 N y8 y7 y6 y5 y1 y2 y3 γ = some x → kI g A s α ad0 γ ad H locs cells slots → lv_has ls 10 [(8, .int y8), (7, .int y7), (6, .int y6), (5, .int y5), (0, .ref (kad g 2)), (1, .int y1), (2, .int y2), (3, .int y3)] → W p l e (kR 22 663 α) s m ([.ref (kad g 2), .int a1, .int a2, .int a3]).toArray below meth c H locs cells slots (vEQ below (kQ g A α ad0 (kQr x)) ([.ref (kad g 2), .int a1, .int a2, .int a3]).toArray s A) (F0 m 215 ls []) := by
          intro y8 y7 y6 y5 y1 y2 y3 γ ad H locs cells slots ls h hI hl
          unfold f_Terms_make_j215 at h
          refine lv_iload hx hb d_Terms_make_215 (lv_at hl 3 rfl) ?_
          refine lv_sipush (v := 3000) hx hb d_Terms_make_217 (by decide) ?_
          refine lv_icmp_gt (tgt := 240) hx hb d_Terms_make_220 (by decide) (fun c6 => ?_) (fun c6 => ?_)
          · replace h := Eq.trans (if_pos c6).symm h
            exact J240 y8 y7 y6 y5 y1 y2 y3 _ _ _ _ _ _ _ h hI (lv_sub hl [0, 1, 2, 3, 4, 5, 6, 7] rfl)
          · replace h := Eq.trans (if_neg c6).symm h
            refine lv_iload hx hb d_Terms_make_223 (lv_at hl 2 rfl) ?_
            refine lv_sipush (v := 200) hx hb d_Terms_make_225 (by decide) ?_
            refine lv_icmp_gt (tgt := 240) hx hb d_Terms_make_228 (by decide) (fun c19 => ?_) (fun c19 => ?_)
            · replace h := Eq.trans (if_pos c19).symm h
              exact J240 y8 y7 y6 y5 y1 y2 y3 _ _ _ _ _ _ _ h hI (lv_sub hl [0, 1, 2, 3, 4, 5, 6, 7] rfl)
            · replace h := Eq.trans (if_neg c19).symm h
              refine lv_aload_n hx hb d_Terms_make_231 rfl (lv_at hl 4 rfl) ?_
              refine kf_Terms_length S E hI.1 vt_324 d_Terms_make_232 ?_
              refine lv_ldc (v := 524288) hx hb hown (hT _ vt_566) d_Terms_make_235 ?_
              refine lv_icmp_lt (tgt := 249) hx hb d_Terms_make_237 (by decide) (fun c20 => ?_) (fun c20 => ?_)
              · replace h := Eq.trans (if_pos c20).symm h
                exact J249 y8 y7 y6 y5 y1 y2 y3 _ _ _ _ _ _ _ h hI (lv_sub hl [0, 1, 2, 3, 4, 5, 6, 7] rfl)
              · replace h := Eq.trans (if_neg c20).symm h
                exact J240 y8 y7 y6 y5 y1 y2 y3 _ _ _ _ _ _ _ h hI (lv_sub hl [0, 1, 2, 3, 4, 5, 6, 7] rfl)
        have J178 : ∀ (y5 : Int32) (y1 : Int32) (y2 : Int32) (y3 : Int32) (t0 : Int32) (γ : kS) (ad : Nat → Nat) (H : Heap) (locs : List Loc) (cells slots : Nat) (ls : Array Slot), f_Terms_make_j178 N y5 y1 y2 y3 t0 γ = some x → kI g A s α ad0 γ ad H locs cells slots → lv_has ls 10 [(5, .int y5), (0, .ref (kad g 2)), (1, .int y1), (2, .int y2), (3, .int y3)] → W p l e (kR 22 663 α) s m ([.ref (kad g 2), .int a1, .int a2, .int a3]).toArray below meth c H locs cells slots (vEQ below (kQ g A α ad0 (kQr x)) ([.ref (kad g 2), .int a1, .int a2, .int a3]).toArray s A) (F0 m 178 ls [.int t0]) := by
          intro y5 y1 y2 y3 t0 γ ad H locs cells slots ls h hI hl
          unfold f_Terms_make_j178 at h
          refine lv_istore (lv' := [(6, .int t0), (5, .int y5), (0, .ref (kad g 2)), (1, .int y1), (2, .int y2), (3, .int y3)]) hx hb d_Terms_make_178 hl (by decide) rfl (fun ls hl => ?_)
          refine lv_aload_n hx hb d_Terms_make_180 rfl (lv_at hl 2 rfl) ?_
          refine lv_iload_n hx hb d_Terms_make_181 rfl (lv_at hl 4 rfl) ?_
          refine kg_p (As := [.int y2]) (rest := []) (k_Terms_loose (l := l) (g := g) (α := γ) y2) S E hI.1 kw_Terms_78 ⟨Nat.le_of_ble_eq_true rfl, Nat.le_of_ble_eq_true rfl⟩ hI.room (kv_Terms E hI.1) rfl hl.1 rfl (Nat.le_of_ble_eq_true rfl) d_Terms_make_182 rfl ?_
          refine lv_aload_n hx hb d_Terms_make_185 rfl (lv_at hl 2 rfl) ?_
          refine lv_iload_n hx hb d_Terms_make_186 rfl (lv_at hl 5 rfl) ?_
          refine kg_p (As := [.int y3]) (rest := [.int (f_Terms_loose y2 γ)]) (k_Terms_loose (l := l) (g := g) (α := γ) y3) S E hI.1 kw_Terms_78 ⟨Nat.le_of_ble_eq_true rfl, Nat.le_of_ble_eq_true rfl⟩ hI.room (kv_Terms E hI.1) rfl hl.1 rfl (Nat.le_of_ble_eq_true rfl) d_Terms_make_187 rfl ?_
          refine lv_iload_n hx hb d_Terms_make_190 rfl (lv_at hl 3 rfl) ?_
          refine kg_pS (As := [.int y1]) (rest := [.int (f_Terms_loose y3 γ), .int (f_Terms_loose y2 γ)]) (k_Terms_binds (l := l) (g := g) (α := γ) y1) S E hI.1 kw_Terms_81 ⟨Nat.le_of_ble_eq_true rfl, Nat.le_of_ble_eq_true rfl⟩ hI.room rfl hl.1 rfl (Nat.le_of_ble_eq_true rfl) d_Terms_make_191 ?_
          refine lv_isub hx hb d_Terms_make_194 ?_
          refine va_mmax (x := (f_Terms_loose y2 γ)) (y := ((f_Terms_loose y3 γ) - (f_Terms_binds y1 γ))) hx hb (S.2.2.1.trans hl.1.symm) hown (hT _ vt_552) (hT _ vt_553) (hT _ vt_317) (hT _ vt_554) (Nat.le_of_ble_eq_true rfl) (Nat.le_of_ble_eq_true rfl) hI.room.1 hI.room.2 d_Terms_make_195 ?_
          refine lv_istore (lv' := [(7, .int (if (f_Terms_loose y2 γ) < ((f_Terms_loose y3 γ) - (f_Terms_binds y1 γ)) then ((f_Terms_loose y3 γ) - (f_Terms_binds y1 γ)) else (f_Terms_loose y2 γ))), (6, .int t0), (5, .int y5), (0, .ref (kad g 2)), (1, .int y1), (2, .int y2), (3, .int y3)]) hx hb d_Terms_make_198 hl (by decide) rfl (fun ls hl => ?_)
          refine lv_aload_n hx hb d_Terms_make_200 rfl (lv_at hl 3 rfl) ?_
          refine lv_iload_n hx hb d_Terms_make_201 rfl (lv_at hl 5 rfl) ?_
          refine kg_p (As := [.int y2]) (rest := []) (k_Terms_free (l := l) (g := g) (α := γ) y2) S E hI.1 kw_Terms_84 ⟨Nat.le_of_ble_eq_true rfl, Nat.le_of_ble_eq_true rfl⟩ hI.room (kv_Terms E hI.1) rfl hl.1 rfl (Nat.le_of_ble_eq_true rfl) d_Terms_make_202 rfl ?_
          refine lv_aload_n hx hb d_Terms_make_205 rfl (lv_at hl 3 rfl) ?_
          refine lv_iload_n hx hb d_Terms_make_206 rfl (lv_at hl 6 rfl) ?_
          refine kg_p (As := [.int y3]) (rest := [.int (f_Terms_free y2 γ)]) (k_Terms_free (l := l) (g := g) (α := γ) y3) S E hI.1 kw_Terms_84 ⟨Nat.le_of_ble_eq_true rfl, Nat.le_of_ble_eq_true rfl⟩ hI.room (kv_Terms E hI.1) rfl hl.1 rfl (Nat.le_of_ble_eq_true rfl) d_Terms_make_207 rfl ?_
          refine va_mmax (x := (f_Terms_free y2 γ)) (y := (f_Terms_free y3 γ)) hx hb (S.2.2.1.trans hl.1.symm) hown (hT _ vt_552) (hT _ vt_553) (hT _ vt_317) (hT _ vt_554) (Nat.le_of_ble_eq_true rfl) (Nat.le_of_ble_eq_true rfl) hI.room.1 hI.room.2 d_Terms_make_210 ?_
          refine lv_istore (lv' := [(8, .int (if (f_Terms_free y2 γ) < (f_Terms_free y3 γ) then (f_Terms_free y3 γ) else (f_Terms_free y2 γ))), (7, .int (if (f_Terms_loose y2 γ) < ((f_Terms_loose y3 γ) - (f_Terms_binds y1 γ)) then ((f_Terms_loose y3 γ) - (f_Terms_binds y1 γ)) else (f_Terms_loose y2 γ))), (6, .int t0), (5, .int y5), (0, .ref (kad g 2)), (1, .int y1), (2, .int y2), (3, .int y3)]) hx hb d_Terms_make_213 hl (by decide) rfl (fun ls hl => ?_)
          exact J215 (if (f_Terms_free y2 γ) < (f_Terms_free y3 γ) then (f_Terms_free y3 γ) else (f_Terms_free y2 γ)) (if (f_Terms_loose y2 γ) < ((f_Terms_loose y3 γ) - (f_Terms_binds y1 γ)) then ((f_Terms_loose y3 γ) - (f_Terms_binds y1 γ)) else (f_Terms_loose y2 γ)) t0 y5 y1 y2 y3 _ _ _ _ _ _ _ h hI (lv_sub hl [0, 1, 2, 3, 4, 5, 6, 7] rfl)
        have J121 : ∀ (y1 : Int32) (y2 : Int32) (y3 : Int32) (t0 : Int32) (γ : kS) (ad : Nat → Nat) (H : Heap) (locs : List Loc) (cells slots : Nat) (ls : Array Slot), f_Terms_make_j121 N y1 y2 y3 t0 γ = some x → kI g A s α ad0 γ ad H locs cells slots → lv_has ls 10 [(0, .ref (kad g 2)), (1, .int y1), (2, .int y2), (3, .int y3)] → W p l e (kR 22 663 α) s m ([.ref (kad g 2), .int a1, .int a2, .int a3]).toArray below meth c H locs cells slots (vEQ below (kQ g A α ad0 (kQr x)) ([.ref (kad g 2), .int a1, .int a2, .int a3]).toArray s A) (F0 m 121 ls [.int t0]) := by
          intro y1 y2 y3 t0 γ ad H locs cells slots ls h hI hl
          unfold f_Terms_make_j121 at h
          refine lv_istore (lv' := [(9, .int t0), (0, .ref (kad g 2)), (1, .int y1), (2, .int y2), (3, .int y3)]) hx hb d_Terms_make_121 hl (by decide) rfl (fun ls hl => ?_)
          refine lv_aload_n hx hb d_Terms_make_123 rfl (lv_at hl 1 rfl) ?_
          refine lv_iload_n hx hb d_Terms_make_124 rfl (lv_at hl 3 rfl) ?_
          refine kg_p (As := [.int y2]) (rest := []) (k_Terms_size (l := l) (g := g) (α := γ) y2) S E hI.1 kw_Terms_66 ⟨Nat.le_of_ble_eq_true rfl, Nat.le_of_ble_eq_true rfl⟩ hI.room (kv_Terms E hI.1) rfl hl.1 rfl (Nat.le_of_ble_eq_true rfl) d_Terms_make_125 rfl ?_
          refine lv_aload_n hx hb d_Terms_make_128 rfl (lv_at hl 1 rfl) ?_
          refine lv_iload_n hx hb d_Terms_make_129 rfl (lv_at hl 4 rfl) ?_
          refine kg_p (As := [.int y3]) (rest := [.int (f_Terms_size y2 γ)]) (k_Terms_size (l := l) (g := g) (α := γ) y3) S E hI.1 kw_Terms_66 ⟨Nat.le_of_ble_eq_true rfl, Nat.le_of_ble_eq_true rfl⟩ hI.room (kv_Terms E hI.1) rfl hl.1 rfl (Nat.le_of_ble_eq_true rfl) d_Terms_make_130 rfl ?_
          refine lv_iadd hx hb d_Terms_make_133 ?_
          refine lv_iload hx hb d_Terms_make_134 (lv_at hl 0 rfl) ?_
          refine lv_iadd hx hb d_Terms_make_136 ?_
          refine lv_istore (lv' := [(5, .int (((f_Terms_size y2 γ) + (f_Terms_size y3 γ)) + t0)), (9, .int t0), (0, .ref (kad g 2)), (1, .int y1), (2, .int y2), (3, .int y3)]) hx hb d_Terms_make_137 hl (by decide) rfl (fun ls hl => ?_)
          refine lv_iload_n hx hb d_Terms_make_139 rfl (lv_at hl 3 rfl) ?_
          refine lv_iconst (v := 5) hx hb d_Terms_make_140 (by decide) ?_
          refine lv_icmp_ne (tgt := 162) hx hb d_Terms_make_141 (by decide) (fun c22 => ?_) (fun c22 => ?_)
          · replace h := Eq.trans (if_neg c22).symm h
            refine lv_aload_n hx hb d_Terms_make_162 rfl (lv_at hl 2 rfl) ?_
            refine lv_iload_n hx hb d_Terms_make_163 rfl (lv_at hl 4 rfl) ?_
            refine kg_p (As := [.int y2]) (rest := []) (k_Terms_depth (l := l) (g := g) (α := γ) y2) S E hI.1 kw_Terms_69 ⟨Nat.le_of_ble_eq_true rfl, Nat.le_of_ble_eq_true rfl⟩ hI.room (kv_Terms E hI.1) rfl hl.1 rfl (Nat.le_of_ble_eq_true rfl) d_Terms_make_164 rfl ?_
            refine lv_aload_n hx hb d_Terms_make_167 rfl (lv_at hl 2 rfl) ?_
            refine lv_iload_n hx hb d_Terms_make_168 rfl (lv_at hl 5 rfl) ?_
            refine kg_p (As := [.int y3]) (rest := [.int (f_Terms_depth y2 γ)]) (k_Terms_depth (l := l) (g := g) (α := γ) y3) S E hI.1 kw_Terms_69 ⟨Nat.le_of_ble_eq_true rfl, Nat.le_of_ble_eq_true rfl⟩ hI.room (kv_Terms E hI.1) rfl hl.1 rfl (Nat.le_of_ble_eq_true rfl) d_Terms_make_169 rfl ?_
            refine va_mmax (x := (f_Terms_depth y2 γ)) (y := (f_Terms_depth y3 γ)) hx hb (S.2.2.1.trans hl.1.symm) hown (hT _ vt_552) (hT _ vt_553) (hT _ vt_317) (hT _ vt_554) (Nat.le_of_ble_eq_true rfl) (Nat.le_of_ble_eq_true rfl) hI.room.1 hI.room.2 d_Terms_make_172 ?_
            refine lv_iload hx hb d_Terms_make_175 (lv_at hl 1 rfl) ?_
            refine lv_iadd hx hb d_Terms_make_177 ?_
            exact J178 (((f_Terms_size y2 γ) + (f_Terms_size y3 γ)) + t0) y1 y2 y3 ((if (f_Terms_depth y2 γ) < (f_Terms_depth y3 γ) then (f_Terms_depth y3 γ) else (f_Terms_depth y2 γ)) + t0) _ _ _ _ _ _ _ h hI (lv_sub hl [0, 2, 3, 4, 5] rfl)
          · replace h := Eq.trans (if_pos c22).symm h
            refine lv_aload_n hx hb d_Terms_make_144 rfl (lv_at hl 2 rfl) ?_
            refine lv_iload_n hx hb d_Terms_make_145 rfl (lv_at hl 4 rfl) ?_
            refine kg_p (As := [.int y2]) (rest := []) (k_Terms_depth (l := l) (g := g) (α := γ) y2) S E hI.1 kw_Terms_69 ⟨Nat.le_of_ble_eq_true rfl, Nat.le_of_ble_eq_true rfl⟩ hI.room (kv_Terms E hI.1) rfl hl.1 rfl (Nat.le_of_ble_eq_true rfl) d_Terms_make_146 rfl ?_
            refine lv_aload_n hx hb d_Terms_make_149 rfl (lv_at hl 2 rfl) ?_
            refine lv_iload_n hx hb d_Terms_make_150 rfl (lv_at hl 5 rfl) ?_
            refine kg_p (As := [.int y3]) (rest := [.int (f_Terms_depth y2 γ)]) (k_Terms_depth (l := l) (g := g) (α := γ) y3) S E hI.1 kw_Terms_69 ⟨Nat.le_of_ble_eq_true rfl, Nat.le_of_ble_eq_true rfl⟩ hI.room (kv_Terms E hI.1) rfl hl.1 rfl (Nat.le_of_ble_eq_true rfl) d_Terms_make_151 rfl ?_
            refine lv_iconst (v := 1) hx hb d_Terms_make_154 (by decide) ?_
            refine lv_iadd hx hb d_Terms_make_155 ?_
            refine va_mmax (x := (f_Terms_depth y2 γ)) (y := ((f_Terms_depth y3 γ) + 1)) hx hb (S.2.2.1.trans hl.1.symm) hown (hT _ vt_552) (hT _ vt_553) (hT _ vt_317) (hT _ vt_554) (Nat.le_of_ble_eq_true rfl) (Nat.le_of_ble_eq_true rfl) hI.room.1 hI.room.2 d_Terms_make_156 ?_
            refine lv_goto (tgt := 178) hx hb d_Terms_make_159 (by decide) ?_
            exact J178 (((f_Terms_size y2 γ) + (f_Terms_size y3 γ)) + t0) y1 y2 y3 (if (f_Terms_depth y2 γ) < ((f_Terms_depth y3 γ) + 1) then ((f_Terms_depth y3 γ) + 1) else (f_Terms_depth y2 γ)) _ _ _ _ _ _ _ h hI (lv_sub hl [0, 2, 3, 4, 5] rfl)
        have J103 : ∀ (y7 : Int32) (y6 : Int32) (y5 : Int32) (y1 : Int32) (y2 : Int32) (y3 : Int32) (t0 : Int32) (γ : kS) (ad : Nat → Nat) (H : Heap) (locs : List Loc) (cells slots : Nat) (ls : Array Slot), f_Terms_make_j103 N y7 y6 y5 y1 y2 y3 t0 γ = some x → kI g A s α ad0 γ ad H locs cells slots → lv_has ls 10 [(7, .int y7), (6, .int y6), (5, .int y5), (0, .ref (kad g 2)), (1, .int y1), (2, .int y2), (3, .int y3)] → W p l e (kR 22 663 α) s m ([.ref (kad g 2), .int a1, .int a2, .int a3]).toArray below meth c H locs cells slots (vEQ below (kQ g A α ad0 (kQr x)) ([.ref (kad g 2), .int a1, .int a2, .int a3]).toArray s A) (F0 m 103 ls [.int t0]) := by
          intro y7 y6 y5 y1 y2 y3 t0 γ ad H locs cells slots ls h hI hl
          unfold f_Terms_make_j103 at h
          refine lv_istore (lv' := [(8, .int t0), (7, .int y7), (6, .int y6), (5, .int y5), (0, .ref (kad g 2)), (1, .int y1), (2, .int y2), (3, .int y3)]) hx hb d_Terms_make_103 hl (by decide) rfl (fun ls hl => ?_)
          refine lv_iload_n hx hb d_Terms_make_105 rfl (lv_at hl 5 rfl) ?_
          refine lv_iconst (v := 5) hx hb d_Terms_make_106 (by decide) ?_
          refine lv_icmp_lt (tgt := 215) hx hb d_Terms_make_107 (by decide) (fun c5 => ?_) (fun c5 => ?_)
          · replace h := Eq.trans (if_pos c5).symm h
            exact J215 t0 y7 y6 y5 y1 y2 y3 _ _ _ _ _ _ _ h hI (lv_sub hl [0, 1, 2, 3, 4, 5, 6, 7] rfl)
          · replace h := Eq.trans (if_neg c5).symm h
            refine lv_iload_n hx hb d_Terms_make_110 rfl (lv_at hl 5 rfl) ?_
            refine lv_bipush (v := 9) hx hb d_Terms_make_111 (by decide) ?_
            refine lv_icmp_ne (tgt := 120) hx hb d_Terms_make_113 (by decide) (fun c21 => ?_) (fun c21 => ?_)
            · replace h := Eq.trans (if_neg c21).symm h
              refine lv_iconst (v := 1) hx hb d_Terms_make_120 (by decide) ?_
              exact J121 y1 y2 y3 1 _ _ _ _ _ _ _ h hI (lv_sub hl [4, 5, 6, 7] rfl)
            · replace h := Eq.trans (if_pos c21).symm h
              refine lv_iconst (v := 0) hx hb d_Terms_make_116 (by decide) ?_
              refine lv_goto (tgt := 121) hx hb d_Terms_make_117 (by decide) ?_
              exact J121 y1 y2 y3 0 _ _ _ _ _ _ _ h hI (lv_sub hl [4, 5, 6, 7] rfl)
        have J89 : ∀ (y6 : Int32) (y5 : Int32) (y1 : Int32) (y2 : Int32) (y3 : Int32) (t0 : Int32) (γ : kS) (ad : Nat → Nat) (H : Heap) (locs : List Loc) (cells slots : Nat) (ls : Array Slot), f_Terms_make_j89 N y6 y5 y1 y2 y3 t0 γ = some x → kI g A s α ad0 γ ad H locs cells slots → lv_has ls 10 [(6, .int y6), (5, .int y5), (0, .ref (kad g 2)), (1, .int y1), (2, .int y2), (3, .int y3)] → W p l e (kR 22 663 α) s m ([.ref (kad g 2), .int a1, .int a2, .int a3]).toArray below meth c H locs cells slots (vEQ below (kQ g A α ad0 (kQr x)) ([.ref (kad g 2), .int a1, .int a2, .int a3]).toArray s A) (F0 m 89 ls [.int t0]) := by
          intro y6 y5 y1 y2 y3 t0 γ ad H locs cells slots ls h hI hl
          unfold f_Terms_make_j89 at h
          refine lv_istore (lv' := [(7, .int t0), (6, .int y6), (5, .int y5), (0, .ref (kad g 2)), (1, .int y1), (2, .int y2), (3, .int y3)]) hx hb d_Terms_make_89 hl (by decide) rfl (fun ls hl => ?_)
          refine lv_iload_n hx hb d_Terms_make_91 rfl (lv_at hl 4 rfl) ?_
          refine lv_iconst (v := 1) hx hb d_Terms_make_92 (by decide) ?_
          refine lv_icmp_ne (tgt := 102) hx hb d_Terms_make_93 (by decide) (fun c4 => ?_) (fun c4 => ?_)
          · replace h := Eq.trans (if_neg c4).symm h
            refine lv_iconst (v := 0) hx hb d_Terms_make_102 (by decide) ?_
            exact J103 t0 y6 y5 y1 y2 y3 0 _ _ _ _ _ _ _ h hI (lv_sub hl [0, 1, 2, 3, 4, 5, 6] rfl)
          · replace h := Eq.trans (if_pos c4).symm h
            refine lv_iload_n hx hb d_Terms_make_96 rfl (lv_at hl 5 rfl) ?_
            refine lv_iconst (v := 1) hx hb d_Terms_make_97 (by decide) ?_
            refine lv_iadd hx hb d_Terms_make_98 ?_
            refine lv_goto (tgt := 103) hx hb d_Terms_make_99 (by decide) ?_
            exact J103 t0 y6 y5 y1 y2 y3 (y2 + 1) _ _ _ _ _ _ _ h hI (lv_sub hl [0, 1, 2, 3, 4, 5, 6] rfl)
        have J60 : ∀ (y5 : Int32) (y1 : Int32) (y2 : Int32) (y3 : Int32) (γ : kS) (ad : Nat → Nat) (H : Heap) (locs : List Loc) (cells slots : Nat) (ls : Array Slot), f_Terms_make_j60 N (f_Terms_make_14 N n14) y5 y1 y2 y3 γ = some x → kI g A s α ad0 γ ad H locs cells slots → lv_has ls 10 [(5, .int y5), (0, .ref (kad g 2)), (1, .int y1), (2, .int y2), (3, .int y3)] → W p l e (kR 22 663 α) s m ([.ref (kad g 2), .int a1, .int a2, .int a3]).toArray below meth c H locs cells slots (vEQ below (kQ g A α ad0 (kQr x)) ([.ref (kad g 2), .int a1, .int a2, .int a3]).toArray s A) (F0 m 60 ls []) := by
          intro y5 y1 y2 y3 γ ad H locs cells slots ls h hI hl
          unfold f_Terms_make_j60 at h
          refine lv_aload_n hx hb d_Terms_make_60 rfl (lv_at hl 1 rfl) ?_
          refine kf_Terms_links S E hI.1 vt_99 d_Terms_make_61 ?_
          refine lv_iload hx hb d_Terms_make_64 (lv_at hl 0 rfl) ?_
          by_cases c25 : y5 < 0 ∨ γ.2.2.1 24 ≤ (y5).toNatClampNeg
          · replace h := Eq.trans (if_pos c25).symm h
            cases h
          · replace h := Eq.trans (if_neg c25).symm h
            refine kl_links S E hI.1 c25 d_Terms_make_66 ?_
            refine lv_istore (lv' := [(4, .int (γ.2.2.2.2 2 (y5).toNatClampNeg)), (5, .int y5), (0, .ref (kad g 2)), (1, .int y1), (2, .int y2), (3, .int y3)]) hx hb d_Terms_make_67 hl (by decide) rfl (fun ls hl => ?_)
            refine lv_goto (tgt := 14) hx hb d_Terms_make_69 (by decide) ?_
            exact ih14 (γ.2.2.2.2 2 (y5).toNatClampNeg) y1 y2 y3 _ _ _ _ _ _ _ h hI (lv_sub hl [0, 2, 3, 4, 5] rfl)
        refine lv_iload hx hb d_Terms_make_14 (lv_at hl 0 rfl) ?_
        refine lv_if_le (tgt := 72) hx hb d_Terms_make_16 (by decide) (fun c2 => ?_) (fun c2 => ?_)
        · replace h := Eq.trans (if_pos c2).symm h
          refine lv_iconst (v := 1) hx hb d_Terms_make_72 (by decide) ?_
          refine lv_istore (lv' := [(5, .int 1), (4, .int x4), (0, .ref (kad g 2)), (1, .int x1), (2, .int x2), (3, .int x3)]) hx hb d_Terms_make_73 hl (by decide) rfl (fun ls hl => ?_)
          refine lv_iconst (v := 1) hx hb d_Terms_make_75 (by decide) ?_
          refine lv_istore (lv' := [(6, .int 1), (5, .int 1), (4, .int x4), (0, .ref (kad g 2)), (1, .int x1), (2, .int x2), (3, .int x3)]) hx hb d_Terms_make_76 hl (by decide) rfl (fun ls hl => ?_)
          refine lv_iload_n hx hb d_Terms_make_78 rfl (lv_at hl 4 rfl) ?_
          refine lv_if_ne (tgt := 88) hx hb d_Terms_make_79 (by decide) (fun c3 => ?_) (fun c3 => ?_)
          · replace h := Eq.trans (if_neg c3).symm h
            refine lv_iconst (v := 0) hx hb d_Terms_make_88 (by decide) ?_
            exact J89 1 1 x1 x2 x3 0 _ _ _ _ _ _ _ h hI (lv_sub hl [0, 1, 3, 4, 5, 6] rfl)
          · replace h := Eq.trans (if_pos c3).symm h
            refine lv_iload_n hx hb d_Terms_make_82 rfl (lv_at hl 5 rfl) ?_
            refine lv_iconst (v := 1) hx hb d_Terms_make_83 (by decide) ?_
            refine lv_iadd hx hb d_Terms_make_84 ?_
            refine lv_goto (tgt := 89) hx hb d_Terms_make_85 (by decide) ?_
            exact J89 1 1 x1 x2 x3 (x2 + 1) _ _ _ _ _ _ _ h hI (lv_sub hl [0, 1, 3, 4, 5, 6] rfl)
        · replace h := Eq.trans (if_neg c2).symm h
          refine lv_iload hx hb d_Terms_make_19 (lv_at hl 0 rfl) ?_
          refine lv_iconst (v := 1) hx hb d_Terms_make_21 (by decide) ?_
          refine lv_isub hx hb d_Terms_make_22 ?_
          refine lv_istore (lv' := [(5, .int (x4 - 1)), (4, .int x4), (0, .ref (kad g 2)), (1, .int x1), (2, .int x2), (3, .int x3)]) hx hb d_Terms_make_23 hl (by decide) rfl (fun ls hl => ?_)
          refine lv_aload_n hx hb d_Terms_make_25 rfl (lv_at hl 2 rfl) ?_
          refine kf_Terms_lefts S E hI.1 vt_97 d_Terms_make_26 ?_
          refine lv_iload hx hb d_Terms_make_29 (lv_at hl 0 rfl) ?_
          by_cases c23 : (x4 - 1) < 0 ∨ β.2.2.1 22 ≤ ((x4 - 1)).toNatClampNeg
          · replace h := Eq.trans (if_pos c23).symm h
            cases h
          · replace h := Eq.trans (if_neg c23).symm h
            refine kl_lefts S E hI.1 c23 d_Terms_make_31 ?_
            refine lv_iload_n hx hb d_Terms_make_32 rfl (lv_at hl 4 rfl) ?_
            refine lv_icmp_ne (tgt := 60) hx hb d_Terms_make_33 (by decide) (fun c24 => ?_) (fun c24 => ?_)
            · replace h := Eq.trans (if_neg c24).symm h
              exact J60 (x4 - 1) x1 x2 x3 _ _ _ _ _ _ _ h hI (lv_sub hl [0, 2, 3, 4, 5] rfl)
            · replace h := Eq.trans (if_pos c24).symm h
              refine lv_aload_n hx hb d_Terms_make_36 rfl (lv_at hl 2 rfl) ?_
              refine kf_Terms_rights S E hI.1 vt_98 d_Terms_make_37 ?_
              refine lv_iload hx hb d_Terms_make_40 (lv_at hl 0 rfl) ?_
              by_cases c26 : (x4 - 1) < 0 ∨ β.2.2.1 23 ≤ ((x4 - 1)).toNatClampNeg
              · replace h := Eq.trans (if_pos c26).symm h
                cases h
              · replace h := Eq.trans (if_neg c26).symm h
                refine kl_rights S E hI.1 c26 d_Terms_make_42 ?_
                refine lv_iload_n hx hb d_Terms_make_43 rfl (lv_at hl 5 rfl) ?_
                refine lv_icmp_ne (tgt := 60) hx hb d_Terms_make_44 (by decide) (fun c27 => ?_) (fun c27 => ?_)
                · replace h := Eq.trans (if_neg c27).symm h
                  exact J60 (x4 - 1) x1 x2 x3 _ _ _ _ _ _ _ h hI (lv_sub hl [0, 2, 3, 4, 5] rfl)
                · replace h := Eq.trans (if_pos c27).symm h
                  refine lv_aload_n hx hb d_Terms_make_47 rfl (lv_at hl 2 rfl) ?_
                  refine lv_iload hx hb d_Terms_make_48 (lv_at hl 0 rfl) ?_
                  refine kg_p (As := [.int (x4 - 1)]) (rest := []) (k_Terms_kind (l := l) (g := g) (α := β) (x4 - 1)) S E hI.1 kw_Terms_52 ⟨Nat.le_of_ble_eq_true rfl, Nat.le_of_ble_eq_true rfl⟩ hI.room (kv_Terms E hI.1) rfl hl.1 rfl (Nat.le_of_ble_eq_true rfl) d_Terms_make_50 rfl ?_
                  refine lv_iload_n hx hb d_Terms_make_53 rfl (lv_at hl 3 rfl) ?_
                  refine lv_icmp_ne (tgt := 60) hx hb d_Terms_make_54 (by decide) (fun c28 => ?_) (fun c28 => ?_)
                  · replace h := Eq.trans (if_neg c28).symm h
                    exact J60 (x4 - 1) x1 x2 x3 _ _ _ _ _ _ _ h hI (lv_sub hl [0, 2, 3, 4, 5] rfl)
                  · replace h := Eq.trans (if_pos c28).symm h
                    refine lv_iload hx hb d_Terms_make_57 (lv_at hl 0 rfl) ?_
                    exact kc_iret (w := (x4 - 1)) hx hb hr rfl hlocks E hI h d_Terms_make_59
    exact L14 N (α.2.2.2.2 3 ((f_Terms_slot a1 a2 a3 α)).toNatClampNeg) a1 a2 a3 _ _ _ _ _ _ _ h hI (lv_sub hl [0, 1, 2, 3, 4] rfl)
def f_Terms_release_j54 (N : Nat)  (y1 : Int32) (γ : kS) : Option (kO × kS) := if y1 < 0 then (some (some none, γ)) else (if (γ.1 6) ≤ y1 then (some (some none, γ)) else (if kLn γ y1 then (some (some none, (kSi γ 6 y1))) else none))
def f_Terms_release_7 (N : Nat)  : Nat → Int32 → Int32 → kS → Option (kO × kS)
  | 0, _, _, _ => none
  | n + 1, x2, x1, β => if x2 < x1 then (f_Terms_release_j54 N x1 β) else (if x2 < 0 then (f_Terms_release_j54 N x1 β) else (if x2 < 0 ∨ β.2.2.1 22 ≤ (x2).toNatClampNeg then none else (if x2 < 0 ∨ β.2.2.1 23 ≤ (x2).toNatClampNeg then none else (if x2 < 0 ∨ β.2.2.1 24 ≤ (x2).toNatClampNeg then none else (if (f_Terms_slot (f_Terms_kind x2 β) (β.2.2.2.2 0 (x2).toNatClampNeg) (β.2.2.2.2 1 (x2).toNatClampNeg) β) < 0 ∨ β.2.2.1 25 ≤ ((f_Terms_slot (f_Terms_kind x2 β) (β.2.2.2.2 0 (x2).toNatClampNeg) (β.2.2.2.2 1 (x2).toNatClampNeg) β)).toNatClampNeg then none else (f_Terms_release_7 N n (x2 + (-1)) x1 (kSA β 3 (upd (β.2.2.2.2 3) ((f_Terms_slot (f_Terms_kind x2 β) (β.2.2.2.2 0 (x2).toNatClampNeg) (β.2.2.2.2 1 (x2).toNatClampNeg) β)).toNatClampNeg (β.2.2.2.2 2 (x2).toNatClampNeg)))))))))
def f_Terms_release (N : Nat) (a1 : Int32) (α : kS) : Option (kO × kS) := f_Terms_release_7 N N ((α.1 6) - 1) a1 α
set_option maxHeartbeats 4000000 in
set_option maxRecDepth 100000 in
theorem k_Terms_release {l : Launch} {g : kG} {α : kS} (hfl : kFl l) (N : Nat) (a1 : Int32)  : ∀ x, f_Terms_release N a1 α = some x → kC l g y_Terms_release b_Terms_release 3 none 2 25 [.ref (kad g 2), .int a1] α (kQr x) := by
  intro x h
  unfold f_Terms_release at h
  refine kc_ofW (by decide) (fun A ad0 p e s m args below meth c S hr hlocks hno hadm hargs E hI => ?_)
  have hx := S.1
  have hb := S.2.1
  have hown := S.2.2.2.1
  have hT := S.2.2.2.2
  subst hargs
  have hl := lv_entry ([.ref (kad g 2), .int a1]) (n := 3) (Nat.le_of_ble_eq_true rfl)
  rw [lg_entry_eq]
  generalize (lg_sl ([.ref (kad g 2), .int a1]) ++ List.replicate (3 - (lg_sl ([.ref (kad g 2), .int a1])).length) Slot.unset).toArray = ls at hl ⊢
  have hl : lv_has ls 3 [(0, .ref (kad g 2)), (1, .int a1)] := hl
  refine lv_aload_n hx hb d_Terms_release_0 rfl (lv_at hl 0 rfl) ?_
  refine kf_Terms_length S E hI.1 vt_324 d_Terms_release_1 ?_
  refine lv_iconst (v := 1) hx hb d_Terms_release_4 (by decide) ?_
  refine lv_isub hx hb d_Terms_release_5 ?_
  refine lv_istore_n (lv' := [(2, .int ((α.1 6) - 1)), (0, .ref (kad g 2)), (1, .int a1)]) hx hb d_Terms_release_6 rfl hl (by decide) rfl (fun ls hl => ?_)
  have L7 : ∀ (n7 : Nat) (x2 : Int32) (x1 : Int32) (β : kS) (ad : Nat → Nat) (H : Heap) (locs : List Loc) (cells slots : Nat) (ls : Array Slot), f_Terms_release_7 N n7 x2 x1 β = some x → kI g A s α ad0 β ad H locs cells slots → lv_has ls 3 [(2, .int x2), (0, .ref (kad g 2)), (1, .int x1)] → W p l e (kR 2 25 α) s m ([.ref (kad g 2), .int a1]).toArray below meth c H locs cells slots (vEQ below (kQ g A α ad0 (kQr x)) ([.ref (kad g 2), .int a1]).toArray s A) (F0 m 7 ls []) := by
    intro n7
    induction n7 with
    | zero => intro x2 x1 β ad H locs cells slots ls h hI hl; rw [f_Terms_release_7] at h; cases h
    | succ n7 ih7 =>
      intro x2 x1 β ad H locs cells slots ls h hI hl
      rw [f_Terms_release_7] at h
      have J54 : ∀ (y1 : Int32) (γ : kS) (ad : Nat → Nat) (H : Heap) (locs : List Loc) (cells slots : Nat) (ls : Array Slot), f_Terms_release_j54 N y1 γ = some x → kI g A s α ad0 γ ad H locs cells slots → lv_has ls 3 [(0, .ref (kad g 2)), (1, .int y1)] → W p l e (kR 2 25 α) s m ([.ref (kad g 2), .int a1]).toArray below meth c H locs cells slots (vEQ below (kQ g A α ad0 (kQr x)) ([.ref (kad g 2), .int a1]).toArray s A) (F0 m 54 ls []) := by
        intro y1 γ ad H locs cells slots ls h hI hl
        unfold f_Terms_release_j54 at h
        refine lv_iload_n hx hb d_Terms_release_54 rfl (lv_at hl 1 rfl) ?_
        refine lv_if_lt (tgt := 71) hx hb d_Terms_release_55 (by decide) (fun c2 => ?_) (fun c2 => ?_)
        · replace h := Eq.trans (if_pos c2).symm h
          exact kc_vret hx hb hr hlocks E hI h d_Terms_release_71
        · replace h := Eq.trans (if_neg c2).symm h
          refine lv_iload_n hx hb d_Terms_release_58 rfl (lv_at hl 1 rfl) ?_
          refine lv_aload_n hx hb d_Terms_release_59 rfl (lv_at hl 0 rfl) ?_
          refine kf_Terms_length S E hI.1 vt_324 d_Terms_release_60 ?_
          refine lv_icmp_ge (tgt := 71) hx hb d_Terms_release_63 (by decide) (fun c3 => ?_) (fun c3 => ?_)
          · replace h := Eq.trans (if_pos c3).symm h
            exact kc_vret hx hb hr hlocks E hI h d_Terms_release_71
          · replace h := Eq.trans (if_neg c3).symm h
            refine lv_aload_n hx hb d_Terms_release_66 rfl (lv_at hl 0 rfl) ?_
            refine lv_iload_n hx hb d_Terms_release_67 rfl (lv_at hl 1 rfl) ?_
            by_cases c4 : kLn γ y1
            · replace h := Eq.trans (if_pos c4).symm h
              refine kp_Terms_length S E hI (kLn_to c4) vt_324 d_Terms_release_68 (fun H locs hI => ?_)
              exact kc_vret hx hb hr hlocks E hI h d_Terms_release_71
            · replace h := Eq.trans (if_neg c4).symm h
              cases h
      refine lv_iload_n hx hb d_Terms_release_7 rfl (lv_at hl 0 rfl) ?_
      refine lv_iload_n hx hb d_Terms_release_8 rfl (lv_at hl 2 rfl) ?_
      refine lv_icmp_lt (tgt := 54) hx hb d_Terms_release_9 (by decide) (fun c1 => ?_) (fun c1 => ?_)
      · replace h := Eq.trans (if_pos c1).symm h
        exact J54 x1 _ _ _ _ _ _ _ h hI (lv_sub hl [1, 2] rfl)
      · replace h := Eq.trans (if_neg c1).symm h
        refine lv_iload_n hx hb d_Terms_release_12 rfl (lv_at hl 0 rfl) ?_
        refine lv_if_lt (tgt := 54) hx hb d_Terms_release_13 (by decide) (fun c5 => ?_) (fun c5 => ?_)
        · replace h := Eq.trans (if_pos c5).symm h
          exact J54 x1 _ _ _ _ _ _ _ h hI (lv_sub hl [1, 2] rfl)
        · replace h := Eq.trans (if_neg c5).symm h
          refine lv_aload_n hx hb d_Terms_release_16 rfl (lv_at hl 1 rfl) ?_
          refine kf_Terms_heads S E hI.1 vt_100 d_Terms_release_17 ?_
          refine lv_aload_n hx hb d_Terms_release_20 rfl (lv_at hl 1 rfl) ?_
          refine lv_aload_n hx hb d_Terms_release_21 rfl (lv_at hl 1 rfl) ?_
          refine lv_iload_n hx hb d_Terms_release_22 rfl (lv_at hl 0 rfl) ?_
          refine kg_p (As := [.int x2]) (rest := [.ref (kad g 2), .ref (ad 25)]) (k_Terms_kind (l := l) (g := g) (α := β) x2) S E hI.1 kw_Terms_52 ⟨Nat.le_of_ble_eq_true rfl, Nat.le_of_ble_eq_true rfl⟩ hI.room (kv_Terms E hI.1) rfl hl.1 rfl (Nat.le_of_ble_eq_true rfl) d_Terms_release_23 rfl ?_
          refine lv_aload_n hx hb d_Terms_release_26 rfl (lv_at hl 1 rfl) ?_
          refine kf_Terms_lefts S E hI.1 vt_97 d_Terms_release_27 ?_
          refine lv_iload_n hx hb d_Terms_release_30 rfl (lv_at hl 0 rfl) ?_
          by_cases c6 : x2 < 0 ∨ β.2.2.1 22 ≤ (x2).toNatClampNeg
          · replace h := Eq.trans (if_pos c6).symm h
            cases h
          · replace h := Eq.trans (if_neg c6).symm h
            refine kl_lefts S E hI.1 c6 d_Terms_release_31 ?_
            refine lv_aload_n hx hb d_Terms_release_32 rfl (lv_at hl 1 rfl) ?_
            refine kf_Terms_rights S E hI.1 vt_98 d_Terms_release_33 ?_
            refine lv_iload_n hx hb d_Terms_release_36 rfl (lv_at hl 0 rfl) ?_
            by_cases c7 : x2 < 0 ∨ β.2.2.1 23 ≤ (x2).toNatClampNeg
            · replace h := Eq.trans (if_pos c7).symm h
              cases h
            · replace h := Eq.trans (if_neg c7).symm h
              refine kl_rights S E hI.1 c7 d_Terms_release_37 ?_
              refine kg_p (As := [.int (f_Terms_kind x2 β), .int (β.2.2.2.2 0 (x2).toNatClampNeg), .int (β.2.2.2.2 1 (x2).toNatClampNeg)]) (rest := [.ref (ad 25)]) (k_Terms_slot (l := l) (g := g) (α := β) (f_Terms_kind x2 β) (β.2.2.2.2 0 (x2).toNatClampNeg) (β.2.2.2.2 1 (x2).toNatClampNeg)) S E hI.1 kw_Terms_62 ⟨Nat.le_of_ble_eq_true rfl, Nat.le_of_ble_eq_true rfl⟩ hI.room (kv_Terms E hI.1) rfl hl.1 rfl (Nat.le_of_ble_eq_true rfl) d_Terms_release_38 rfl ?_
              refine lv_aload_n hx hb d_Terms_release_41 rfl (lv_at hl 1 rfl) ?_
              refine kf_Terms_links S E hI.1 vt_99 d_Terms_release_42 ?_
              refine lv_iload_n hx hb d_Terms_release_45 rfl (lv_at hl 0 rfl) ?_
              by_cases c8 : x2 < 0 ∨ β.2.2.1 24 ≤ (x2).toNatClampNeg
              · replace h := Eq.trans (if_pos c8).symm h
                cases h
              · replace h := Eq.trans (if_neg c8).symm h
                refine kl_links S E hI.1 c8 d_Terms_release_46 ?_
                by_cases c9 : (f_Terms_slot (f_Terms_kind x2 β) (β.2.2.2.2 0 (x2).toNatClampNeg) (β.2.2.2.2 1 (x2).toNatClampNeg) β) < 0 ∨ β.2.2.1 25 ≤ ((f_Terms_slot (f_Terms_kind x2 β) (β.2.2.2.2 0 (x2).toNatClampNeg) (β.2.2.2.2 1 (x2).toNatClampNeg) β)).toNatClampNeg
                · replace h := Eq.trans (if_pos c9).symm h
                  cases h
                · replace h := Eq.trans (if_neg c9).symm h
                  refine ks_heads S E hI c9 d_Terms_release_47 (fun H locs hI => ?_)
                  refine lv_iinc (v := (x2 + (-1))) (lv' := [(2, .int (x2 + (-1))), (0, .ref (kad g 2)), (1, .int x1)]) hx hb d_Terms_release_48 hl (k := 0) rfl rfl (by decide) rfl (fun ls hl => ?_)
                  refine lv_goto (tgt := 7) hx hb d_Terms_release_51 (by decide) ?_
                  exact ih7 (x2 + (-1)) x1 _ _ _ _ _ _ _ h hI (lv_sub hl [0, 1, 2] rfl)
  exact L7 N ((α.1 6) - 1) a1 _ _ _ _ _ _ _ h hI (lv_sub hl [0, 1, 2] rfl)
