def hk_check (l : Launch) (g : mG) (kk : (Int32 → Int32 → Int32 → mS → Option (kO × mS)) × (Int32 → Int32 → mS → Option (kO × mS)) × (Int32 → Int32 → mS → Option (kO × mS)) × (Int32 → Int32 → mS → Option (kO × mS))) (fr lo : Nat) : Prop := (∀ (a1 : Int32) (a2 : Int32) (a3 : Int32)  (α : mS) (x : kO × mS), kk.1 a1 a2 a3 α = some x → mC l g y_Mod_check b_Mod_check 4 none fr lo [.ref (mad g 0), .int a1, .int a2, .int a3] α (mQr x)) ∧ (∀ (a1 : Int32) (a2 : Int32)  (α : mS) (x : kO × mS), kk.2.1 a1 a2 α = some x → mC l g y_Mod_infer b_Mod_infer 8 (some .int) fr lo [.ref (mad g 0), .int a1, .int a2] α (mQr x)) ∧ (∀ (a1 : Int32) (a2 : Int32)  (α : mS) (x : kO × mS), kk.2.2.1 a1 a2 α = some x → mC l g y_Mod_inferApplied b_Mod_inferApplied 8 (some .int) fr lo [.ref (mad g 0), .int a1, .int a2] α (mQr x)) ∧ (∀ (a1 : Int32) (a2 : Int32)  (α : mS) (x : kO × mS), kk.2.2.2 a1 a2 α = some x → mC l g y_Mod_sortOf b_Mod_sortOf 4 (some .int) fr lo [.ref (mad g 0), .int a1, .int a2] α (mQr x))
theorem kw_Mod_479 : kWv "FamilyKernelModel" 479 "FamilyKernelModel" y_Mod_infer b_Mod_infer 8 (some .int) 2 := ⟨vt_1559, vt_1560, vt_1561, vt_1349, vt_1562, by decide, by decide, by decide +kernel⟩
def f_Mod_check (N : Nat) (kk : (Int32 → Int32 → Int32 → mS → Option (kO × mS)) × (Int32 → Int32 → mS → Option (kO × mS)) × (Int32 → Int32 → mS → Option (kO × mS)) × (Int32 → Int32 → mS → Option (kO × mS))) (a1 : Int32) (a2 : Int32) (a3 : Int32) (α : mS) : Option (kO × mS) := mBi (kk.2.1 a1 (a3 + 1) α) fun v3 α1 => (mBi ((G_alike N dp_alike).2 v3 a2 1 α1) fun v6 α4 => (if v6 = 0 then (some (none, (mTh α4 4 (-1)))) else (some (some none, α4))))
set_option maxHeartbeats 4000000 in
set_option maxRecDepth 100000 in
theorem k_Mod_check {l : Launch} {g : mG} {α : mS} (N : Nat) (kk : (Int32 → Int32 → Int32 → mS → Option (kO × mS)) × (Int32 → Int32 → mS → Option (kO × mS)) × (Int32 → Int32 → mS → Option (kO × mS)) × (Int32 → Int32 → mS → Option (kO × mS))) (d : Nat) (hk : hk_check l g kk (1312 + d) (37618 + 27 * d)) (a1 : Int32) (a2 : Int32) (a3 : Int32)  : ∀ x, f_Mod_check N kk a1 a2 a3 α = some x → mC l g y_Mod_check b_Mod_check 4 none (1312 + (d + 1)) (37618 + 27 * (d + 1)) [.ref (mad g 0), .int a1, .int a2, .int a3] α (mQr x) := by
  intro x h
  unfold f_Mod_check at h
  refine mc_ofW (by decide) (fun A p e s m args below meth c S hr hlocks hno hargs E hI => ?_)
  have hx := S.1
  have hb := S.2.1
  have hown := S.2.2.2.1
  have hT := S.2.2.2.2
  subst hargs
  have hl := lv_entry ([.ref (mad g 0), .int a1, .int a2, .int a3]) (n := 4) (Nat.le_of_ble_eq_true rfl)
  rw [lg_entry_eq]
  generalize (lg_sl ([.ref (mad g 0), .int a1, .int a2, .int a3]) ++ List.replicate (4 - (lg_sl ([.ref (mad g 0), .int a1, .int a2, .int a3])).length) Slot.unset).toArray = ls at hl ⊢
  have hl : lv_has ls 4 [(0, .ref (mad g 0)), (1, .int a1), (2, .int a2), (3, .int a3)] := hl
  refine lv_aload_n hx hb d_Mod_check_0 rfl (lv_at hl 0 rfl) ?_
  refine lv_aload_n hx hb d_Mod_check_1 rfl (lv_at hl 0 rfl) ?_
  refine lv_iload_n hx hb d_Mod_check_2 rfl (lv_at hl 1 rfl) ?_
  refine lv_iload_n hx hb d_Mod_check_3 rfl (lv_at hl 3 rfl) ?_
  refine lv_iconst (v := 1) hx hb d_Mod_check_4 (by decide) ?_
  refine lv_iadd hx hb d_Mod_check_5 ?_
  refine mg_cI (As := [.int a1, .int (a3 + 1)]) (rest := [.ref (mad g 0)]) h (hk.2.1 a1 (a3 + 1) α) S hlocks hno E hI kw_Mod_479 ⟨by omega, by omega⟩ (mv_Mod E hI) rfl hl.1 rfl (Nat.le_of_ble_eq_true rfl) d_Mod_check_6 (fun v3 α1 H locs e2 h hI => ?_)
  refine lv_iload_n hx hb d_Mod_check_9 rfl (lv_at hl 2 rfl) ?_
  refine lv_iconst (v := 1) hx hb d_Mod_check_10 (by decide) ?_
  refine mg_cI (As := [.int v3, .int a2, .int 1]) (rest := []) h (((ok_alike (l := l) (g := g) N dp_alike).2) v3 a2 1 α1) S hlocks hno E hI kw_Mod_464 ⟨by unfold dp_alike; omega, by unfold dp_alike; omega⟩ (mv_Mod E hI) rfl hl.1 rfl (Nat.le_of_ble_eq_true rfl) d_Mod_check_11 (fun v6 α4 H locs e5 h hI => ?_)
  refine lv_if_ne (tgt := 22) hx hb d_Mod_check_14 (by decide) (fun c7 => ?_) (fun c7 => ?_)
  · replace h := Eq.trans (if_neg c7).symm h
    exact mc_vret hx hb hr hlocks E hI h d_Mod_check_22
  · replace h := Eq.trans (if_pos c7).symm h
    refine lv_iconst (v := 4) hx hb d_Mod_check_17 (by decide) ?_
    refine mg_fails S E hI kw_Mod_323 hl.1 ⟨by omega, by omega⟩ (Nat.le_of_ble_eq_true rfl) d_Mod_check_18 (fun q H locs hN => ?_)
    exact mg_athrow S hlocks hno E hN h d_Mod_check_21
theorem kw_Mod_488 : kWv "FamilyKernelModel" 488 "FamilyKernelModel" y_Mod_inferApplied b_Mod_inferApplied 8 (some .int) 2 := ⟨vt_1587, vt_1588, vt_1589, vt_1349, vt_1590, by decide, by decide, by decide +kernel⟩
theorem kw_Mod_477 : kWv "FamilyKernelModel" 477 "FamilyKernelModel" y_Mod_sortOf b_Mod_sortOf 4 (some .int) 2 := ⟨vt_1433, vt_1434, vt_1435, vt_1349, vt_1436, by decide, by decide, by decide +kernel⟩
theorem kw_Mod_482 : kWv "FamilyKernelModel" 482 "FamilyKernelModel" y_Mod_close b_Mod_close 4 (some .int) 2 := ⟨vt_1583, vt_1584, vt_1585, vt_1349, vt_1586, by decide, by decide, by decide +kernel⟩
theorem kw_Mod_485 : kWv "FamilyKernelModel" 485 "FamilyKernelModel" y_Mod_check b_Mod_check 4 none 3 := ⟨vt_1437, vt_1438, vt_1439, vt_1349, vt_1440, by decide, by decide, by decide +kernel⟩
def f_Mod_infer_j155 (N : Nat)  (kk : (Int32 → Int32 → Int32 → mS → Option (kO × mS)) × (Int32 → Int32 → mS → Option (kO × mS)) × (Int32 → Int32 → mS → Option (kO × mS)) × (Int32 → Int32 → mS → Option (kO × mS))) (y1 : Int32) (γ : mS) : Option (kO × mS) := if y1 < 0 ∨ 400000 ≤ (y1 : Int32).toNatClampNeg then none else (if (γ.2 3 (y1 : Int32).toNatClampNeg) < 0 ∨ 301 ≤ ((γ.2 3 (y1 : Int32).toNatClampNeg) : Int32).toNatClampNeg then none else (if y1 < 0 ∨ 400000 ≤ (y1 : Int32).toNatClampNeg then none else (mBi (f_Mod_leveled N (γ.2 21 ((γ.2 3 (y1 : Int32).toNatClampNeg) : Int32).toNatClampNeg) (γ.2 4 (y1 : Int32).toNatClampNeg) γ) fun v21 α19 => (if v21 < 0 ∨ 400000 ≤ (v21 : Int32).toNatClampNeg then none else (mBv (f_Mod_costs N (α19.2 6 (v21 : Int32).toNatClampNeg) α19) fun α23 => (some (some (some v21), α23)))))))
def f_Mod_infer (N : Nat) (kk : (Int32 → Int32 → Int32 → mS → Option (kO × mS)) × (Int32 → Int32 → mS → Option (kO × mS)) × (Int32 → Int32 → mS → Option (kO × mS)) × (Int32 → Int32 → mS → Option (kO × mS))) (a1 : Int32) (a2 : Int32) (α : mS) : Option (kO × mS) := if a2 ≤ 150 then (if a1 < 0 ∨ 400000 ≤ (a1 : Int32).toNatClampNeg then none else (if (α.2 2 (a1 : Int32).toNatClampNeg) = 0 then (if a1 < 0 ∨ 400000 ≤ (a1 : Int32).toNatClampNeg then none else (if (α.2 3 (a1 : Int32).toNatClampNeg) = 100 then (some (none, (mTh α 7 (-1)))) else (if a1 < 0 ∨ 400000 ≤ (a1 : Int32).toNatClampNeg then none else (mBi (f_Mod_sort N ((α.2 3 (a1 : Int32).toNatClampNeg) + 1) α) fun v9 α7 => (some (some (some v9), α7)))))) else (if (α.2 2 (a1 : Int32).toNatClampNeg) = 1 then (if a1 < 0 ∨ 400000 ≤ (a1 : Int32).toNatClampNeg then none else (if (α.2 3 (a1 : Int32).toNatClampNeg) < 0 ∨ 301 ≤ ((α.2 3 (a1 : Int32).toNatClampNeg) : Int32).toNatClampNeg then none else (some (some (some (α.2 13 ((α.2 3 (a1 : Int32).toNatClampNeg) : Int32).toNatClampNeg)), α)))) else (if (α.2 2 (a1 : Int32).toNatClampNeg) = 2 then (if a1 < 0 ∨ 400000 ≤ (a1 : Int32).toNatClampNeg then none else (if (α.2 4 (a1 : Int32).toNatClampNeg) ≤ 0 then (f_Mod_infer_j155 N kk a1 α) else (if a1 < 0 ∨ 400000 ≤ (a1 : Int32).toNatClampNeg then none else (if (α.2 3 (a1 : Int32).toNatClampNeg) < 0 ∨ 301 ≤ ((α.2 3 (a1 : Int32).toNatClampNeg) : Int32).toNatClampNeg then none else (if (α.2 24 ((α.2 3 (a1 : Int32).toNatClampNeg) : Int32).toNatClampNeg) = 0 then (some (none, (mTh α 9 (-1)))) else (f_Mod_infer_j155 N kk a1 α)))))) else (if (α.2 2 (a1 : Int32).toNatClampNeg) = 3 then (if a1 < 0 ∨ 400000 ≤ (a1 : Int32).toNatClampNeg then none else (if (α.2 3 (a1 : Int32).toNatClampNeg) < 0 ∨ 66000 ≤ ((α.2 3 (a1 : Int32).toNatClampNeg) : Int32).toNatClampNeg then none else (some (some (some (α.2 32 ((α.2 3 (a1 : Int32).toNatClampNeg) : Int32).toNatClampNeg)), α)))) else (if (α.2 2 (a1 : Int32).toNatClampNeg) = 4 then (mBi (kk.2.2.1 a1 a2 α) fun v34 α32 => (some (some (some v34), α32))) else (if (α.2 2 (a1 : Int32).toNatClampNeg) = 5 then (mBi (kk.2.2.1 a1 a2 α) fun v38 α36 => (some (some (some v38), α36))) else (if (α.2 2 (a1 : Int32).toNatClampNeg) = 6 then (if a1 < 0 ∨ 400000 ≤ (a1 : Int32).toNatClampNeg then none else (mBi (kk.2.2.2 (α.2 3 (a1 : Int32).toNatClampNeg) a2 α) fun v43 α41 => (if a1 < 0 ∨ 400000 ≤ (a1 : Int32).toNatClampNeg then none else (if a1 < 0 ∨ 400000 ≤ (a1 : Int32).toNatClampNeg then none else (mBi (f_Mod_fresh N (α41.2 3 (a1 : Int32).toNatClampNeg) α41) fun v48 α46 => (mBi (f_Mod_open N (α41.2 4 (a1 : Int32).toNatClampNeg) v48 α46) fun v51 α49 => (mBi (kk.2.2.2 v51 a2 α49) fun v54 α52 => (if v54 = 0 then (mBi (f_Mod_sort N 0 α52) fun v61 α59 => (some (some (some v61), α59))) else (mBi (f_Mod_sort N (if v43 < v54 then v54 else v43) α52) fun v58 α56 => (some (some (some v58), α56))))))))))) else (if (α.2 2 (a1 : Int32).toNatClampNeg) = 7 then (if a1 < 0 ∨ 400000 ≤ (a1 : Int32).toNatClampNeg then none else (mBi (kk.2.2.2 (α.2 3 (a1 : Int32).toNatClampNeg) a2 α) fun v66 α64 => (if a1 < 0 ∨ 400000 ≤ (a1 : Int32).toNatClampNeg then none else (mBi (f_Mod_fresh N (α64.2 3 (a1 : Int32).toNatClampNeg) α64) fun v70 α68 => (if a1 < 0 ∨ 400000 ≤ (a1 : Int32).toNatClampNeg then none else (mBi (f_Mod_open N (α68.2 4 (a1 : Int32).toNatClampNeg) v70 α68) fun v74 α72 => (mBi (kk.2.1 v74 (a2 + 1) α72) fun v77 α75 => (if a1 < 0 ∨ 400000 ≤ (a1 : Int32).toNatClampNeg then none else (if v70 < 0 ∨ 400000 ≤ (v70 : Int32).toNatClampNeg then none else (mBi (f_Mod_close N v77 (α75.2 3 (v70 : Int32).toNatClampNeg) α75) fun v82 α80 => (mBi (f_Mod_node N 6 (α75.2 3 (a1 : Int32).toNatClampNeg) v82 0 α80) fun v85 α83 => (mBi (f_Mod_fits N v85 α83) fun v88 α86 => (some (some (some v88), α86)))))))))))))) else (if (α.2 2 (a1 : Int32).toNatClampNeg) = 8 then (mBi (kk.2.2.1 a1 a2 α) fun v92 α90 => (some (some (some v92), α90))) else (if (α.2 2 (a1 : Int32).toNatClampNeg) = 9 then (if a1 < 0 ∨ 400000 ≤ (a1 : Int32).toNatClampNeg then none else (mBi (kk.2.2.2 (α.2 3 (a1 : Int32).toNatClampNeg) a2 α) fun v97 α95 => (if a1 < 0 ∨ 400000 ≤ (a1 : Int32).toNatClampNeg then none else (if a1 < 0 ∨ 400000 ≤ (a1 : Int32).toNatClampNeg then none else (mBv (kk.1 (α95.2 4 (a1 : Int32).toNatClampNeg) (α95.2 3 (a1 : Int32).toNatClampNeg) a2 α95) fun α100 => (if a1 < 0 ∨ 400000 ≤ (a1 : Int32).toNatClampNeg then none else (if a1 < 0 ∨ 400000 ≤ (a1 : Int32).toNatClampNeg then none else (mBi (f_Mod_open N (α100.2 5 (a1 : Int32).toNatClampNeg) (α100.2 4 (a1 : Int32).toNatClampNeg) α100) fun v106 α104 => (mBi (kk.2.1 v106 (a2 + 1) α104) fun v109 α107 => (some (some (some v109), α107))))))))))) else (mBi (kk.2.2.1 a1 a2 α) fun v112 α110 => (some (some (some v112), α110)))))))))))))) else (some (none, (mTh α 10 (-1))))
set_option maxHeartbeats 4000000 in
set_option maxRecDepth 100000 in
theorem k_Mod_infer {l : Launch} {g : mG} {α : mS} (N : Nat) (kk : (Int32 → Int32 → Int32 → mS → Option (kO × mS)) × (Int32 → Int32 → mS → Option (kO × mS)) × (Int32 → Int32 → mS → Option (kO × mS)) × (Int32 → Int32 → mS → Option (kO × mS))) (d : Nat) (hk : hk_check l g kk (1312 + d) (37618 + 27 * d)) (a1 : Int32) (a2 : Int32)  : ∀ x, f_Mod_infer N kk a1 a2 α = some x → mC l g y_Mod_infer b_Mod_infer 8 (some .int) (1312 + (d + 1)) (37618 + 27 * (d + 1)) [.ref (mad g 0), .int a1, .int a2] α (mQr x) := by
  intro x h
  unfold f_Mod_infer at h
  refine mc_ofW (by decide) (fun A p e s m args below meth c S hr hlocks hno hargs E hI => ?_)
  have hx := S.1
  have hb := S.2.1
  have hown := S.2.2.2.1
  have hT := S.2.2.2.2
  subst hargs
  have hl := lv_entry ([.ref (mad g 0), .int a1, .int a2]) (n := 8) (Nat.le_of_ble_eq_true rfl)
  rw [lg_entry_eq]
  generalize (lg_sl ([.ref (mad g 0), .int a1, .int a2]) ++ List.replicate (8 - (lg_sl ([.ref (mad g 0), .int a1, .int a2])).length) Slot.unset).toArray = ls at hl ⊢
  have hl : lv_has ls 8 [(0, .ref (mad g 0)), (1, .int a1), (2, .int a2)] := hl
  have J155 : ∀ (y1 : Int32) (γ : mS) (H : Heap) (locs : List Loc) (ls : Array Slot), f_Mod_infer_j155 N kk y1 γ = some x → mI g A s γ H locs → lv_has ls 8 [(0, .ref (mad g 0)), (1, .int y1)] → W p l e (mR (1312 + (d + 1)) (37618 + 27 * (d + 1))) s m ([.ref (mad g 0), .int a1, .int a2]).toArray below meth c H locs 0 0 (vEQ below (mQ g A (mQr x)) ([.ref (mad g 0), .int a1, .int a2]).toArray s A) (F0 m 155 ls []) := by
    intro y1 γ H locs ls h hI hl
    unfold f_Mod_infer_j155 at h
    refine lv_aload_n hx hb d_Mod_infer_155 rfl (lv_at hl 0 rfl) ?_
    refine lv_aload_n hx hb d_Mod_infer_156 rfl (lv_at hl 0 rfl) ?_
    refine mf_recType S E hI vt_1305 d_Mod_infer_157 ?_
    refine lv_aload_n hx hb d_Mod_infer_160 rfl (lv_at hl 0 rfl) ?_
    refine mf_one S E hI vt_1280 d_Mod_infer_161 ?_
    refine lv_iload_n hx hb d_Mod_infer_164 rfl (lv_at hl 1 rfl) ?_
    by_cases c16 : y1 < 0 ∨ 400000 ≤ (y1 : Int32).toNatClampNeg
    · replace h := Eq.trans (if_pos c16).symm h
      cases h
    · replace h := Eq.trans (if_neg c16).symm h
      refine ml_one S E hI c16 d_Mod_infer_165 ?_
      by_cases c17 : (γ.2 3 (y1 : Int32).toNatClampNeg) < 0 ∨ 301 ≤ ((γ.2 3 (y1 : Int32).toNatClampNeg) : Int32).toNatClampNeg
      · replace h := Eq.trans (if_pos c17).symm h
        cases h
      · replace h := Eq.trans (if_neg c17).symm h
        refine ml_recType S E hI c17 d_Mod_infer_166 ?_
        refine lv_aload_n hx hb d_Mod_infer_167 rfl (lv_at hl 0 rfl) ?_
        refine mf_two S E hI vt_1281 d_Mod_infer_168 ?_
        refine lv_iload_n hx hb d_Mod_infer_171 rfl (lv_at hl 1 rfl) ?_
        by_cases c18 : y1 < 0 ∨ 400000 ≤ (y1 : Int32).toNatClampNeg
        · replace h := Eq.trans (if_pos c18).symm h
          cases h
        · replace h := Eq.trans (if_neg c18).symm h
          refine ml_two S E hI c18 d_Mod_infer_172 ?_
          refine mg_cI (As := [.int (γ.2 21 ((γ.2 3 (y1 : Int32).toNatClampNeg) : Int32).toNatClampNeg), .int (γ.2 4 (y1 : Int32).toNatClampNeg)]) (rest := []) h (k_Mod_leveled (l := l) (g := g) (α := γ) N (γ.2 21 ((γ.2 3 (y1 : Int32).toNatClampNeg) : Int32).toNatClampNeg) (γ.2 4 (y1 : Int32).toNatClampNeg)) S hlocks hno E hI kw_Mod_461 ⟨by omega, by omega⟩ (mv_Mod E hI) rfl hl.1 rfl (Nat.le_of_ble_eq_true rfl) d_Mod_infer_173 (fun v21 α19 H locs e20 h hI => ?_)
          refine lv_istore_n (lv' := [(3, .int v21), (0, .ref (mad g 0)), (1, .int y1)]) hx hb d_Mod_infer_176 rfl hl (by decide) rfl (fun ls hl => ?_)
          refine lv_aload_n hx hb d_Mod_infer_177 rfl (lv_at hl 1 rfl) ?_
          refine lv_aload_n hx hb d_Mod_infer_178 rfl (lv_at hl 1 rfl) ?_
          refine mf_big S E hI vt_1283 d_Mod_infer_179 ?_
          refine lv_iload_n hx hb d_Mod_infer_182 rfl (lv_at hl 0 rfl) ?_
          by_cases c22 : v21 < 0 ∨ 400000 ≤ (v21 : Int32).toNatClampNeg
          · replace h := Eq.trans (if_pos c22).symm h
            cases h
          · replace h := Eq.trans (if_neg c22).symm h
            refine ml_big S E hI c22 d_Mod_infer_183 ?_
            refine mg_cV (As := [.int (α19.2 6 (v21 : Int32).toNatClampNeg)]) (rest := []) h (k_Mod_costs (l := l) (g := g) (α := α19) N (α19.2 6 (v21 : Int32).toNatClampNeg)) S hlocks hno E hI kw_Mod_434 ⟨by omega, by omega⟩ (mv_Mod E hI) rfl hl.1 rfl (Nat.le_of_ble_eq_true rfl) d_Mod_infer_184 (fun α23 H locs e24 h hI => ?_)
            refine lv_iload_n hx hb d_Mod_infer_187 rfl (lv_at hl 0 rfl) ?_
            exact mc_iret (w := v21) hx hb hr rfl hlocks E hI h d_Mod_infer_188
  refine lv_iload_n hx hb d_Mod_infer_0 rfl (lv_at hl 2 rfl) ?_
  refine lv_sipush (v := 150) hx hb d_Mod_infer_1 (by decide) ?_
  refine lv_icmp_le (tgt := 13) hx hb d_Mod_infer_4 (by decide) (fun c1 => ?_) (fun c1 => ?_)
  · replace h := Eq.trans (if_pos c1).symm h
    refine lv_aload_n hx hb d_Mod_infer_13 rfl (lv_at hl 0 rfl) ?_
    refine mf_kind S E hI vt_1279 d_Mod_infer_14 ?_
    refine lv_iload_n hx hb d_Mod_infer_17 rfl (lv_at hl 1 rfl) ?_
    by_cases c2 : a1 < 0 ∨ 400000 ≤ (a1 : Int32).toNatClampNeg
    · replace h := Eq.trans (if_pos c2).symm h
      cases h
    · replace h := Eq.trans (if_neg c2).symm h
      refine ml_kind S E hI c2 d_Mod_infer_18 ?_
      by_cases c3 : (α.2 2 (a1 : Int32).toNatClampNeg) = 0
      · replace h := Eq.trans (if_pos c3).symm h
        refine lv_tableIn (off := 53) (tgt := 72) hx hb d_Mod_infer_19 (by rw [c3]; decide) (by rw [c3]; decide) (by rw [c3]; rfl) (by decide) ?_
        refine lv_aload_n hx hb d_Mod_infer_72 rfl (lv_at hl 0 rfl) ?_
        refine mf_one S E hI vt_1280 d_Mod_infer_73 ?_
        refine lv_iload_n hx hb d_Mod_infer_76 rfl (lv_at hl 1 rfl) ?_
        by_cases c4 : a1 < 0 ∨ 400000 ≤ (a1 : Int32).toNatClampNeg
        · replace h := Eq.trans (if_pos c4).symm h
          cases h
        · replace h := Eq.trans (if_neg c4).symm h
          refine ml_one S E hI c4 d_Mod_infer_77 ?_
          refine lv_bipush (v := 100) hx hb d_Mod_infer_78 (by decide) ?_
          refine lv_icmp_ne (tgt := 89) hx hb d_Mod_infer_80 (by decide) (fun c5 => ?_) (fun c5 => ?_)
          · replace h := Eq.trans (if_neg c5).symm h
            refine lv_aload_n hx hb d_Mod_infer_89 rfl (lv_at hl 0 rfl) ?_
            refine lv_aload_n hx hb d_Mod_infer_90 rfl (lv_at hl 0 rfl) ?_
            refine mf_one S E hI vt_1280 d_Mod_infer_91 ?_
            refine lv_iload_n hx hb d_Mod_infer_94 rfl (lv_at hl 1 rfl) ?_
            by_cases c6 : a1 < 0 ∨ 400000 ≤ (a1 : Int32).toNatClampNeg
            · replace h := Eq.trans (if_pos c6).symm h
              cases h
            · replace h := Eq.trans (if_neg c6).symm h
              refine ml_one S E hI c6 d_Mod_infer_95 ?_
              refine lv_iconst (v := 1) hx hb d_Mod_infer_96 (by decide) ?_
              refine lv_iadd hx hb d_Mod_infer_97 ?_
              refine mg_cI (As := [.int ((α.2 3 (a1 : Int32).toNatClampNeg) + 1)]) (rest := []) h (k_Mod_sort (l := l) (g := g) (α := α) N ((α.2 3 (a1 : Int32).toNatClampNeg) + 1)) S hlocks hno E hI kw_Mod_356 ⟨by omega, by omega⟩ (mv_Mod E hI) rfl hl.1 rfl (Nat.le_of_ble_eq_true rfl) d_Mod_infer_98 (fun v9 α7 H locs e8 h hI => ?_)
              exact mc_iret (w := v9) hx hb hr rfl hlocks E hI h d_Mod_infer_101
          · replace h := Eq.trans (if_pos c5).symm h
            refine lv_bipush (v := 7) hx hb d_Mod_infer_83 (by decide) ?_
            refine mg_fails S E hI kw_Mod_323 hl.1 ⟨by omega, by omega⟩ (Nat.le_of_ble_eq_true rfl) d_Mod_infer_85 (fun q H locs hN => ?_)
            exact mg_athrow S hlocks hno E hN h d_Mod_infer_88
      · replace h := Eq.trans (if_neg c3).symm h
        have nc3 := ksw (z := 0) rfl c3
        by_cases c10 : (α.2 2 (a1 : Int32).toNatClampNeg) = 1
        · replace h := Eq.trans (if_pos c10).symm h
          refine lv_tableIn (off := 95) (tgt := 114) hx hb d_Mod_infer_19 (by rw [c10]; decide) (by rw [c10]; decide) (by rw [c10]; rfl) (by decide) ?_
          refine lv_aload_n hx hb d_Mod_infer_114 rfl (lv_at hl 0 rfl) ?_
          refine mf_typeOf S E hI vt_1297 d_Mod_infer_115 ?_
          refine lv_aload_n hx hb d_Mod_infer_118 rfl (lv_at hl 0 rfl) ?_
          refine mf_one S E hI vt_1280 d_Mod_infer_119 ?_
          refine lv_iload_n hx hb d_Mod_infer_122 rfl (lv_at hl 1 rfl) ?_
          by_cases c11 : a1 < 0 ∨ 400000 ≤ (a1 : Int32).toNatClampNeg
          · replace h := Eq.trans (if_pos c11).symm h
            cases h
          · replace h := Eq.trans (if_neg c11).symm h
            refine ml_one S E hI c11 d_Mod_infer_123 ?_
            by_cases c12 : (α.2 3 (a1 : Int32).toNatClampNeg) < 0 ∨ 301 ≤ ((α.2 3 (a1 : Int32).toNatClampNeg) : Int32).toNatClampNeg
            · replace h := Eq.trans (if_pos c12).symm h
              cases h
            · replace h := Eq.trans (if_neg c12).symm h
              refine ml_typeOf S E hI c12 d_Mod_infer_124 ?_
              exact mc_iret (w := (α.2 13 ((α.2 3 (a1 : Int32).toNatClampNeg) : Int32).toNatClampNeg)) hx hb hr rfl hlocks E hI h d_Mod_infer_125
        · replace h := Eq.trans (if_neg c10).symm h
          have nc10 := ksw (z := 1) rfl c10
          by_cases c13 : (α.2 2 (a1 : Int32).toNatClampNeg) = 2
          · replace h := Eq.trans (if_pos c13).symm h
            refine lv_tableIn (off := 107) (tgt := 126) hx hb d_Mod_infer_19 (by rw [c13]; decide) (by rw [c13]; decide) (by rw [c13]; rfl) (by decide) ?_
            refine lv_aload_n hx hb d_Mod_infer_126 rfl (lv_at hl 0 rfl) ?_
            refine mf_two S E hI vt_1281 d_Mod_infer_127 ?_
            refine lv_iload_n hx hb d_Mod_infer_130 rfl (lv_at hl 1 rfl) ?_
            by_cases c14 : a1 < 0 ∨ 400000 ≤ (a1 : Int32).toNatClampNeg
            · replace h := Eq.trans (if_pos c14).symm h
              cases h
            · replace h := Eq.trans (if_neg c14).symm h
              refine ml_two S E hI c14 d_Mod_infer_131 ?_
              refine lv_if_le (tgt := 155) hx hb d_Mod_infer_132 (by decide) (fun c15 => ?_) (fun c15 => ?_)
              · replace h := Eq.trans (if_pos c15).symm h
                exact J155 a1 _ _ _ _ h hI (lv_sub hl [0, 1] rfl)
              · replace h := Eq.trans (if_neg c15).symm h
                refine lv_aload_n hx hb d_Mod_infer_135 rfl (lv_at hl 0 rfl) ?_
                refine mf_large S E hI vt_1309 d_Mod_infer_136 ?_
                refine lv_aload_n hx hb d_Mod_infer_139 rfl (lv_at hl 0 rfl) ?_
                refine mf_one S E hI vt_1280 d_Mod_infer_140 ?_
                refine lv_iload_n hx hb d_Mod_infer_143 rfl (lv_at hl 1 rfl) ?_
                by_cases c25 : a1 < 0 ∨ 400000 ≤ (a1 : Int32).toNatClampNeg
                · replace h := Eq.trans (if_pos c25).symm h
                  cases h
                · replace h := Eq.trans (if_neg c25).symm h
                  refine ml_one S E hI c25 d_Mod_infer_144 ?_
                  by_cases c26 : (α.2 3 (a1 : Int32).toNatClampNeg) < 0 ∨ 301 ≤ ((α.2 3 (a1 : Int32).toNatClampNeg) : Int32).toNatClampNeg
                  · replace h := Eq.trans (if_pos c26).symm h
                    cases h
                  · replace h := Eq.trans (if_neg c26).symm h
                    refine ml_large S E hI c26 d_Mod_infer_145 ?_
                    refine lv_if_ne (tgt := 155) hx hb d_Mod_infer_146 (by decide) (fun c27 => ?_) (fun c27 => ?_)
                    · replace h := Eq.trans (if_neg c27).symm h
                      exact J155 a1 _ _ _ _ h hI (lv_sub hl [0, 1] rfl)
                    · replace h := Eq.trans (if_pos c27).symm h
                      refine lv_bipush (v := 9) hx hb d_Mod_infer_149 (by decide) ?_
                      refine mg_fails S E hI kw_Mod_323 hl.1 ⟨by omega, by omega⟩ (Nat.le_of_ble_eq_true rfl) d_Mod_infer_151 (fun q H locs hN => ?_)
                      exact mg_athrow S hlocks hno E hN h d_Mod_infer_154
          · replace h := Eq.trans (if_neg c13).symm h
            have nc13 := ksw (z := 2) rfl c13
            by_cases c28 : (α.2 2 (a1 : Int32).toNatClampNeg) = 3
            · replace h := Eq.trans (if_pos c28).symm h
              refine lv_tableIn (off := 83) (tgt := 102) hx hb d_Mod_infer_19 (by rw [c28]; decide) (by rw [c28]; decide) (by rw [c28]; rfl) (by decide) ?_
              refine lv_aload_n hx hb d_Mod_infer_102 rfl (lv_at hl 0 rfl) ?_
              refine mf_typeOfVariable S E hI vt_1325 d_Mod_infer_103 ?_
              refine lv_aload_n hx hb d_Mod_infer_106 rfl (lv_at hl 0 rfl) ?_
              refine mf_one S E hI vt_1280 d_Mod_infer_107 ?_
              refine lv_iload_n hx hb d_Mod_infer_110 rfl (lv_at hl 1 rfl) ?_
              by_cases c29 : a1 < 0 ∨ 400000 ≤ (a1 : Int32).toNatClampNeg
              · replace h := Eq.trans (if_pos c29).symm h
                cases h
              · replace h := Eq.trans (if_neg c29).symm h
                refine ml_one S E hI c29 d_Mod_infer_111 ?_
                by_cases c30 : (α.2 3 (a1 : Int32).toNatClampNeg) < 0 ∨ 66000 ≤ ((α.2 3 (a1 : Int32).toNatClampNeg) : Int32).toNatClampNeg
                · replace h := Eq.trans (if_pos c30).symm h
                  cases h
                · replace h := Eq.trans (if_neg c30).symm h
                  refine ml_typeOfVariable S E hI c30 d_Mod_infer_112 ?_
                  exact mc_iret (w := (α.2 32 ((α.2 3 (a1 : Int32).toNatClampNeg) : Int32).toNatClampNeg)) hx hb hr rfl hlocks E hI h d_Mod_infer_113
            · replace h := Eq.trans (if_neg c28).symm h
              have nc28 := ksw (z := 3) rfl c28
              by_cases c31 : (α.2 2 (a1 : Int32).toNatClampNeg) = 4
              · replace h := Eq.trans (if_pos c31).symm h
                refine lv_tableIn (off := 360) (tgt := 379) hx hb d_Mod_infer_19 (by rw [c31]; decide) (by rw [c31]; decide) (by rw [c31]; rfl) (by decide) ?_
                refine lv_aload_n hx hb d_Mod_infer_379 rfl (lv_at hl 0 rfl) ?_
                refine lv_iload_n hx hb d_Mod_infer_380 rfl (lv_at hl 1 rfl) ?_
                refine lv_iload_n hx hb d_Mod_infer_381 rfl (lv_at hl 2 rfl) ?_
                refine mg_cI (As := [.int a1, .int a2]) (rest := []) h (hk.2.2.1 a1 a2 α) S hlocks hno E hI kw_Mod_488 ⟨by omega, by omega⟩ (mv_Mod E hI) rfl hl.1 rfl (Nat.le_of_ble_eq_true rfl) d_Mod_infer_382 (fun v34 α32 H locs e33 h hI => ?_)
                exact mc_iret (w := v34) hx hb hr rfl hlocks E hI h d_Mod_infer_385
              · replace h := Eq.trans (if_neg c31).symm h
                have nc31 := ksw (z := 4) rfl c31
                by_cases c35 : (α.2 2 (a1 : Int32).toNatClampNeg) = 5
                · replace h := Eq.trans (if_pos c35).symm h
                  refine lv_tableIn (off := 360) (tgt := 379) hx hb d_Mod_infer_19 (by rw [c35]; decide) (by rw [c35]; decide) (by rw [c35]; rfl) (by decide) ?_
                  refine lv_aload_n hx hb d_Mod_infer_379 rfl (lv_at hl 0 rfl) ?_
                  refine lv_iload_n hx hb d_Mod_infer_380 rfl (lv_at hl 1 rfl) ?_
                  refine lv_iload_n hx hb d_Mod_infer_381 rfl (lv_at hl 2 rfl) ?_
                  refine mg_cI (As := [.int a1, .int a2]) (rest := []) h (hk.2.2.1 a1 a2 α) S hlocks hno E hI kw_Mod_488 ⟨by omega, by omega⟩ (mv_Mod E hI) rfl hl.1 rfl (Nat.le_of_ble_eq_true rfl) d_Mod_infer_382 (fun v38 α36 H locs e37 h hI => ?_)
                  exact mc_iret (w := v38) hx hb hr rfl hlocks E hI h d_Mod_infer_385
                · replace h := Eq.trans (if_neg c35).symm h
                  have nc35 := ksw (z := 5) rfl c35
                  by_cases c39 : (α.2 2 (a1 : Int32).toNatClampNeg) = 6
                  · replace h := Eq.trans (if_pos c39).symm h
                    refine lv_tableIn (off := 170) (tgt := 189) hx hb d_Mod_infer_19 (by rw [c39]; decide) (by rw [c39]; decide) (by rw [c39]; rfl) (by decide) ?_
                    refine lv_aload_n hx hb d_Mod_infer_189 rfl (lv_at hl 0 rfl) ?_
                    refine lv_aload_n hx hb d_Mod_infer_190 rfl (lv_at hl 0 rfl) ?_
                    refine mf_one S E hI vt_1280 d_Mod_infer_191 ?_
                    refine lv_iload_n hx hb d_Mod_infer_194 rfl (lv_at hl 1 rfl) ?_
                    by_cases c40 : a1 < 0 ∨ 400000 ≤ (a1 : Int32).toNatClampNeg
                    · replace h := Eq.trans (if_pos c40).symm h
                      cases h
                    · replace h := Eq.trans (if_neg c40).symm h
                      refine ml_one S E hI c40 d_Mod_infer_195 ?_
                      refine lv_iload_n hx hb d_Mod_infer_196 rfl (lv_at hl 2 rfl) ?_
                      refine mg_cI (As := [.int (α.2 3 (a1 : Int32).toNatClampNeg), .int a2]) (rest := []) h (hk.2.2.2 (α.2 3 (a1 : Int32).toNatClampNeg) a2 α) S hlocks hno E hI kw_Mod_477 ⟨by omega, by omega⟩ (mv_Mod E hI) rfl hl.1 rfl (Nat.le_of_ble_eq_true rfl) d_Mod_infer_197 (fun v43 α41 H locs e42 h hI => ?_)
                      refine lv_istore (lv' := [(4, .int v43), (0, .ref (mad g 0)), (1, .int a1), (2, .int a2)]) hx hb d_Mod_infer_200 hl (by decide) rfl (fun ls hl => ?_)
                      refine lv_aload_n hx hb d_Mod_infer_202 rfl (lv_at hl 1 rfl) ?_
                      refine lv_aload_n hx hb d_Mod_infer_203 rfl (lv_at hl 1 rfl) ?_
                      refine lv_aload_n hx hb d_Mod_infer_204 rfl (lv_at hl 1 rfl) ?_
                      refine mf_two S E hI vt_1281 d_Mod_infer_205 ?_
                      refine lv_iload_n hx hb d_Mod_infer_208 rfl (lv_at hl 2 rfl) ?_
                      by_cases c44 : a1 < 0 ∨ 400000 ≤ (a1 : Int32).toNatClampNeg
                      · replace h := Eq.trans (if_pos c44).symm h
                        cases h
                      · replace h := Eq.trans (if_neg c44).symm h
                        refine ml_two S E hI c44 d_Mod_infer_209 ?_
                        refine lv_aload_n hx hb d_Mod_infer_210 rfl (lv_at hl 1 rfl) ?_
                        refine lv_aload_n hx hb d_Mod_infer_211 rfl (lv_at hl 1 rfl) ?_
                        refine mf_one S E hI vt_1280 d_Mod_infer_212 ?_
                        refine lv_iload_n hx hb d_Mod_infer_215 rfl (lv_at hl 2 rfl) ?_
                        by_cases c45 : a1 < 0 ∨ 400000 ≤ (a1 : Int32).toNatClampNeg
                        · replace h := Eq.trans (if_pos c45).symm h
                          cases h
                        · replace h := Eq.trans (if_neg c45).symm h
                          refine ml_one S E hI c45 d_Mod_infer_216 ?_
                          refine mg_cI (As := [.int (α41.2 3 (a1 : Int32).toNatClampNeg)]) (rest := [.int (α41.2 4 (a1 : Int32).toNatClampNeg), .ref (mad g 0), .ref (mad g 0)]) h (k_Mod_fresh (l := l) (g := g) (α := α41) N (α41.2 3 (a1 : Int32).toNatClampNeg)) S hlocks hno E hI kw_Mod_468 ⟨by omega, by omega⟩ (mv_Mod E hI) rfl hl.1 rfl (Nat.le_of_ble_eq_true rfl) d_Mod_infer_217 (fun v48 α46 H locs e47 h hI => ?_)
                          refine mg_cI (As := [.int (α41.2 4 (a1 : Int32).toNatClampNeg), .int v48]) (rest := [.ref (mad g 0)]) h (k_Mod_open (l := l) (g := g) (α := α46) N (α41.2 4 (a1 : Int32).toNatClampNeg) v48) S hlocks hno E hI kw_Mod_471 ⟨by omega, by omega⟩ (mv_Mod E hI) rfl hl.1 rfl (Nat.le_of_ble_eq_true rfl) d_Mod_infer_220 (fun v51 α49 H locs e50 h hI => ?_)
                          refine lv_iload_n hx hb d_Mod_infer_223 rfl (lv_at hl 3 rfl) ?_
                          refine mg_cI (As := [.int v51, .int a2]) (rest := []) h (hk.2.2.2 v51 a2 α49) S hlocks hno E hI kw_Mod_477 ⟨by omega, by omega⟩ (mv_Mod E hI) rfl hl.1 rfl (Nat.le_of_ble_eq_true rfl) d_Mod_infer_224 (fun v54 α52 H locs e53 h hI => ?_)
                          refine lv_istore (lv' := [(5, .int v54), (4, .int v43), (0, .ref (mad g 0)), (1, .int a1), (2, .int a2)]) hx hb d_Mod_infer_227 hl (by decide) rfl (fun ls hl => ?_)
                          refine lv_aload_n hx hb d_Mod_infer_229 rfl (lv_at hl 2 rfl) ?_
                          refine lv_iload hx hb d_Mod_infer_230 (lv_at hl 0 rfl) ?_
                          refine lv_if_ne (tgt := 239) hx hb d_Mod_infer_232 (by decide) (fun c55 => ?_) (fun c55 => ?_)
                          · replace h := Eq.trans (if_neg c55).symm h
                            refine lv_iload hx hb d_Mod_infer_239 (lv_at hl 1 rfl) ?_
                            refine lv_iload hx hb d_Mod_infer_241 (lv_at hl 0 rfl) ?_
                            refine va_mmax (x := v43) (y := v54) hx hb (S.2.2.1.trans hl.1.symm) hown (hT _ vt_1510) (hT _ vt_553) (hT _ vt_317) (hT _ vt_554) (show 1 ≤ 1312 + (d + 1) by omega) (show _ + 13 ≤ 37618 + 27 * (d + 1) by simp only [List.map, List.sum_cons, List.sum_nil, Value.category]; omega) (Nat.zero_le _) (Nat.zero_le _) d_Mod_infer_243 ?_
                            refine mg_cI (As := [.int (if v43 < v54 then v54 else v43)]) (rest := []) h (k_Mod_sort (l := l) (g := g) (α := α52) N (if v43 < v54 then v54 else v43)) S hlocks hno E hI kw_Mod_356 ⟨by omega, by omega⟩ (mv_Mod E hI) rfl hl.1 rfl (Nat.le_of_ble_eq_true rfl) d_Mod_infer_246 (fun v58 α56 H locs e57 h hI => ?_)
                            exact mc_iret (w := v58) hx hb hr rfl hlocks E hI h d_Mod_infer_249
                          · replace h := Eq.trans (if_pos c55).symm h
                            refine lv_iconst (v := 0) hx hb d_Mod_infer_235 (by decide) ?_
                            refine lv_goto (tgt := 246) hx hb d_Mod_infer_236 (by decide) ?_
                            refine mg_cI (As := [.int 0]) (rest := []) h (k_Mod_sort (l := l) (g := g) (α := α52) N 0) S hlocks hno E hI kw_Mod_356 ⟨by omega, by omega⟩ (mv_Mod E hI) rfl hl.1 rfl (Nat.le_of_ble_eq_true rfl) d_Mod_infer_246 (fun v61 α59 H locs e60 h hI => ?_)
                            exact mc_iret (w := v61) hx hb hr rfl hlocks E hI h d_Mod_infer_249
                  · replace h := Eq.trans (if_neg c39).symm h
                    have nc39 := ksw (z := 6) rfl c39
                    by_cases c62 : (α.2 2 (a1 : Int32).toNatClampNeg) = 7
                    · replace h := Eq.trans (if_pos c62).symm h
                      refine lv_tableIn (off := 231) (tgt := 250) hx hb d_Mod_infer_19 (by rw [c62]; decide) (by rw [c62]; decide) (by rw [c62]; rfl) (by decide) ?_
                      refine lv_aload_n hx hb d_Mod_infer_250 rfl (lv_at hl 0 rfl) ?_
                      refine lv_aload_n hx hb d_Mod_infer_251 rfl (lv_at hl 0 rfl) ?_
                      refine mf_one S E hI vt_1280 d_Mod_infer_252 ?_
                      refine lv_iload_n hx hb d_Mod_infer_255 rfl (lv_at hl 1 rfl) ?_
                      by_cases c63 : a1 < 0 ∨ 400000 ≤ (a1 : Int32).toNatClampNeg
                      · replace h := Eq.trans (if_pos c63).symm h
                        cases h
                      · replace h := Eq.trans (if_neg c63).symm h
                        refine ml_one S E hI c63 d_Mod_infer_256 ?_
                        refine lv_iload_n hx hb d_Mod_infer_257 rfl (lv_at hl 2 rfl) ?_
                        refine mg_cI (As := [.int (α.2 3 (a1 : Int32).toNatClampNeg), .int a2]) (rest := []) h (hk.2.2.2 (α.2 3 (a1 : Int32).toNatClampNeg) a2 α) S hlocks hno E hI kw_Mod_477 ⟨by omega, by omega⟩ (mv_Mod E hI) rfl hl.1 rfl (Nat.le_of_ble_eq_true rfl) d_Mod_infer_258 (fun v66 α64 H locs e65 h hI => ?_)
                        refine lv_pop hx hb d_Mod_infer_261 rfl ?_
                        refine lv_aload_n hx hb d_Mod_infer_262 rfl (lv_at hl 0 rfl) ?_
                        refine lv_aload_n hx hb d_Mod_infer_263 rfl (lv_at hl 0 rfl) ?_
                        refine mf_one S E hI vt_1280 d_Mod_infer_264 ?_
                        refine lv_iload_n hx hb d_Mod_infer_267 rfl (lv_at hl 1 rfl) ?_
                        by_cases c67 : a1 < 0 ∨ 400000 ≤ (a1 : Int32).toNatClampNeg
                        · replace h := Eq.trans (if_pos c67).symm h
                          cases h
                        · replace h := Eq.trans (if_neg c67).symm h
                          refine ml_one S E hI c67 d_Mod_infer_268 ?_
                          refine mg_cI (As := [.int (α64.2 3 (a1 : Int32).toNatClampNeg)]) (rest := []) h (k_Mod_fresh (l := l) (g := g) (α := α64) N (α64.2 3 (a1 : Int32).toNatClampNeg)) S hlocks hno E hI kw_Mod_468 ⟨by omega, by omega⟩ (mv_Mod E hI) rfl hl.1 rfl (Nat.le_of_ble_eq_true rfl) d_Mod_infer_269 (fun v70 α68 H locs e69 h hI => ?_)
                          refine lv_istore (lv' := [(6, .int v70), (0, .ref (mad g 0)), (1, .int a1), (2, .int a2)]) hx hb d_Mod_infer_272 hl (by decide) rfl (fun ls hl => ?_)
                          refine lv_aload_n hx hb d_Mod_infer_274 rfl (lv_at hl 1 rfl) ?_
                          refine lv_aload_n hx hb d_Mod_infer_275 rfl (lv_at hl 1 rfl) ?_
                          refine lv_aload_n hx hb d_Mod_infer_276 rfl (lv_at hl 1 rfl) ?_
                          refine mf_two S E hI vt_1281 d_Mod_infer_277 ?_
                          refine lv_iload_n hx hb d_Mod_infer_280 rfl (lv_at hl 2 rfl) ?_
                          by_cases c71 : a1 < 0 ∨ 400000 ≤ (a1 : Int32).toNatClampNeg
                          · replace h := Eq.trans (if_pos c71).symm h
                            cases h
                          · replace h := Eq.trans (if_neg c71).symm h
                            refine ml_two S E hI c71 d_Mod_infer_281 ?_
                            refine lv_iload hx hb d_Mod_infer_282 (lv_at hl 0 rfl) ?_
                            refine mg_cI (As := [.int (α68.2 4 (a1 : Int32).toNatClampNeg), .int v70]) (rest := [.ref (mad g 0)]) h (k_Mod_open (l := l) (g := g) (α := α68) N (α68.2 4 (a1 : Int32).toNatClampNeg) v70) S hlocks hno E hI kw_Mod_471 ⟨by omega, by omega⟩ (mv_Mod E hI) rfl hl.1 rfl (Nat.le_of_ble_eq_true rfl) d_Mod_infer_284 (fun v74 α72 H locs e73 h hI => ?_)
                            refine lv_iload_n hx hb d_Mod_infer_287 rfl (lv_at hl 3 rfl) ?_
                            refine lv_iconst (v := 1) hx hb d_Mod_infer_288 (by decide) ?_
                            refine lv_iadd hx hb d_Mod_infer_289 ?_
                            refine mg_cI (As := [.int v74, .int (a2 + 1)]) (rest := []) h (hk.2.1 v74 (a2 + 1) α72) S hlocks hno E hI kw_Mod_479 ⟨by omega, by omega⟩ (mv_Mod E hI) rfl hl.1 rfl (Nat.le_of_ble_eq_true rfl) d_Mod_infer_290 (fun v77 α75 H locs e76 h hI => ?_)
                            refine lv_istore (lv' := [(7, .int v77), (6, .int v70), (0, .ref (mad g 0)), (1, .int a1), (2, .int a2)]) hx hb d_Mod_infer_293 hl (by decide) rfl (fun ls hl => ?_)
                            refine lv_aload_n hx hb d_Mod_infer_295 rfl (lv_at hl 2 rfl) ?_
                            refine lv_aload_n hx hb d_Mod_infer_296 rfl (lv_at hl 2 rfl) ?_
                            refine lv_bipush (v := 6) hx hb d_Mod_infer_297 (by decide) ?_
                            refine lv_aload_n hx hb d_Mod_infer_299 rfl (lv_at hl 2 rfl) ?_
                            refine mf_one S E hI vt_1280 d_Mod_infer_300 ?_
                            refine lv_iload_n hx hb d_Mod_infer_303 rfl (lv_at hl 3 rfl) ?_
                            by_cases c78 : a1 < 0 ∨ 400000 ≤ (a1 : Int32).toNatClampNeg
                            · replace h := Eq.trans (if_pos c78).symm h
                              cases h
                            · replace h := Eq.trans (if_neg c78).symm h
                              refine ml_one S E hI c78 d_Mod_infer_304 ?_
                              refine lv_aload_n hx hb d_Mod_infer_305 rfl (lv_at hl 2 rfl) ?_
                              refine lv_iload hx hb d_Mod_infer_306 (lv_at hl 0 rfl) ?_
                              refine lv_aload_n hx hb d_Mod_infer_308 rfl (lv_at hl 2 rfl) ?_
                              refine mf_one S E hI vt_1280 d_Mod_infer_309 ?_
                              refine lv_iload hx hb d_Mod_infer_312 (lv_at hl 1 rfl) ?_
                              by_cases c79 : v70 < 0 ∨ 400000 ≤ (v70 : Int32).toNatClampNeg
                              · replace h := Eq.trans (if_pos c79).symm h
                                cases h
                              · replace h := Eq.trans (if_neg c79).symm h
                                refine ml_one S E hI c79 d_Mod_infer_314 ?_
                                refine mg_cI (As := [.int v77, .int (α75.2 3 (v70 : Int32).toNatClampNeg)]) (rest := [.int (α75.2 3 (a1 : Int32).toNatClampNeg), .int 6, .ref (mad g 0), .ref (mad g 0)]) h (k_Mod_close (l := l) (g := g) (α := α75) N v77 (α75.2 3 (v70 : Int32).toNatClampNeg)) S hlocks hno E hI kw_Mod_482 ⟨by omega, by omega⟩ (mv_Mod E hI) rfl hl.1 rfl (Nat.le_of_ble_eq_true rfl) d_Mod_infer_315 (fun v82 α80 H locs e81 h hI => ?_)
                                refine lv_iconst (v := 0) hx hb d_Mod_infer_318 (by decide) ?_
                                refine mg_cI (As := [.int 6, .int (α75.2 3 (a1 : Int32).toNatClampNeg), .int v82, .int 0]) (rest := [.ref (mad g 0)]) h (k_Mod_node (l := l) (g := g) (α := α80) N 6 (α75.2 3 (a1 : Int32).toNatClampNeg) v82 0) S hlocks hno E hI kw_Mod_336 ⟨by omega, by omega⟩ (mv_Mod E hI) rfl hl.1 rfl (Nat.le_of_ble_eq_true rfl) d_Mod_infer_319 (fun v85 α83 H locs e84 h hI => ?_)
                                refine mg_cI (As := [.int v85]) (rest := []) h (k_Mod_fits (l := l) (g := g) (α := α83) N v85) S hlocks hno E hI kw_Mod_402 ⟨by omega, by omega⟩ (mv_Mod E hI) rfl hl.1 rfl (Nat.le_of_ble_eq_true rfl) d_Mod_infer_322 (fun v88 α86 H locs e87 h hI => ?_)
                                exact mc_iret (w := v88) hx hb hr rfl hlocks E hI h d_Mod_infer_325
                    · replace h := Eq.trans (if_neg c62).symm h
                      have nc62 := ksw (z := 7) rfl c62
                      by_cases c89 : (α.2 2 (a1 : Int32).toNatClampNeg) = 8
                      · replace h := Eq.trans (if_pos c89).symm h
                        refine lv_tableIn (off := 360) (tgt := 379) hx hb d_Mod_infer_19 (by rw [c89]; decide) (by rw [c89]; decide) (by rw [c89]; rfl) (by decide) ?_
                        refine lv_aload_n hx hb d_Mod_infer_379 rfl (lv_at hl 0 rfl) ?_
                        refine lv_iload_n hx hb d_Mod_infer_380 rfl (lv_at hl 1 rfl) ?_
                        refine lv_iload_n hx hb d_Mod_infer_381 rfl (lv_at hl 2 rfl) ?_
                        refine mg_cI (As := [.int a1, .int a2]) (rest := []) h (hk.2.2.1 a1 a2 α) S hlocks hno E hI kw_Mod_488 ⟨by omega, by omega⟩ (mv_Mod E hI) rfl hl.1 rfl (Nat.le_of_ble_eq_true rfl) d_Mod_infer_382 (fun v92 α90 H locs e91 h hI => ?_)
                        exact mc_iret (w := v92) hx hb hr rfl hlocks E hI h d_Mod_infer_385
                      · replace h := Eq.trans (if_neg c89).symm h
                        have nc89 := ksw (z := 8) rfl c89
                        by_cases c93 : (α.2 2 (a1 : Int32).toNatClampNeg) = 9
                        · replace h := Eq.trans (if_pos c93).symm h
                          refine lv_tableIn (off := 307) (tgt := 326) hx hb d_Mod_infer_19 (by rw [c93]; decide) (by rw [c93]; decide) (by rw [c93]; rfl) (by decide) ?_
                          refine lv_aload_n hx hb d_Mod_infer_326 rfl (lv_at hl 0 rfl) ?_
                          refine lv_aload_n hx hb d_Mod_infer_327 rfl (lv_at hl 0 rfl) ?_
                          refine mf_one S E hI vt_1280 d_Mod_infer_328 ?_
                          refine lv_iload_n hx hb d_Mod_infer_331 rfl (lv_at hl 1 rfl) ?_
                          by_cases c94 : a1 < 0 ∨ 400000 ≤ (a1 : Int32).toNatClampNeg
                          · replace h := Eq.trans (if_pos c94).symm h
                            cases h
                          · replace h := Eq.trans (if_neg c94).symm h
                            refine ml_one S E hI c94 d_Mod_infer_332 ?_
                            refine lv_iload_n hx hb d_Mod_infer_333 rfl (lv_at hl 2 rfl) ?_
                            refine mg_cI (As := [.int (α.2 3 (a1 : Int32).toNatClampNeg), .int a2]) (rest := []) h (hk.2.2.2 (α.2 3 (a1 : Int32).toNatClampNeg) a2 α) S hlocks hno E hI kw_Mod_477 ⟨by omega, by omega⟩ (mv_Mod E hI) rfl hl.1 rfl (Nat.le_of_ble_eq_true rfl) d_Mod_infer_334 (fun v97 α95 H locs e96 h hI => ?_)
                            refine lv_pop hx hb d_Mod_infer_337 rfl ?_
                            refine lv_aload_n hx hb d_Mod_infer_338 rfl (lv_at hl 0 rfl) ?_
                            refine lv_aload_n hx hb d_Mod_infer_339 rfl (lv_at hl 0 rfl) ?_
                            refine mf_two S E hI vt_1281 d_Mod_infer_340 ?_
                            refine lv_iload_n hx hb d_Mod_infer_343 rfl (lv_at hl 1 rfl) ?_
                            by_cases c98 : a1 < 0 ∨ 400000 ≤ (a1 : Int32).toNatClampNeg
                            · replace h := Eq.trans (if_pos c98).symm h
                              cases h
                            · replace h := Eq.trans (if_neg c98).symm h
                              refine ml_two S E hI c98 d_Mod_infer_344 ?_
                              refine lv_aload_n hx hb d_Mod_infer_345 rfl (lv_at hl 0 rfl) ?_
                              refine mf_one S E hI vt_1280 d_Mod_infer_346 ?_
                              refine lv_iload_n hx hb d_Mod_infer_349 rfl (lv_at hl 1 rfl) ?_
                              by_cases c99 : a1 < 0 ∨ 400000 ≤ (a1 : Int32).toNatClampNeg
                              · replace h := Eq.trans (if_pos c99).symm h
                                cases h
                              · replace h := Eq.trans (if_neg c99).symm h
                                refine ml_one S E hI c99 d_Mod_infer_350 ?_
                                refine lv_iload_n hx hb d_Mod_infer_351 rfl (lv_at hl 2 rfl) ?_
                                refine mg_cV (As := [.int (α95.2 4 (a1 : Int32).toNatClampNeg), .int (α95.2 3 (a1 : Int32).toNatClampNeg), .int a2]) (rest := []) h (hk.1 (α95.2 4 (a1 : Int32).toNatClampNeg) (α95.2 3 (a1 : Int32).toNatClampNeg) a2 α95) S hlocks hno E hI kw_Mod_485 ⟨by omega, by omega⟩ (mv_Mod E hI) rfl hl.1 rfl (Nat.le_of_ble_eq_true rfl) d_Mod_infer_352 (fun α100 H locs e101 h hI => ?_)
                                refine lv_aload_n hx hb d_Mod_infer_355 rfl (lv_at hl 0 rfl) ?_
                                refine lv_aload_n hx hb d_Mod_infer_356 rfl (lv_at hl 0 rfl) ?_
                                refine lv_aload_n hx hb d_Mod_infer_357 rfl (lv_at hl 0 rfl) ?_
                                refine mf_three S E hI vt_1282 d_Mod_infer_358 ?_
                                refine lv_iload_n hx hb d_Mod_infer_361 rfl (lv_at hl 1 rfl) ?_
                                by_cases c102 : a1 < 0 ∨ 400000 ≤ (a1 : Int32).toNatClampNeg
                                · replace h := Eq.trans (if_pos c102).symm h
                                  cases h
                                · replace h := Eq.trans (if_neg c102).symm h
                                  refine ml_three S E hI c102 d_Mod_infer_362 ?_
                                  refine lv_aload_n hx hb d_Mod_infer_363 rfl (lv_at hl 0 rfl) ?_
                                  refine mf_two S E hI vt_1281 d_Mod_infer_364 ?_
                                  refine lv_iload_n hx hb d_Mod_infer_367 rfl (lv_at hl 1 rfl) ?_
                                  by_cases c103 : a1 < 0 ∨ 400000 ≤ (a1 : Int32).toNatClampNeg
                                  · replace h := Eq.trans (if_pos c103).symm h
                                    cases h
                                  · replace h := Eq.trans (if_neg c103).symm h
                                    refine ml_two S E hI c103 d_Mod_infer_368 ?_
                                    refine mg_cI (As := [.int (α100.2 5 (a1 : Int32).toNatClampNeg), .int (α100.2 4 (a1 : Int32).toNatClampNeg)]) (rest := [.ref (mad g 0)]) h (k_Mod_open (l := l) (g := g) (α := α100) N (α100.2 5 (a1 : Int32).toNatClampNeg) (α100.2 4 (a1 : Int32).toNatClampNeg)) S hlocks hno E hI kw_Mod_471 ⟨by omega, by omega⟩ (mv_Mod E hI) rfl hl.1 rfl (Nat.le_of_ble_eq_true rfl) d_Mod_infer_369 (fun v106 α104 H locs e105 h hI => ?_)
                                    refine lv_iload_n hx hb d_Mod_infer_372 rfl (lv_at hl 2 rfl) ?_
                                    refine lv_iconst (v := 1) hx hb d_Mod_infer_373 (by decide) ?_
                                    refine lv_iadd hx hb d_Mod_infer_374 ?_
                                    refine mg_cI (As := [.int v106, .int (a2 + 1)]) (rest := []) h (hk.2.1 v106 (a2 + 1) α104) S hlocks hno E hI kw_Mod_479 ⟨by omega, by omega⟩ (mv_Mod E hI) rfl hl.1 rfl (Nat.le_of_ble_eq_true rfl) d_Mod_infer_375 (fun v109 α107 H locs e108 h hI => ?_)
                                    exact mc_iret (w := v109) hx hb hr rfl hlocks E hI h d_Mod_infer_378
                        · replace h := Eq.trans (if_neg c93).symm h
                          have nc93 := ksw (z := 9) rfl c93
                          refine lv_tableOut (tgt := 379) hx hb d_Mod_infer_19 (by omega) (by decide) ?_
                          refine lv_aload_n hx hb d_Mod_infer_379 rfl (lv_at hl 0 rfl) ?_
                          refine lv_iload_n hx hb d_Mod_infer_380 rfl (lv_at hl 1 rfl) ?_
                          refine lv_iload_n hx hb d_Mod_infer_381 rfl (lv_at hl 2 rfl) ?_
                          refine mg_cI (As := [.int a1, .int a2]) (rest := []) h (hk.2.2.1 a1 a2 α) S hlocks hno E hI kw_Mod_488 ⟨by omega, by omega⟩ (mv_Mod E hI) rfl hl.1 rfl (Nat.le_of_ble_eq_true rfl) d_Mod_infer_382 (fun v112 α110 H locs e111 h hI => ?_)
                          exact mc_iret (w := v112) hx hb hr rfl hlocks E hI h d_Mod_infer_385
  · replace h := Eq.trans (if_neg c1).symm h
    refine lv_bipush (v := 10) hx hb d_Mod_infer_7 (by decide) ?_
    refine mg_fails S E hI kw_Mod_323 hl.1 ⟨by omega, by omega⟩ (Nat.le_of_ble_eq_true rfl) d_Mod_infer_9 (fun q H locs hN => ?_)
    exact mg_athrow S hlocks hno E hN h d_Mod_infer_12
def f_Mod_inferApplied_23 (N : Nat)  (kk : (Int32 → Int32 → Int32 → mS → Option (kO × mS)) × (Int32 → Int32 → mS → Option (kO × mS)) × (Int32 → Int32 → mS → Option (kO × mS)) × (Int32 → Int32 → mS → Option (kO × mS))) : Nat → Int32 → Int32 → Int32 → Int32 → Int32 → mS → Option (kO × mS)
  | 0, _, _, _, _, _, _ => none
  | n + 1, x5_23, x4_23, x3_23, x1_23, x2_23, β23 => if x3_23 ≤ x5_23 then (some (some (some x4_23), β23)) else (((f_Mod_nth N x1_23 x3_23 x5_23 β23)).bind fun v9 => (mBi ((G_recursion N dp_recursion).2.2 x4_23 β23) fun v13 α11 => (if v13 < 0 ∨ 400000 ≤ (v13 : Int32).toNatClampNeg then none else (if (α11.2 2 (v13 : Int32).toNatClampNeg) = 6 then (if v13 < 0 ∨ 400000 ≤ (v13 : Int32).toNatClampNeg then none else (mBv (kk.1 v9 (α11.2 3 (v13 : Int32).toNatClampNeg) x2_23 α11) fun α17 => (if v13 < 0 ∨ 400000 ≤ (v13 : Int32).toNatClampNeg then none else (mBi (f_Mod_open N (α17.2 4 (v13 : Int32).toNatClampNeg) v9 α17) fun v22 α20 => (f_Mod_inferApplied_23 N kk n (x5_23 + 1) v22 x3_23 x1_23 x2_23 α20))))) else (some (none, (mTh α11 5 (-1))))))))
def f_Mod_inferApplied (N : Nat) (kk : (Int32 → Int32 → Int32 → mS → Option (kO × mS)) × (Int32 → Int32 → mS → Option (kO × mS)) × (Int32 → Int32 → mS → Option (kO × mS)) × (Int32 → Int32 → mS → Option (kO × mS))) (a1 : Int32) (a2 : Int32) (α : mS) : Option (kO × mS) := ((f_Mod_behind N a1 α)).bind fun v1 => (((f_Mod_head N a1 α)).bind fun v3 => (mBi (kk.2.1 v3 (a2 + 1) α) fun v7 α5 => (f_Mod_inferApplied_23 N kk N 0 v7 v1 a1 a2 α5)))
set_option maxHeartbeats 4000000 in
set_option maxRecDepth 100000 in
theorem k_Mod_inferApplied {l : Launch} {g : mG} {α : mS} (N : Nat) (kk : (Int32 → Int32 → Int32 → mS → Option (kO × mS)) × (Int32 → Int32 → mS → Option (kO × mS)) × (Int32 → Int32 → mS → Option (kO × mS)) × (Int32 → Int32 → mS → Option (kO × mS))) (d : Nat) (hk : hk_check l g kk (1312 + d) (37618 + 27 * d)) (a1 : Int32) (a2 : Int32)  : ∀ x, f_Mod_inferApplied N kk a1 a2 α = some x → mC l g y_Mod_inferApplied b_Mod_inferApplied 8 (some .int) (1312 + (d + 1)) (37618 + 27 * (d + 1)) [.ref (mad g 0), .int a1, .int a2] α (mQr x) := by
  intro x h
  unfold f_Mod_inferApplied at h
  refine mc_ofW (by decide) (fun A p e s m args below meth c S hr hlocks hno hargs E hI => ?_)
  have hx := S.1
  have hb := S.2.1
  have hown := S.2.2.2.1
  have hT := S.2.2.2.2
  subst hargs
  have hl := lv_entry ([.ref (mad g 0), .int a1, .int a2]) (n := 8) (Nat.le_of_ble_eq_true rfl)
  rw [lg_entry_eq]
  generalize (lg_sl ([.ref (mad g 0), .int a1, .int a2]) ++ List.replicate (8 - (lg_sl ([.ref (mad g 0), .int a1, .int a2])).length) Slot.unset).toArray = ls at hl ⊢
  have hl : lv_has ls 8 [(0, .ref (mad g 0)), (1, .int a1), (2, .int a2)] := hl
  refine lv_aload_n hx hb d_Mod_inferApplied_0 rfl (lv_at hl 0 rfl) ?_
  refine lv_iload_n hx hb d_Mod_inferApplied_1 rfl (lv_at hl 1 rfl) ?_
  obtain ⟨v1, e2, h⟩ := Option.bind_eq_some_iff.mp h
  refine mg_p (As := [.int a1]) (rest := []) ((k_Mod_behind (l := l) (g := g) (α := α) N a1) _ e2) S E hI kw_Mod_449 (Or.inl rfl) ⟨by omega, by omega⟩ (mv_Mod E hI) rfl hl.1 rfl (Nat.le_of_ble_eq_true rfl) d_Mod_inferApplied_2 rfl ?_
  refine lv_istore_n (lv' := [(3, .int v1), (0, .ref (mad g 0)), (1, .int a1), (2, .int a2)]) hx hb d_Mod_inferApplied_5 rfl hl (by decide) rfl (fun ls hl => ?_)
  refine lv_aload_n hx hb d_Mod_inferApplied_6 rfl (lv_at hl 1 rfl) ?_
  refine lv_aload_n hx hb d_Mod_inferApplied_7 rfl (lv_at hl 1 rfl) ?_
  refine lv_iload_n hx hb d_Mod_inferApplied_8 rfl (lv_at hl 2 rfl) ?_
  obtain ⟨v3, e4, h⟩ := Option.bind_eq_some_iff.mp h
  refine mg_p (As := [.int a1]) (rest := [.ref (mad g 0)]) ((k_Mod_head (l := l) (g := g) (α := α) N a1) _ e4) S E hI kw_Mod_446 (Or.inl rfl) ⟨by omega, by omega⟩ (mv_Mod E hI) rfl hl.1 rfl (Nat.le_of_ble_eq_true rfl) d_Mod_inferApplied_9 rfl ?_
  refine lv_iload_n hx hb d_Mod_inferApplied_12 rfl (lv_at hl 3 rfl) ?_
  refine lv_iconst (v := 1) hx hb d_Mod_inferApplied_13 (by decide) ?_
  refine lv_iadd hx hb d_Mod_inferApplied_14 ?_
  refine mg_cI (As := [.int v3, .int (a2 + 1)]) (rest := []) h (hk.2.1 v3 (a2 + 1) α) S hlocks hno E hI kw_Mod_479 ⟨by omega, by omega⟩ (mv_Mod E hI) rfl hl.1 rfl (Nat.le_of_ble_eq_true rfl) d_Mod_inferApplied_15 (fun v7 α5 H locs e6 h hI => ?_)
  refine lv_istore (lv' := [(4, .int v7), (3, .int v1), (0, .ref (mad g 0)), (1, .int a1), (2, .int a2)]) hx hb d_Mod_inferApplied_18 hl (by decide) rfl (fun ls hl => ?_)
  refine lv_iconst (v := 0) hx hb d_Mod_inferApplied_20 (by decide) ?_
  refine lv_istore (lv' := [(5, .int 0), (4, .int v7), (3, .int v1), (0, .ref (mad g 0)), (1, .int a1), (2, .int a2)]) hx hb d_Mod_inferApplied_21 hl (by decide) rfl (fun ls hl => ?_)
  have L23 : ∀ (n23 : Nat) (x5_23 : Int32) (x4_23 : Int32) (x3_23 : Int32) (x1_23 : Int32) (x2_23 : Int32) (β23 : mS) (H : Heap) (locs : List Loc) (ls : Array Slot), f_Mod_inferApplied_23 N kk n23 x5_23 x4_23 x3_23 x1_23 x2_23 β23 = some x → mI g A s β23 H locs → lv_has ls 8 [(5, .int x5_23), (4, .int x4_23), (3, .int x3_23), (0, .ref (mad g 0)), (1, .int x1_23), (2, .int x2_23)] → W p l e (mR (1312 + (d + 1)) (37618 + 27 * (d + 1))) s m ([.ref (mad g 0), .int a1, .int a2]).toArray below meth c H locs 0 0 (vEQ below (mQ g A (mQr x)) ([.ref (mad g 0), .int a1, .int a2]).toArray s A) (F0 m 23 ls []) := by
    intro n23
    induction n23 with
    | zero => intro x5_23 x4_23 x3_23 x1_23 x2_23 β23 H locs ls h hI hl; rw [f_Mod_inferApplied_23] at h; cases h
    | succ n23 ih23 =>
      intro x5_23 x4_23 x3_23 x1_23 x2_23 β23 H locs ls h hI hl
      rw [f_Mod_inferApplied_23] at h
      refine lv_iload hx hb d_Mod_inferApplied_23 (lv_at hl 0 rfl) ?_
      refine lv_iload_n hx hb d_Mod_inferApplied_25 rfl (lv_at hl 2 rfl) ?_
      refine lv_icmp_ge (tgt := 99) hx hb d_Mod_inferApplied_26 (by decide) (fun c8 => ?_) (fun c8 => ?_)
      · replace h := Eq.trans (if_pos c8).symm h
        refine lv_iload hx hb d_Mod_inferApplied_99 (lv_at hl 1 rfl) ?_
        exact mc_iret (w := x4_23) hx hb hr rfl hlocks E hI h d_Mod_inferApplied_101
      · replace h := Eq.trans (if_neg c8).symm h
        refine lv_aload_n hx hb d_Mod_inferApplied_29 rfl (lv_at hl 3 rfl) ?_
        refine lv_iload_n hx hb d_Mod_inferApplied_30 rfl (lv_at hl 4 rfl) ?_
        refine lv_iload_n hx hb d_Mod_inferApplied_31 rfl (lv_at hl 2 rfl) ?_
        refine lv_iload hx hb d_Mod_inferApplied_32 (lv_at hl 0 rfl) ?_
        obtain ⟨v9, e10, h⟩ := Option.bind_eq_some_iff.mp h
        refine mg_p (As := [.int x1_23, .int x3_23, .int x5_23]) (rest := []) ((k_Mod_nth (l := l) (g := g) (α := β23) N x1_23 x3_23 x5_23) _ e10) S E hI kw_Mod_440 (Or.inl rfl) ⟨by omega, by omega⟩ (mv_Mod E hI) rfl hl.1 rfl (Nat.le_of_ble_eq_true rfl) d_Mod_inferApplied_34 rfl ?_
        refine lv_istore (lv' := [(6, .int v9), (5, .int x5_23), (4, .int x4_23), (3, .int x3_23), (0, .ref (mad g 0)), (1, .int x1_23), (2, .int x2_23)]) hx hb d_Mod_inferApplied_37 hl (by decide) rfl (fun ls hl => ?_)
        refine lv_aload_n hx hb d_Mod_inferApplied_39 rfl (lv_at hl 4 rfl) ?_
        refine lv_iload hx hb d_Mod_inferApplied_40 (lv_at hl 2 rfl) ?_
        refine mg_cI (As := [.int x4_23]) (rest := []) h (((ok_recursion (l := l) (g := g) N dp_recursion).2.2) x4_23 β23) S hlocks hno E hI kw_Mod_458 ⟨by unfold dp_recursion; omega, by unfold dp_recursion; omega⟩ (mv_Mod E hI) rfl hl.1 rfl (Nat.le_of_ble_eq_true rfl) d_Mod_inferApplied_42 (fun v13 α11 H locs e12 h hI => ?_)
        refine lv_istore (lv' := [(7, .int v13), (6, .int v9), (5, .int x5_23), (4, .int x4_23), (3, .int x3_23), (0, .ref (mad g 0)), (1, .int x1_23), (2, .int x2_23)]) hx hb d_Mod_inferApplied_45 hl (by decide) rfl (fun ls hl => ?_)
        refine lv_aload_n hx hb d_Mod_inferApplied_47 rfl (lv_at hl 5 rfl) ?_
        refine mf_kind S E hI vt_1279 d_Mod_inferApplied_48 ?_
        refine lv_iload hx hb d_Mod_inferApplied_51 (lv_at hl 0 rfl) ?_
        by_cases c14 : v13 < 0 ∨ 400000 ≤ (v13 : Int32).toNatClampNeg
        · replace h := Eq.trans (if_pos c14).symm h
          cases h
        · replace h := Eq.trans (if_neg c14).symm h
          refine ml_kind S E hI c14 d_Mod_inferApplied_53 ?_
          refine lv_bipush (v := 6) hx hb d_Mod_inferApplied_54 (by decide) ?_
          refine lv_icmp_eq (tgt := 64) hx hb d_Mod_inferApplied_56 (by decide) (fun c15 => ?_) (fun c15 => ?_)
          · replace h := Eq.trans (if_pos c15).symm h
            refine lv_aload_n hx hb d_Mod_inferApplied_64 rfl (lv_at hl 5 rfl) ?_
            refine lv_iload hx hb d_Mod_inferApplied_65 (lv_at hl 1 rfl) ?_
            refine lv_aload_n hx hb d_Mod_inferApplied_67 rfl (lv_at hl 5 rfl) ?_
            refine mf_one S E hI vt_1280 d_Mod_inferApplied_68 ?_
            refine lv_iload hx hb d_Mod_inferApplied_71 (lv_at hl 0 rfl) ?_
            by_cases c16 : v13 < 0 ∨ 400000 ≤ (v13 : Int32).toNatClampNeg
            · replace h := Eq.trans (if_pos c16).symm h
              cases h
            · replace h := Eq.trans (if_neg c16).symm h
              refine ml_one S E hI c16 d_Mod_inferApplied_73 ?_
              refine lv_iload_n hx hb d_Mod_inferApplied_74 rfl (lv_at hl 7 rfl) ?_
              refine mg_cV (As := [.int v9, .int (α11.2 3 (v13 : Int32).toNatClampNeg), .int x2_23]) (rest := []) h (hk.1 v9 (α11.2 3 (v13 : Int32).toNatClampNeg) x2_23 α11) S hlocks hno E hI kw_Mod_485 ⟨by omega, by omega⟩ (mv_Mod E hI) rfl hl.1 rfl (Nat.le_of_ble_eq_true rfl) d_Mod_inferApplied_75 (fun α17 H locs e18 h hI => ?_)
              refine lv_aload_n hx hb d_Mod_inferApplied_78 rfl (lv_at hl 5 rfl) ?_
              refine lv_aload_n hx hb d_Mod_inferApplied_79 rfl (lv_at hl 5 rfl) ?_
              refine mf_two S E hI vt_1281 d_Mod_inferApplied_80 ?_
              refine lv_iload hx hb d_Mod_inferApplied_83 (lv_at hl 0 rfl) ?_
              by_cases c19 : v13 < 0 ∨ 400000 ≤ (v13 : Int32).toNatClampNeg
              · replace h := Eq.trans (if_pos c19).symm h
                cases h
              · replace h := Eq.trans (if_neg c19).symm h
                refine ml_two S E hI c19 d_Mod_inferApplied_85 ?_
                refine lv_iload hx hb d_Mod_inferApplied_86 (lv_at hl 1 rfl) ?_
                refine mg_cI (As := [.int (α17.2 4 (v13 : Int32).toNatClampNeg), .int v9]) (rest := []) h (k_Mod_open (l := l) (g := g) (α := α17) N (α17.2 4 (v13 : Int32).toNatClampNeg) v9) S hlocks hno E hI kw_Mod_471 ⟨by omega, by omega⟩ (mv_Mod E hI) rfl hl.1 rfl (Nat.le_of_ble_eq_true rfl) d_Mod_inferApplied_88 (fun v22 α20 H locs e21 h hI => ?_)
                refine lv_istore (lv' := [(4, .int v22), (7, .int v13), (6, .int v9), (5, .int x5_23), (3, .int x3_23), (0, .ref (mad g 0)), (1, .int x1_23), (2, .int x2_23)]) hx hb d_Mod_inferApplied_91 hl (by decide) rfl (fun ls hl => ?_)
                refine lv_iinc (v := (x5_23 + 1)) (lv' := [(5, .int (x5_23 + 1)), (4, .int v22), (7, .int v13), (6, .int v9), (3, .int x3_23), (0, .ref (mad g 0)), (1, .int x1_23), (2, .int x2_23)]) hx hb d_Mod_inferApplied_93 hl (k := 3) rfl rfl (by decide) rfl (fun ls hl => ?_)
                refine lv_goto (tgt := 23) hx hb d_Mod_inferApplied_96 (by decide) ?_
                exact ih23 (x5_23 + 1) v22 x3_23 x1_23 x2_23 _ _ _ _ h hI (lv_sub hl [0, 1, 4, 5, 6, 7] rfl)
          · replace h := Eq.trans (if_neg c15).symm h
            refine lv_iconst (v := 5) hx hb d_Mod_inferApplied_59 (by decide) ?_
            refine mg_fails S E hI kw_Mod_323 hl.1 ⟨by omega, by omega⟩ (Nat.le_of_ble_eq_true rfl) d_Mod_inferApplied_60 (fun q H locs hN => ?_)
            exact mg_athrow S hlocks hno E hN h d_Mod_inferApplied_63
  exact L23 N 0 v7 v1 a1 a2 _ _ _ _ h hI (lv_sub hl [0, 1, 2, 3, 4, 5] rfl)
def f_Mod_sortOf (N : Nat) (kk : (Int32 → Int32 → Int32 → mS → Option (kO × mS)) × (Int32 → Int32 → mS → Option (kO × mS)) × (Int32 → Int32 → mS → Option (kO × mS)) × (Int32 → Int32 → mS → Option (kO × mS))) (a1 : Int32) (a2 : Int32) (α : mS) : Option (kO × mS) := mBi (kk.2.1 a1 (a2 + 1) α) fun v3 α1 => (mBi ((G_recursion N dp_recursion).2.2 v3 α1) fun v6 α4 => (if v6 < 0 ∨ 400000 ≤ (v6 : Int32).toNatClampNeg then none else (if (α4.2 2 (v6 : Int32).toNatClampNeg) = 0 then (if v6 < 0 ∨ 400000 ≤ (v6 : Int32).toNatClampNeg then none else (some (some (some (α4.2 3 (v6 : Int32).toNatClampNeg)), α4))) else (some (none, (mTh α4 6 (-1)))))))
set_option maxHeartbeats 4000000 in
set_option maxRecDepth 100000 in
theorem k_Mod_sortOf {l : Launch} {g : mG} {α : mS} (N : Nat) (kk : (Int32 → Int32 → Int32 → mS → Option (kO × mS)) × (Int32 → Int32 → mS → Option (kO × mS)) × (Int32 → Int32 → mS → Option (kO × mS)) × (Int32 → Int32 → mS → Option (kO × mS))) (d : Nat) (hk : hk_check l g kk (1312 + d) (37618 + 27 * d)) (a1 : Int32) (a2 : Int32)  : ∀ x, f_Mod_sortOf N kk a1 a2 α = some x → mC l g y_Mod_sortOf b_Mod_sortOf 4 (some .int) (1312 + (d + 1)) (37618 + 27 * (d + 1)) [.ref (mad g 0), .int a1, .int a2] α (mQr x) := by
  intro x h
  unfold f_Mod_sortOf at h
  refine mc_ofW (by decide) (fun A p e s m args below meth c S hr hlocks hno hargs E hI => ?_)
  have hx := S.1
  have hb := S.2.1
  have hown := S.2.2.2.1
  have hT := S.2.2.2.2
  subst hargs
  have hl := lv_entry ([.ref (mad g 0), .int a1, .int a2]) (n := 4) (Nat.le_of_ble_eq_true rfl)
  rw [lg_entry_eq]
  generalize (lg_sl ([.ref (mad g 0), .int a1, .int a2]) ++ List.replicate (4 - (lg_sl ([.ref (mad g 0), .int a1, .int a2])).length) Slot.unset).toArray = ls at hl ⊢
  have hl : lv_has ls 4 [(0, .ref (mad g 0)), (1, .int a1), (2, .int a2)] := hl
  refine lv_aload_n hx hb d_Mod_sortOf_0 rfl (lv_at hl 0 rfl) ?_
  refine lv_aload_n hx hb d_Mod_sortOf_1 rfl (lv_at hl 0 rfl) ?_
  refine lv_iload_n hx hb d_Mod_sortOf_2 rfl (lv_at hl 1 rfl) ?_
  refine lv_iload_n hx hb d_Mod_sortOf_3 rfl (lv_at hl 2 rfl) ?_
  refine lv_iconst (v := 1) hx hb d_Mod_sortOf_4 (by decide) ?_
  refine lv_iadd hx hb d_Mod_sortOf_5 ?_
  refine mg_cI (As := [.int a1, .int (a2 + 1)]) (rest := [.ref (mad g 0)]) h (hk.2.1 a1 (a2 + 1) α) S hlocks hno E hI kw_Mod_479 ⟨by omega, by omega⟩ (mv_Mod E hI) rfl hl.1 rfl (Nat.le_of_ble_eq_true rfl) d_Mod_sortOf_6 (fun v3 α1 H locs e2 h hI => ?_)
  refine mg_cI (As := [.int v3]) (rest := []) h (((ok_recursion (l := l) (g := g) N dp_recursion).2.2) v3 α1) S hlocks hno E hI kw_Mod_458 ⟨by unfold dp_recursion; omega, by unfold dp_recursion; omega⟩ (mv_Mod E hI) rfl hl.1 rfl (Nat.le_of_ble_eq_true rfl) d_Mod_sortOf_9 (fun v6 α4 H locs e5 h hI => ?_)
  refine lv_istore_n (lv' := [(3, .int v6), (0, .ref (mad g 0)), (1, .int a1), (2, .int a2)]) hx hb d_Mod_sortOf_12 rfl hl (by decide) rfl (fun ls hl => ?_)
  refine lv_aload_n hx hb d_Mod_sortOf_13 rfl (lv_at hl 1 rfl) ?_
  refine mf_kind S E hI vt_1279 d_Mod_sortOf_14 ?_
  refine lv_iload_n hx hb d_Mod_sortOf_17 rfl (lv_at hl 0 rfl) ?_
  by_cases c7 : v6 < 0 ∨ 400000 ≤ (v6 : Int32).toNatClampNeg
  · replace h := Eq.trans (if_pos c7).symm h
    cases h
  · replace h := Eq.trans (if_neg c7).symm h
    refine ml_kind S E hI c7 d_Mod_sortOf_18 ?_
    refine lv_if_eq (tgt := 28) hx hb d_Mod_sortOf_19 (by decide) (fun c8 => ?_) (fun c8 => ?_)
    · replace h := Eq.trans (if_pos c8).symm h
      refine lv_aload_n hx hb d_Mod_sortOf_28 rfl (lv_at hl 1 rfl) ?_
      refine mf_one S E hI vt_1280 d_Mod_sortOf_29 ?_
      refine lv_iload_n hx hb d_Mod_sortOf_32 rfl (lv_at hl 0 rfl) ?_
      by_cases c9 : v6 < 0 ∨ 400000 ≤ (v6 : Int32).toNatClampNeg
      · replace h := Eq.trans (if_pos c9).symm h
        cases h
      · replace h := Eq.trans (if_neg c9).symm h
        refine ml_one S E hI c9 d_Mod_sortOf_33 ?_
        exact mc_iret (w := (α4.2 3 (v6 : Int32).toNatClampNeg)) hx hb hr rfl hlocks E hI h d_Mod_sortOf_34
    · replace h := Eq.trans (if_neg c8).symm h
      refine lv_bipush (v := 6) hx hb d_Mod_sortOf_22 (by decide) ?_
      refine mg_fails S E hI kw_Mod_323 hl.1 ⟨by omega, by omega⟩ (Nat.le_of_ble_eq_true rfl) d_Mod_sortOf_24 (fun q H locs hN => ?_)
      exact mg_athrow S hlocks hno E hN h d_Mod_sortOf_27
def G_check (N : Nat) : Nat → (Int32 → Int32 → Int32 → mS → Option (kO × mS)) × (Int32 → Int32 → mS → Option (kO × mS)) × (Int32 → Int32 → mS → Option (kO × mS)) × (Int32 → Int32 → mS → Option (kO × mS))
  | 0 => (fun _ _ _ _ => none, fun _ _ _ => none, fun _ _ _ => none, fun _ _ _ => none)
  | d + 1 => (f_Mod_check N (G_check N d), f_Mod_infer N (G_check N d), f_Mod_inferApplied N (G_check N d), f_Mod_sortOf N (G_check N d))
theorem ok_check {l : Launch} {g : mG} (N : Nat) : ∀ d, hk_check l g (G_check N d) (1312 + d) (37618 + 27 * d)
  | 0 => ⟨(fun a1 a2 a3  α x h => by cases h), (fun a1 a2  α x h => by cases h), (fun a1 a2  α x h => by cases h), (fun a1 a2  α x h => by cases h)⟩
  | d + 1 => by
    have ih := ok_check (l := l) (g := g) N d
    exact ⟨(fun a1 a2 a3  α x h => k_Mod_check (α := α) N _ d ih a1 a2 a3  x h), (fun a1 a2  α x h => k_Mod_infer (α := α) N _ d ih a1 a2  x h), (fun a1 a2  α x h => k_Mod_inferApplied (α := α) N _ d ih a1 a2  x h), (fun a1 a2  α x h => k_Mod_sortOf (α := α) N _ d ih a1 a2  x h)⟩
def dp_check : Nat := 480
