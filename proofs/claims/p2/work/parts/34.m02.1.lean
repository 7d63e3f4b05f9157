def f_Mod_mapped (N : Nat) (a1 : Int32) (a2 : Int32) (a3 : Int32) (a4 : Int32) (a5 : Int32) (α : mS) : Option (kO × mS) := mBi ((G_map N dp_map) a2 a3 (mSi (mSi (mSi (mSi α 12 a1) 13 a4) 14 a5) 11 0)) fun v3 α1 => (some (some (some v3), α1))
set_option maxHeartbeats 4000000 in
set_option maxRecDepth 100000 in
theorem k_Mod_mapped {l : Launch} {g : mG} {α : mS} (N : Nat) (a1 : Int32) (a2 : Int32) (a3 : Int32) (a4 : Int32) (a5 : Int32)  : ∀ x, f_Mod_mapped N a1 a2 a3 a4 a5 α = some x → mC l g y_Mod_mapped b_Mod_mapped 6 (some .int) (847) (23757) [.ref (mad g 0), .int a1, .int a2, .int a3, .int a4, .int a5] α (mQr x) := by
  intro x h
  unfold f_Mod_mapped at h
  refine mc_ofW (by decide) (fun A p e s m args below meth c S hr hlocks hno hargs E hI => ?_)
  have hx := S.1
  have hb := S.2.1
  have hown := S.2.2.2.1
  have hT := S.2.2.2.2
  subst hargs
  have hl := lv_entry ([.ref (mad g 0), .int a1, .int a2, .int a3, .int a4, .int a5]) (n := 6) (Nat.le_of_ble_eq_true rfl)
  rw [lg_entry_eq]
  generalize (lg_sl ([.ref (mad g 0), .int a1, .int a2, .int a3, .int a4, .int a5]) ++ List.replicate (6 - (lg_sl ([.ref (mad g 0), .int a1, .int a2, .int a3, .int a4, .int a5])).length) Slot.unset).toArray = ls at hl ⊢
  have hl : lv_has ls 6 [(0, .ref (mad g 0)), (1, .int a1), (2, .int a2), (3, .int a3), (4, .int a4), (5, .int a5)] := hl
  refine lv_aload_n hx hb d_Mod_mapped_0 rfl (lv_at hl 0 rfl) ?_
  refine lv_iload_n hx hb d_Mod_mapped_1 rfl (lv_at hl 1 rfl) ?_
  refine mp_mapHow S E hI vt_1288 d_Mod_mapped_2 (fun H locs hI => ?_)
  refine lv_aload_n hx hb d_Mod_mapped_5 rfl (lv_at hl 0 rfl) ?_
  refine lv_iload hx hb d_Mod_mapped_6 (lv_at hl 4 rfl) ?_
  refine mp_mapWhat S E hI vt_1289 d_Mod_mapped_8 (fun H locs hI => ?_)
  refine lv_aload_n hx hb d_Mod_mapped_11 rfl (lv_at hl 0 rfl) ?_
  refine lv_iload hx hb d_Mod_mapped_12 (lv_at hl 5 rfl) ?_
  refine mp_mapTo S E hI vt_1290 d_Mod_mapped_14 (fun H locs hI => ?_)
  refine lv_aload_n hx hb d_Mod_mapped_17 rfl (lv_at hl 0 rfl) ?_
  refine lv_iconst (v := 0) hx hb d_Mod_mapped_18 (by decide) ?_
  refine mp_spineTop S E hI vt_1287 d_Mod_mapped_19 (fun H locs hI => ?_)
  refine lv_aload_n hx hb d_Mod_mapped_22 rfl (lv_at hl 0 rfl) ?_
  refine lv_iload_n hx hb d_Mod_mapped_23 rfl (lv_at hl 2 rfl) ?_
  refine lv_iload_n hx hb d_Mod_mapped_24 rfl (lv_at hl 3 rfl) ?_
  refine mg_cI (As := [.int a2, .int a3]) (rest := []) h (((ok_map (l := l) (g := g) N dp_map)) a2 a3 (mSi (mSi (mSi (mSi α 12 a1) 13 a4) 14 a5) 11 0)) S hlocks hno E hI kw_Mod_344 ⟨Nat.le_of_ble_eq_true rfl, Nat.le_of_ble_eq_true rfl⟩ (mv_Mod E hI) rfl hl.1 rfl (Nat.le_of_ble_eq_true rfl) d_Mod_mapped_25 (fun v3 α1 H locs e2 h hI => ?_)
  exact mc_iret (w := v3) hx hb hr rfl hlocks E hI h d_Mod_mapped_28
theorem kw_Mod_359 : kWv "FamilyKernelModel" 359 "FamilyKernelModel" y_Mod_mapped b_Mod_mapped 6 (some .int) 5 := ⟨vt_1543, vt_1544, vt_1545, vt_1349, vt_1546, by decide, by decide, by decide +kernel⟩
def f_Mod_under (N : Nat) (a1 : Int32) (a2 : Int32) (a3 : Int32) (α : mS) : Option (kO × mS) := mBi (f_Mod_mapped N 3 a1 0 a2 a3 α) fun v3 α1 => (some (some (some v3), α1))
set_option maxHeartbeats 4000000 in
set_option maxRecDepth 100000 in
theorem k_Mod_under {l : Launch} {g : mG} {α : mS} (N : Nat) (a1 : Int32) (a2 : Int32) (a3 : Int32)  : ∀ x, f_Mod_under N a1 a2 a3 α = some x → mC l g y_Mod_under b_Mod_under 4 (some .int) (848) (23782) [.ref (mad g 0), .int a1, .int a2, .int a3] α (mQr x) := by
  intro x h
  unfold f_Mod_under at h
  refine mc_ofW (by decide) (fun A p e s m args below meth c S hr hlocks hno hargs E hI => ?_)
  have hx := S.1
  have hb := S.2.1
  have hown := S.2.2.2.1
  have hT := S.2.2.2.2
  subst hargs
  have hl := lv_entry ([.ref (mad g 0), .int a1, .int a2, .int a3]) (n := 4) (Nat.le_of_ble_eq_true rfl)
  rw [lg_entry_eq]
  generalize (lg_sl ([.ref (mad g 0), .int a1, .int a2, .int a3]) ++ List.replicate (4 - (lg_sl ([.ref (mad g 0), .int a1, .int a2, .int a3])).length) Slot.unset).toArray = ls at hl ⊢
  have hl : lv_has ls 4 [(0, .ref (mad g 0)), (1, .int a1), (2, .int a2), (3, .int a3)] := hl
  refine lv_aload_n hx hb d_Mod_under_0 rfl (lv_at hl 0 rfl) ?_
  refine lv_iconst (v := 3) hx hb d_Mod_under_1 (by decide) ?_
  refine lv_iload_n hx hb d_Mod_under_2 rfl (lv_at hl 1 rfl) ?_
  refine lv_iconst (v := 0) hx hb d_Mod_under_3 (by decide) ?_
  refine lv_iload_n hx hb d_Mod_under_4 rfl (lv_at hl 2 rfl) ?_
  refine lv_iload_n hx hb d_Mod_under_5 rfl (lv_at hl 3 rfl) ?_
  refine mg_cI (As := [.int 3, .int a1, .int 0, .int a2, .int a3]) (rest := []) h (k_Mod_mapped (l := l) (g := g) (α := α) N 3 a1 0 a2 a3) S hlocks hno E hI kw_Mod_359 ⟨Nat.le_of_ble_eq_true rfl, Nat.le_of_ble_eq_true rfl⟩ (mv_Mod E hI) rfl hl.1 rfl (Nat.le_of_ble_eq_true rfl) d_Mod_under_6 (fun v3 α1 H locs e2 h hI => ?_)
  exact mc_iret (w := v3) hx hb hr rfl hlocks E hI h d_Mod_under_9
def f_Mod_say_0 (N : Nat) (a1 : Int32) (α : mS) : Option (kO × mS) := if 65536 ≤ (α.1 1) then (some (some none, α)) else (if (α.1 1) < 0 ∨ 65536 ≤ ((α.1 1) : Int32).toNatClampNeg then none else (some (some none, (mSA (mSi α 1 ((α.1 1) + 1)) 1 (upd ((mSi α 1 ((α.1 1) + 1)).2 1) ((α.1 1) : Int32).toNatClampNeg (vp_nar .byte (a1).toInt8.toInt32))))))
set_option maxHeartbeats 4000000 in
set_option maxRecDepth 100000 in
theorem k_Mod_say_0 {l : Launch} {g : mG} {α : mS} (N : Nat) (a1 : Int32)  : ∀ x, f_Mod_say_0 N a1 α = some x → mC l g y_Mod_say_0 b_Mod_say_0 2 none (1) (1) [.ref (mad g 0), .int a1] α (mQr x) := by
  intro x h
  unfold f_Mod_say_0 at h
  refine mc_ofW (by decide) (fun A p e s m args below meth c S hr hlocks hno hargs E hI => ?_)
  have hx := S.1
  have hb := S.2.1
  have hown := S.2.2.2.1
  have hT := S.2.2.2.2
  subst hargs
  have hl := lv_entry ([.ref (mad g 0), .int a1]) (n := 2) (Nat.le_of_ble_eq_true rfl)
  rw [lg_entry_eq]
  generalize (lg_sl ([.ref (mad g 0), .int a1]) ++ List.replicate (2 - (lg_sl ([.ref (mad g 0), .int a1])).length) Slot.unset).toArray = ls at hl ⊢
  have hl : lv_has ls 2 [(0, .ref (mad g 0)), (1, .int a1)] := hl
  refine lv_aload_n hx hb d_Mod_say_0_0 rfl (lv_at hl 0 rfl) ?_
  refine mf_outSize S E hI vt_1269 d_Mod_say_0_1 ?_
  refine lv_ldc (v := 65536) hx hb hown (hT _ vt_1264) d_Mod_say_0_4 ?_
  refine lv_icmp_ge (tgt := 27) hx hb d_Mod_say_0_6 (by decide) (fun c1 => ?_) (fun c1 => ?_)
  · replace h := Eq.trans (if_pos c1).symm h
    exact mc_vret hx hb hr hlocks E hI h d_Mod_say_0_27
  · replace h := Eq.trans (if_neg c1).symm h
    refine lv_aload_n hx hb d_Mod_say_0_9 rfl (lv_at hl 0 rfl) ?_
    refine mf_out S E hI vt_1267 d_Mod_say_0_10 ?_
    refine lv_aload_n hx hb d_Mod_say_0_13 rfl (lv_at hl 0 rfl) ?_
    refine lv_dup hx hb d_Mod_say_0_14 rfl ?_
    refine mf_outSize S E hI vt_1269 d_Mod_say_0_15 ?_
    refine lv_dup_x1 hx hb d_Mod_say_0_18 rfl rfl ?_
    refine lv_iconst (v := 1) hx hb d_Mod_say_0_19 (by decide) ?_
    refine lv_iadd hx hb d_Mod_say_0_20 ?_
    refine mp_outSize S E hI vt_1269 d_Mod_say_0_21 (fun H locs hI => ?_)
    refine lv_iload_n hx hb d_Mod_say_0_24 rfl (lv_at hl 1 rfl) ?_
    refine lv_i2b (v := (a1).toInt8.toInt32) hx hb d_Mod_say_0_25 rfl ?_
    by_cases c2 : (α.1 1) < 0 ∨ 65536 ≤ ((α.1 1) : Int32).toNatClampNeg
    · replace h := Eq.trans (if_pos c2).symm h
      cases h
    · replace h := Eq.trans (if_neg c2).symm h
      refine ms_out S E hI c2 d_Mod_say_0_26 (fun H locs hI => ?_)
      exact mc_vret hx hb hr hlocks E hI h d_Mod_say_0_27
def f_Mod_fits (N : Nat) (a1 : Int32) (α : mS) : Option (kO × mS) := if a1 < 0 ∨ 400000 ≤ (a1 : Int32).toNatClampNeg then none else (if 3000 < (α.2 6 (a1 : Int32).toNatClampNeg) then (some (none, α)) else (if a1 < 0 ∨ 400000 ≤ (a1 : Int32).toNatClampNeg then none else (if (α.2 7 (a1 : Int32).toNatClampNeg) ≤ 200 then (some (some (some a1), α)) else (some (none, α)))))
set_option maxHeartbeats 4000000 in
set_option maxRecDepth 100000 in
theorem k_Mod_fits {l : Launch} {g : mG} {α : mS} (N : Nat) (a1 : Int32)  : ∀ x, f_Mod_fits N a1 α = some x → mC l g y_Mod_fits b_Mod_fits 2 (some .int) (43) (1260) [.ref (mad g 0), .int a1] α (mQr x) := by
  intro x h
  unfold f_Mod_fits at h
  refine mc_ofW (by decide) (fun A p e s m args below meth c S hr hlocks hno hargs E hI => ?_)
  have hx := S.1
  have hb := S.2.1
  have hown := S.2.2.2.1
  have hT := S.2.2.2.2
  subst hargs
  have hl := lv_entry ([.ref (mad g 0), .int a1]) (n := 2) (Nat.le_of_ble_eq_true rfl)
  rw [lg_entry_eq]
  generalize (lg_sl ([.ref (mad g 0), .int a1]) ++ List.replicate (2 - (lg_sl ([.ref (mad g 0), .int a1])).length) Slot.unset).toArray = ls at hl ⊢
  have hl : lv_has ls 2 [(0, .ref (mad g 0)), (1, .int a1)] := hl
  refine lv_aload_n hx hb d_Mod_fits_0 rfl (lv_at hl 0 rfl) ?_
  refine mf_big S E hI vt_1283 d_Mod_fits_1 ?_
  refine lv_iload_n hx hb d_Mod_fits_4 rfl (lv_at hl 1 rfl) ?_
  by_cases c1 : a1 < 0 ∨ 400000 ≤ (a1 : Int32).toNatClampNeg
  · replace h := Eq.trans (if_pos c1).symm h
    cases h
  · replace h := Eq.trans (if_neg c1).symm h
    refine ml_big S E hI c1 d_Mod_fits_5 ?_
    refine lv_sipush (v := 3000) hx hb d_Mod_fits_6 (by decide) ?_
    refine lv_icmp_gt (tgt := 24) hx hb d_Mod_fits_9 (by decide) (fun c2 => ?_) (fun c2 => ?_)
    · replace h := Eq.trans (if_pos c2).symm h
      refine lv_bipush (v := 10) hx hb d_Mod_fits_24 (by decide) ?_
      refine mg_fails S E hI kw_Mod_323 hl.1 ⟨Nat.le_of_ble_eq_true rfl, Nat.le_of_ble_eq_true rfl⟩ (Nat.le_of_ble_eq_true rfl) d_Mod_fits_26 (fun q H locs hN => ?_)
      exact mg_athrow S hlocks hno E hN h d_Mod_fits_29
    · replace h := Eq.trans (if_neg c2).symm h
      refine lv_aload_n hx hb d_Mod_fits_12 rfl (lv_at hl 0 rfl) ?_
      refine mf_deep S E hI vt_1284 d_Mod_fits_13 ?_
      refine lv_iload_n hx hb d_Mod_fits_16 rfl (lv_at hl 1 rfl) ?_
      by_cases c3 : a1 < 0 ∨ 400000 ≤ (a1 : Int32).toNatClampNeg
      · replace h := Eq.trans (if_pos c3).symm h
        cases h
      · replace h := Eq.trans (if_neg c3).symm h
        refine ml_deep S E hI c3 d_Mod_fits_17 ?_
        refine lv_sipush (v := 200) hx hb d_Mod_fits_18 (by decide) ?_
        refine lv_icmp_le (tgt := 30) hx hb d_Mod_fits_21 (by decide) (fun c4 => ?_) (fun c4 => ?_)
        · replace h := Eq.trans (if_pos c4).symm h
          refine lv_iload_n hx hb d_Mod_fits_30 rfl (lv_at hl 1 rfl) ?_
          exact mc_iret (w := a1) hx hb hr rfl hlocks E hI h d_Mod_fits_31
        · replace h := Eq.trans (if_neg c4).symm h
          refine lv_bipush (v := 10) hx hb d_Mod_fits_24 (by decide) ?_
          refine mg_fails S E hI kw_Mod_323 hl.1 ⟨Nat.le_of_ble_eq_true rfl, Nat.le_of_ble_eq_true rfl⟩ (Nat.le_of_ble_eq_true rfl) d_Mod_fits_26 (fun q H locs hN => ?_)
          exact mg_athrow S hlocks hno E hN h d_Mod_fits_29
def f_Mod_whole (N : Nat) (a1 : Int32) (a2 : Int32) (a3 : Int32) (α : mS) : Option (kO × mS) := mBi (f_Mod_mapped N 0 a1 a2 0 a3 α) fun v3 α1 => (some (some (some v3), α1))
set_option maxHeartbeats 4000000 in
set_option maxRecDepth 100000 in
theorem k_Mod_whole {l : Launch} {g : mG} {α : mS} (N : Nat) (a1 : Int32) (a2 : Int32) (a3 : Int32)  : ∀ x, f_Mod_whole N a1 a2 a3 α = some x → mC l g y_Mod_whole b_Mod_whole 4 (some .int) (848) (23782) [.ref (mad g 0), .int a1, .int a2, .int a3] α (mQr x) := by
  intro x h
  unfold f_Mod_whole at h
  refine mc_ofW (by decide) (fun A p e s m args below meth c S hr hlocks hno hargs E hI => ?_)
  have hx := S.1
  have hb := S.2.1
  have hown := S.2.2.2.1
  have hT := S.2.2.2.2
  subst hargs
  have hl := lv_entry ([.ref (mad g 0), .int a1, .int a2, .int a3]) (n := 4) (Nat.le_of_ble_eq_true rfl)
  rw [lg_entry_eq]
  generalize (lg_sl ([.ref (mad g 0), .int a1, .int a2, .int a3]) ++ List.replicate (4 - (lg_sl ([.ref (mad g 0), .int a1, .int a2, .int a3])).length) Slot.unset).toArray = ls at hl ⊢
  have hl : lv_has ls 4 [(0, .ref (mad g 0)), (1, .int a1), (2, .int a2), (3, .int a3)] := hl
  refine lv_aload_n hx hb d_Mod_whole_0 rfl (lv_at hl 0 rfl) ?_
  refine lv_iconst (v := 0) hx hb d_Mod_whole_1 (by decide) ?_
  refine lv_iload_n hx hb d_Mod_whole_2 rfl (lv_at hl 1 rfl) ?_
  refine lv_iload_n hx hb d_Mod_whole_3 rfl (lv_at hl 2 rfl) ?_
  refine lv_iconst (v := 0) hx hb d_Mod_whole_4 (by decide) ?_
  refine lv_iload_n hx hb d_Mod_whole_5 rfl (lv_at hl 3 rfl) ?_
  refine mg_cI (As := [.int 0, .int a1, .int a2, .int 0, .int a3]) (rest := []) h (k_Mod_mapped (l := l) (g := g) (α := α) N 0 a1 a2 0 a3) S hlocks hno E hI kw_Mod_359 ⟨Nat.le_of_ble_eq_true rfl, Nat.le_of_ble_eq_true rfl⟩ (mv_Mod E hI) rfl hl.1 rfl (Nat.le_of_ble_eq_true rfl) d_Mod_whole_6 (fun v3 α1 H locs e2 h hI => ?_)
  exact mc_iret (w := v3) hx hb hr rfl hlocks E hI h d_Mod_whole_9
theorem kw_Mod_402 : kWv "FamilyKernelModel" 402 "FamilyKernelModel" y_Mod_fits b_Mod_fits 2 (some .int) 1 := ⟨vt_1500, vt_1501, vt_1502, vt_1349, vt_1503, by decide, by decide, by decide +kernel⟩
theorem kw_Mod_513 : kWv "FamilyKernelModel" 513 "FamilyKernelModel" y_Mod_whole b_Mod_whole 4 (some .int) 3 := ⟨vt_1539, vt_1540, vt_1541, vt_1349, vt_1542, by decide, by decide, by decide +kernel⟩
def f_Mod_alone (N : Nat) (a1 : Int32) (α : mS) : Option (kO × mS) := mBi (f_Mod_fits N a1 α) fun v3 α1 => (mBi (f_Mod_whole N v3 0 0 α1) fun v6 α4 => (some (some (some v6), α4)))
set_option maxHeartbeats 4000000 in
set_option maxRecDepth 100000 in
theorem k_Mod_alone {l : Launch} {g : mG} {α : mS} (N : Nat) (a1 : Int32)  : ∀ x, f_Mod_alone N a1 α = some x → mC l g y_Mod_alone b_Mod_alone 2 (some .int) (849) (23805) [.ref (mad g 0), .int a1] α (mQr x) := by
  intro x h
  unfold f_Mod_alone at h
  refine mc_ofW (by decide) (fun A p e s m args below meth c S hr hlocks hno hargs E hI => ?_)
  have hx := S.1
  have hb := S.2.1
  have hown := S.2.2.2.1
  have hT := S.2.2.2.2
  subst hargs
  have hl := lv_entry ([.ref (mad g 0), .int a1]) (n := 2) (Nat.le_of_ble_eq_true rfl)
  rw [lg_entry_eq]
  generalize (lg_sl ([.ref (mad g 0), .int a1]) ++ List.replicate (2 - (lg_sl ([.ref (mad g 0), .int a1])).length) Slot.unset).toArray = ls at hl ⊢
  have hl : lv_has ls 2 [(0, .ref (mad g 0)), (1, .int a1)] := hl
  refine lv_aload_n hx hb d_Mod_alone_0 rfl (lv_at hl 0 rfl) ?_
  refine lv_aload_n hx hb d_Mod_alone_1 rfl (lv_at hl 0 rfl) ?_
  refine lv_iload_n hx hb d_Mod_alone_2 rfl (lv_at hl 1 rfl) ?_
  refine mg_cI (As := [.int a1]) (rest := [.ref (mad g 0)]) h (k_Mod_fits (l := l) (g := g) (α := α) N a1) S hlocks hno E hI kw_Mod_402 ⟨Nat.le_of_ble_eq_true rfl, Nat.le_of_ble_eq_true rfl⟩ (mv_Mod E hI) rfl hl.1 rfl (Nat.le_of_ble_eq_true rfl) d_Mod_alone_3 (fun v3 α1 H locs e2 h hI => ?_)
  refine lv_iconst (v := 0) hx hb d_Mod_alone_6 (by decide) ?_
  refine lv_iconst (v := 0) hx hb d_Mod_alone_7 (by decide) ?_
  refine mg_cI (As := [.int v3, .int 0, .int 0]) (rest := []) h (k_Mod_whole (l := l) (g := g) (α := α1) N v3 0 0) S hlocks hno E hI kw_Mod_513 ⟨Nat.le_of_ble_eq_true rfl, Nat.le_of_ble_eq_true rfl⟩ (mv_Mod E hI) rfl hl.1 rfl (Nat.le_of_ble_eq_true rfl) d_Mod_alone_8 (fun v6 α4 H locs e5 h hI => ?_)
  exact mc_iret (w := v6) hx hb hr rfl hlocks E hI h d_Mod_alone_11
def f_Mod_behind_4 (N : Nat)  (α : mS) : Nat → Int32 → Int32 → Option Int32
  | 0, _, _ => none
  | n + 1, x3_4, x2_4 => if x3_4 < 0 ∨ 400000 ≤ (x3_4 : Int32).toNatClampNeg then none else (if (α.2 2 (x3_4 : Int32).toNatClampNeg) = 8 then (if x3_4 < 0 ∨ 400000 ≤ (x3_4 : Int32).toNatClampNeg then none else (f_Mod_behind_4 N α n (α.2 3 (x3_4 : Int32).toNatClampNeg) (x2_4 + 1))) else (some x2_4))
def f_Mod_behind (N : Nat) (a1 : Int32) (α : mS) : Option Int32 := f_Mod_behind_4 N α N a1 0
set_option maxHeartbeats 4000000 in
set_option maxRecDepth 100000 in
theorem k_Mod_behind {l : Launch} {g : mG} {α : mS} (N : Nat) (a1 : Int32)  : ∀ x, f_Mod_behind N a1 α = some x → mV l g y_Mod_behind b_Mod_behind 4 (some .int) (1) (1) [.ref (mad g 0), .int a1] α x := by
  intro x h
  unfold f_Mod_behind at h
  refine mv_ofW (by decide) (fun A p e s m args below meth c S hr hlocks hargs E hI => ?_)
  have hx := S.1
  have hb := S.2.1
  have hown := S.2.2.2.1
  have hT := S.2.2.2.2
  subst hargs
  have hl := lv_entry ([.ref (mad g 0), .int a1]) (n := 4) (Nat.le_of_ble_eq_true rfl)
  rw [lg_entry_eq]
  generalize (lg_sl ([.ref (mad g 0), .int a1]) ++ List.replicate (4 - (lg_sl ([.ref (mad g 0), .int a1])).length) Slot.unset).toArray = ls at hl ⊢
  have hl : lv_has ls 4 [(0, .ref (mad g 0)), (1, .int a1)] := hl
  refine lv_iconst (v := 0) hx hb d_Mod_behind_0 (by decide) ?_
  refine lv_istore_n (lv' := [(2, .int 0), (0, .ref (mad g 0)), (1, .int a1)]) hx hb d_Mod_behind_1 rfl hl (by decide) rfl (fun ls hl => ?_)
  refine lv_iload_n hx hb d_Mod_behind_2 rfl (lv_at hl 2 rfl) ?_
  refine lv_istore_n (lv' := [(3, .int a1), (2, .int 0), (0, .ref (mad g 0)), (1, .int a1)]) hx hb d_Mod_behind_3 rfl hl (by decide) rfl (fun ls hl => ?_)
  have L4 : ∀ (n4 : Nat) (x3_4 : Int32) (x2_4 : Int32) (ls : Array Slot), f_Mod_behind_4 N α n4 x3_4 x2_4 = some x → lv_has ls 4 [(3, .int x3_4), (2, .int x2_4), (0, .ref (mad g 0))] → W p l e (mP (1) (1)) s m ([.ref (mad g 0), .int a1]).toArray below meth c s.heap [] 0 0 (MQ below (QcRead x) ([.ref (mad g 0), .int a1]).toArray s 0 0 (fun _ => False)) (F0 m 4 ls []) := by
    intro n4
    induction n4 with
    | zero => intro x3_4 x2_4 ls h hl; rw [f_Mod_behind_4] at h; cases h
    | succ n4 ih4 =>
      intro x3_4 x2_4 ls h hl
      rw [f_Mod_behind_4] at h
      refine lv_aload_n hx hb d_Mod_behind_4 rfl (lv_at hl 2 rfl) ?_
      refine mf_kind S E hI vt_1279 d_Mod_behind_5 ?_
      refine lv_iload_n hx hb d_Mod_behind_8 rfl (lv_at hl 0 rfl) ?_
      by_cases c1 : x3_4 < 0 ∨ 400000 ≤ (x3_4 : Int32).toNatClampNeg
      · replace h := Eq.trans (if_pos c1).symm h
        cases h
      · replace h := Eq.trans (if_neg c1).symm h
        refine ml_kind S E hI c1 d_Mod_behind_9 ?_
        refine lv_bipush (v := 8) hx hb d_Mod_behind_10 (by decide) ?_
        refine lv_icmp_ne (tgt := 28) hx hb d_Mod_behind_12 (by decide) (fun c2 => ?_) (fun c2 => ?_)
        · replace h := Eq.trans (if_neg c2).symm h
          refine lv_iload_n hx hb d_Mod_behind_28 rfl (lv_at hl 1 rfl) ?_
          exact kv_iret (w := x2_4) hx hb hr rfl hlocks (Option.some.inj h) d_Mod_behind_29
        · replace h := Eq.trans (if_pos c2).symm h
          refine lv_iinc (v := (x2_4 + 1)) (lv' := [(2, .int (x2_4 + 1)), (3, .int x3_4), (0, .ref (mad g 0))]) hx hb d_Mod_behind_15 hl (k := 1) rfl rfl (by decide) rfl (fun ls hl => ?_)
          refine lv_aload_n hx hb d_Mod_behind_18 rfl (lv_at hl 2 rfl) ?_
          refine mf_one S E hI vt_1280 d_Mod_behind_19 ?_
          refine lv_iload_n hx hb d_Mod_behind_22 rfl (lv_at hl 1 rfl) ?_
          by_cases c3 : x3_4 < 0 ∨ 400000 ≤ (x3_4 : Int32).toNatClampNeg
          · replace h := Eq.trans (if_pos c3).symm h
            cases h
          · replace h := Eq.trans (if_neg c3).symm h
            refine ml_one S E hI c3 d_Mod_behind_23 ?_
            refine lv_istore_n (lv' := [(3, .int (α.2 3 (x3_4 : Int32).toNatClampNeg)), (2, .int (x2_4 + 1)), (0, .ref (mad g 0))]) hx hb d_Mod_behind_24 rfl hl (by decide) rfl (fun ls hl => ?_)
            refine lv_goto (tgt := 4) hx hb d_Mod_behind_25 (by decide) ?_
            exact ih4 (α.2 3 (x3_4 : Int32).toNatClampNeg) (x2_4 + 1) _ h (lv_sub hl [0, 1, 2] rfl)
  exact L4 N a1 0 _ h (lv_sub hl [0, 1, 2] rfl)
def f_Mod_head_2 (N : Nat)  (α : mS) : Nat → Int32 → Option Int32
  | 0, _ => none
  | n + 1, x2_2 => if x2_2 < 0 ∨ 400000 ≤ (x2_2 : Int32).toNatClampNeg then none else (if (α.2 2 (x2_2 : Int32).toNatClampNeg) = 8 then (if x2_2 < 0 ∨ 400000 ≤ (x2_2 : Int32).toNatClampNeg then none else (f_Mod_head_2 N α n (α.2 3 (x2_2 : Int32).toNatClampNeg))) else (some x2_2))
def f_Mod_head (N : Nat) (a1 : Int32) (α : mS) : Option Int32 := f_Mod_head_2 N α N a1
set_option maxHeartbeats 4000000 in
set_option maxRecDepth 100000 in
theorem k_Mod_head {l : Launch} {g : mG} {α : mS} (N : Nat) (a1 : Int32)  : ∀ x, f_Mod_head N a1 α = some x → mV l g y_Mod_head b_Mod_head 3 (some .int) (1) (1) [.ref (mad g 0), .int a1] α x := by
  intro x h
  unfold f_Mod_head at h
  refine mv_ofW (by decide) (fun A p e s m args below meth c S hr hlocks hargs E hI => ?_)
  have hx := S.1
  have hb := S.2.1
  have hown := S.2.2.2.1
  have hT := S.2.2.2.2
  subst hargs
  have hl := lv_entry ([.ref (mad g 0), .int a1]) (n := 3) (Nat.le_of_ble_eq_true rfl)
  rw [lg_entry_eq]
  generalize (lg_sl ([.ref (mad g 0), .int a1]) ++ List.replicate (3 - (lg_sl ([.ref (mad g 0), .int a1])).length) Slot.unset).toArray = ls at hl ⊢
  have hl : lv_has ls 3 [(0, .ref (mad g 0)), (1, .int a1)] := hl
  refine lv_iload_n hx hb d_Mod_head_0 rfl (lv_at hl 1 rfl) ?_
  refine lv_istore_n (lv' := [(2, .int a1), (0, .ref (mad g 0)), (1, .int a1)]) hx hb d_Mod_head_1 rfl hl (by decide) rfl (fun ls hl => ?_)
  have L2 : ∀ (n2 : Nat) (x2_2 : Int32) (ls : Array Slot), f_Mod_head_2 N α n2 x2_2 = some x → lv_has ls 3 [(2, .int x2_2), (0, .ref (mad g 0))] → W p l e (mP (1) (1)) s m ([.ref (mad g 0), .int a1]).toArray below meth c s.heap [] 0 0 (MQ below (QcRead x) ([.ref (mad g 0), .int a1]).toArray s 0 0 (fun _ => False)) (F0 m 2 ls []) := by
    intro n2
    induction n2 with
    | zero => intro x2_2 ls h hl; rw [f_Mod_head_2] at h; cases h
    | succ n2 ih2 =>
      intro x2_2 ls h hl
      rw [f_Mod_head_2] at h
      refine lv_aload_n hx hb d_Mod_head_2 rfl (lv_at hl 1 rfl) ?_
      refine mf_kind S E hI vt_1279 d_Mod_head_3 ?_
      refine lv_iload_n hx hb d_Mod_head_6 rfl (lv_at hl 0 rfl) ?_
      by_cases c1 : x2_2 < 0 ∨ 400000 ≤ (x2_2 : Int32).toNatClampNeg
      · replace h := Eq.trans (if_pos c1).symm h
        cases h
      · replace h := Eq.trans (if_neg c1).symm h
        refine ml_kind S E hI c1 d_Mod_head_7 ?_
        refine lv_bipush (v := 8) hx hb d_Mod_head_8 (by decide) ?_
        refine lv_icmp_ne (tgt := 23) hx hb d_Mod_head_10 (by decide) (fun c2 => ?_) (fun c2 => ?_)
        · replace h := Eq.trans (if_neg c2).symm h
          refine lv_iload_n hx hb d_Mod_head_23 rfl (lv_at hl 0 rfl) ?_
          exact kv_iret (w := x2_2) hx hb hr rfl hlocks (Option.some.inj h) d_Mod_head_24
        · replace h := Eq.trans (if_pos c2).symm h
          refine lv_aload_n hx hb d_Mod_head_13 rfl (lv_at hl 1 rfl) ?_
          refine mf_one S E hI vt_1280 d_Mod_head_14 ?_
          refine lv_iload_n hx hb d_Mod_head_17 rfl (lv_at hl 0 rfl) ?_
          by_cases c3 : x2_2 < 0 ∨ 400000 ≤ (x2_2 : Int32).toNatClampNeg
          · replace h := Eq.trans (if_pos c3).symm h
            cases h
          · replace h := Eq.trans (if_neg c3).symm h
            refine ml_one S E hI c3 d_Mod_head_18 ?_
            refine lv_istore_n (lv' := [(2, .int (α.2 3 (x2_2 : Int32).toNatClampNeg)), (0, .ref (mad g 0))]) hx hb d_Mod_head_19 rfl hl (by decide) rfl (fun ls hl => ?_)
            refine lv_goto (tgt := 2) hx hb d_Mod_head_20 (by decide) ?_
            exact ih2 (α.2 3 (x2_2 : Int32).toNatClampNeg) _ h (lv_sub hl [0, 1] rfl)
  exact L2 N a1 _ h (lv_sub hl [0, 1] rfl)
def f_Mod_leveled (N : Nat) (a1 : Int32) (a2 : Int32) (α : mS) : Option (kO × mS) := mBi (f_Mod_mapped N 4 a1 0 0 a2 α) fun v3 α1 => (some (some (some v3), α1))
set_option maxHeartbeats 4000000 in
set_option maxRecDepth 100000 in
theorem k_Mod_leveled {l : Launch} {g : mG} {α : mS} (N : Nat) (a1 : Int32) (a2 : Int32)  : ∀ x, f_Mod_leveled N a1 a2 α = some x → mC l g y_Mod_leveled b_Mod_leveled 3 (some .int) (848) (23782) [.ref (mad g 0), .int a1, .int a2] α (mQr x) := by
  intro x h
  unfold f_Mod_leveled at h
  refine mc_ofW (by decide) (fun A p e s m args below meth c S hr hlocks hno hargs E hI => ?_)
  have hx := S.1
  have hb := S.2.1
  have hown := S.2.2.2.1
  have hT := S.2.2.2.2
  subst hargs
  have hl := lv_entry ([.ref (mad g 0), .int a1, .int a2]) (n := 3) (Nat.le_of_ble_eq_true rfl)
  rw [lg_entry_eq]
  generalize (lg_sl ([.ref (mad g 0), .int a1, .int a2]) ++ List.replicate (3 - (lg_sl ([.ref (mad g 0), .int a1, .int a2])).length) Slot.unset).toArray = ls at hl ⊢
  have hl : lv_has ls 3 [(0, .ref (mad g 0)), (1, .int a1), (2, .int a2)] := hl
  refine lv_aload_n hx hb d_Mod_leveled_0 rfl (lv_at hl 0 rfl) ?_
  refine lv_iconst (v := 4) hx hb d_Mod_leveled_1 (by decide) ?_
  refine lv_iload_n hx hb d_Mod_leveled_2 rfl (lv_at hl 1 rfl) ?_
  refine lv_iconst (v := 0) hx hb d_Mod_leveled_3 (by decide) ?_
  refine lv_iconst (v := 0) hx hb d_Mod_leveled_4 (by decide) ?_
  refine lv_iload_n hx hb d_Mod_leveled_5 rfl (lv_at hl 2 rfl) ?_
  refine mg_cI (As := [.int 4, .int a1, .int 0, .int 0, .int a2]) (rest := []) h (k_Mod_mapped (l := l) (g := g) (α := α) N 4 a1 0 0 a2) S hlocks hno E hI kw_Mod_359 ⟨Nat.le_of_ble_eq_true rfl, Nat.le_of_ble_eq_true rfl⟩ (mv_Mod E hI) rfl hl.1 rfl (Nat.le_of_ble_eq_true rfl) d_Mod_leveled_6 (fun v3 α1 H locs e2 h hI => ?_)
  exact mc_iret (w := v3) hx hb hr rfl hlocks E hI h d_Mod_leveled_9
def f_Mod_costs (N : Nat) (a1 : Int32) (α : mS) : Option (kO × mS) := if ((α.1 22) + a1) ≤ 60000 then (some (some none, (mSi α 22 ((α.1 22) + a1)))) else (some (none, (mSi α 22 ((α.1 22) + a1))))
set_option maxHeartbeats 4000000 in
set_option maxRecDepth 100000 in
theorem k_Mod_costs {l : Launch} {g : mG} {α : mS} (N : Nat) (a1 : Int32)  : ∀ x, f_Mod_costs N a1 α = some x → mC l g y_Mod_costs b_Mod_costs 2 none (43) (1260) [.ref (mad g 0), .int a1] α (mQr x) := by
  intro x h
  unfold f_Mod_costs at h
  refine mc_ofW (by decide) (fun A p e s m args below meth c S hr hlocks hno hargs E hI => ?_)
  have hx := S.1
  have hb := S.2.1
  have hown := S.2.2.2.1
  have hT := S.2.2.2.2
  subst hargs
  have hl := lv_entry ([.ref (mad g 0), .int a1]) (n := 2) (Nat.le_of_ble_eq_true rfl)
  rw [lg_entry_eq]
  generalize (lg_sl ([.ref (mad g 0), .int a1]) ++ List.replicate (2 - (lg_sl ([.ref (mad g 0), .int a1])).length) Slot.unset).toArray = ls at hl ⊢
  have hl : lv_has ls 2 [(0, .ref (mad g 0)), (1, .int a1)] := hl
  refine lv_aload_n hx hb d_Mod_costs_0 rfl (lv_at hl 0 rfl) ?_
  refine lv_dup hx hb d_Mod_costs_1 rfl ?_
  refine mf_work S E hI vt_1322 d_Mod_costs_2 ?_
  refine lv_iload_n hx hb d_Mod_costs_5 rfl (lv_at hl 1 rfl) ?_
  refine lv_iadd hx hb d_Mod_costs_6 ?_
  refine mp_work S E hI vt_1322 d_Mod_costs_7 (fun H locs hI => ?_)
  refine lv_aload_n hx hb d_Mod_costs_10 rfl (lv_at hl 0 rfl) ?_
  refine mf_work S E hI vt_1322 d_Mod_costs_11 ?_
  refine lv_ldcw (v := 60000) hx hb hown (hT _ vt_1591) d_Mod_costs_14 ?_
  refine lv_icmp_le (tgt := 26) hx hb d_Mod_costs_17 (by decide) (fun c1 => ?_) (fun c1 => ?_)
  · replace h := Eq.trans (if_pos c1).symm h
    exact mc_vret hx hb hr hlocks E hI h d_Mod_costs_26
  · replace h := Eq.trans (if_neg c1).symm h
    refine lv_bipush (v := 10) hx hb d_Mod_costs_20 (by decide) ?_
    refine mg_fails S E hI kw_Mod_323 hl.1 ⟨Nat.le_of_ble_eq_true rfl, Nat.le_of_ble_eq_true rfl⟩ (Nat.le_of_ble_eq_true rfl) d_Mod_costs_22 (fun q H locs hN => ?_)
    exact mg_athrow S hlocks hno E hN h d_Mod_costs_25
def f_Mod_nth_8 (N : Nat)  (α : mS) : Nat → Int32 → Int32 → Int32 → Option Int32
  | 0, _, _, _ => none
  | n + 1, x5_8, x4_8, x3_8 => if x5_8 ≤ x3_8 then (if x4_8 < 0 ∨ 400000 ≤ (x4_8 : Int32).toNatClampNeg then none else (some (α.2 4 (x4_8 : Int32).toNatClampNeg))) else (if x4_8 < 0 ∨ 400000 ≤ (x4_8 : Int32).toNatClampNeg then none else (f_Mod_nth_8 N α n (x5_8 + (-1)) (α.2 3 (x4_8 : Int32).toNatClampNeg) x3_8))
def f_Mod_nth (N : Nat) (a1 : Int32) (a2 : Int32) (a3 : Int32) (α : mS) : Option Int32 := f_Mod_nth_8 N α N (a2 - 1) a1 a3
set_option maxHeartbeats 4000000 in
set_option maxRecDepth 100000 in
theorem k_Mod_nth {l : Launch} {g : mG} {α : mS} (N : Nat) (a1 : Int32) (a2 : Int32) (a3 : Int32)  : ∀ x, f_Mod_nth N a1 a2 a3 α = some x → mV l g y_Mod_nth b_Mod_nth 6 (some .int) (1) (1) [.ref (mad g 0), .int a1, .int a2, .int a3] α x := by
  intro x h
  unfold f_Mod_nth at h
  refine mv_ofW (by decide) (fun A p e s m args below meth c S hr hlocks hargs E hI => ?_)
  have hx := S.1
  have hb := S.2.1
  have hown := S.2.2.2.1
  have hT := S.2.2.2.2
  subst hargs
  have hl := lv_entry ([.ref (mad g 0), .int a1, .int a2, .int a3]) (n := 6) (Nat.le_of_ble_eq_true rfl)
  rw [lg_entry_eq]
  generalize (lg_sl ([.ref (mad g 0), .int a1, .int a2, .int a3]) ++ List.replicate (6 - (lg_sl ([.ref (mad g 0), .int a1, .int a2, .int a3])).length) Slot.unset).toArray = ls at hl ⊢
  have hl : lv_has ls 6 [(0, .ref (mad g 0)), (1, .int a1), (2, .int a2), (3, .int a3)] := hl
  refine lv_iload_n hx hb d_Mod_nth_0 rfl (lv_at hl 1 rfl) ?_
  refine lv_istore (lv' := [(4, .int a1), (0, .ref (mad g 0)), (1, .int a1), (2, .int a2), (3, .int a3)]) hx hb d_Mod_nth_1 hl (by decide) rfl (fun ls hl => ?_)
  refine lv_iload_n hx hb d_Mod_nth_3 rfl (lv_at hl 3 rfl) ?_
  refine lv_iconst (v := 1) hx hb d_Mod_nth_4 (by decide) ?_
  refine lv_isub hx hb d_Mod_nth_5 ?_
  refine lv_istore (lv' := [(5, .int (a2 - 1)), (4, .int a1), (0, .ref (mad g 0)), (1, .int a1), (2, .int a2), (3, .int a3)]) hx hb d_Mod_nth_6 hl (by decide) rfl (fun ls hl => ?_)
  have L8 : ∀ (n8 : Nat) (x5_8 : Int32) (x4_8 : Int32) (x3_8 : Int32) (ls : Array Slot), f_Mod_nth_8 N α n8 x5_8 x4_8 x3_8 = some x → lv_has ls 6 [(5, .int x5_8), (4, .int x4_8), (0, .ref (mad g 0)), (3, .int x3_8)] → W p l e (mP (1) (1)) s m ([.ref (mad g 0), .int a1, .int a2, .int a3]).toArray below meth c s.heap [] 0 0 (MQ below (QcRead x) ([.ref (mad g 0), .int a1, .int a2, .int a3]).toArray s 0 0 (fun _ => False)) (F0 m 8 ls []) := by
    intro n8
    induction n8 with
    | zero => intro x5_8 x4_8 x3_8 ls h hl; rw [f_Mod_nth_8] at h; cases h
    | succ n8 ih8 =>
      intro x5_8 x4_8 x3_8 ls h hl
      rw [f_Mod_nth_8] at h
      refine lv_iload hx hb d_Mod_nth_8 (lv_at hl 0 rfl) ?_
      refine lv_iload_n hx hb d_Mod_nth_10 rfl (lv_at hl 3 rfl) ?_
      refine lv_icmp_le (tgt := 29) hx hb d_Mod_nth_11 (by decide) (fun c1 => ?_) (fun c1 => ?_)
      · replace h := Eq.trans (if_pos c1).symm h
        refine lv_aload_n hx hb d_Mod_nth_29 rfl (lv_at hl 2 rfl) ?_
        refine mf_two S E hI vt_1281 d_Mod_nth_30 ?_
        refine lv_iload hx hb d_Mod_nth_33 (lv_at hl 1 rfl) ?_
        by_cases c2 : x4_8 < 0 ∨ 400000 ≤ (x4_8 : Int32).toNatClampNeg
        · replace h := Eq.trans (if_pos c2).symm h
          cases h
        · replace h := Eq.trans (if_neg c2).symm h
          refine ml_two S E hI c2 d_Mod_nth_35 ?_
          exact kv_iret (w := (α.2 4 (x4_8 : Int32).toNatClampNeg)) hx hb hr rfl hlocks (Option.some.inj h) d_Mod_nth_36
      · replace h := Eq.trans (if_neg c1).symm h
        refine lv_aload_n hx hb d_Mod_nth_14 rfl (lv_at hl 2 rfl) ?_
        refine mf_one S E hI vt_1280 d_Mod_nth_15 ?_
        refine lv_iload hx hb d_Mod_nth_18 (lv_at hl 1 rfl) ?_
        by_cases c3 : x4_8 < 0 ∨ 400000 ≤ (x4_8 : Int32).toNatClampNeg
        · replace h := Eq.trans (if_pos c3).symm h
          cases h
        · replace h := Eq.trans (if_neg c3).symm h
          refine ml_one S E hI c3 d_Mod_nth_20 ?_
          refine lv_istore (lv' := [(4, .int (α.2 3 (x4_8 : Int32).toNatClampNeg)), (5, .int x5_8), (0, .ref (mad g 0)), (3, .int x3_8)]) hx hb d_Mod_nth_21 hl (by decide) rfl (fun ls hl => ?_)
          refine lv_iinc (v := (x5_8 + (-1))) (lv' := [(5, .int (x5_8 + (-1))), (4, .int (α.2 3 (x4_8 : Int32).toNatClampNeg)), (0, .ref (mad g 0)), (3, .int x3_8)]) hx hb d_Mod_nth_23 hl (k := 1) rfl rfl (by decide) rfl (fun ls hl => ?_)
          refine lv_goto (tgt := 8) hx hb d_Mod_nth_26 (by decide) ?_
          exact ih8 (x5_8 + (-1)) (α.2 3 (x4_8 : Int32).toNatClampNeg) x3_8 _ h (lv_sub hl [0, 1, 2, 3] rfl)
  exact L8 N (a2 - 1) a1 a3 _ h (lv_sub hl [0, 1, 2, 5] rfl)
