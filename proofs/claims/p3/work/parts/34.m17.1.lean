def f_Mod_together (N : Nat) (a1 : Int32) (α : mS) : Option (kO × mS) := if a1 ≤ 6000 then (some (some none, α)) else (some (none, (mTh α 10 (-1))))
set_option maxHeartbeats 4000000 in
set_option maxRecDepth 100000 in
theorem k_Mod_together {l : Launch} {g : mG} {α : mS} (N : Nat) (a1 : Int32)  : ∀ x, f_Mod_together N a1 α = some x → mC l g y_Mod_together b_Mod_together 2 none (43) (1260) [.ref (mad g 0), .int a1] α (mQr x) := by
  intro x h
  unfold f_Mod_together at h
  refine mc_ofW (by decide) (fun A p e s m args below meth c S hr hlocks hno hargs E hI => ?_)
  have hx := S.1
  have hb := S.2.1
  have hown := S.2.2.2.1
  have hT := S.2.2.2.2
  subst hargs
  have hl := lv_entry ([.ref (mad g 0), .int a1]) (n := 2) (Nat.le_of_ble_eq_true rfl)
  rw [lg_entry_eq]
  generalize (lg_sl ([.ref (mad g 0), .int a1]) ++ List.replicate (2 - (lg_sl ([.ref (mad g 0), .int a1])).length) Slot.unset).toArray = ls at hl ⊢
  have hl : lv_has ls 2 [(0, .ref (mad g 0)), (1, .int a1)] := hl
  refine lv_iload_n hx hb d_Mod_together_0 rfl (lv_at hl 1 rfl) ?_
  refine lv_sipush (v := 6000) hx hb d_Mod_together_1 (by decide) ?_
  refine lv_icmp_le (tgt := 13) hx hb d_Mod_together_4 (by decide) (fun c1 => ?_) (fun c1 => ?_)
  · replace h := Eq.trans (if_pos c1).symm h
    exact mc_vret hx hb hr hlocks E hI h d_Mod_together_13
  · replace h := Eq.trans (if_neg c1).symm h
    refine lv_bipush (v := 10) hx hb d_Mod_together_7 (by decide) ?_
    refine mg_fails S E hI kw_Mod_323 hl.1 ⟨Nat.le_of_ble_eq_true rfl, Nat.le_of_ble_eq_true rfl⟩ (Nat.le_of_ble_eq_true rfl) d_Mod_together_9 (fun q H locs hN => ?_)
    exact mg_athrow S hlocks hno E hN h d_Mod_together_12
theorem kw_Mod_519 : kWv "FamilyKernelModel" 519 "FamilyKernelModel" y_Mod_together b_Mod_together 2 none 1 := ⟨vt_1425, vt_1426, vt_1427, vt_1349, vt_1428, by decide, by decide, by decide +kernel⟩
theorem kw_Mod_522 : kWv "FamilyKernelModel" 522 "FamilyKernelModel" y_Mod_alone b_Mod_alone 2 (some .int) 1 := ⟨vt_1429, vt_1430, vt_1431, vt_1349, vt_1432, by decide, by decide, by decide +kernel⟩
def f_Mod_checked (N : Nat)  (α : mS) : Option (kO × mS) := mBv (f_Mod_take N α) fun α1 => (mBi ((G_applied N dp_applied).2.2.2.2.2 0 α1) fun v5 α3 => (mBv (f_Mod_must N 58 α3) fun α6 => (mBi ((G_applied N dp_applied).2.2.2.2.2 0 α6) fun v10 α8 => (mBv (f_Mod_must N 46 α8) fun α11 => (if v5 < 0 ∨ 400000 ≤ (v5 : Int32).toNatClampNeg then none else (if v10 < 0 ∨ 400000 ≤ (v10 : Int32).toNatClampNeg then none else (mBv (f_Mod_together N ((α11.2 6 (v5 : Int32).toNatClampNeg) + (α11.2 6 (v10 : Int32).toNatClampNeg)) α11) fun α15 => (mBi (f_Mod_alone N v5 α15) fun v19 α17 => (mBi (f_Mod_alone N v10 α17) fun v22 α20 => (mBi ((G_check N dp_check).2.2.2 v22 0 α20) fun v25 α23 => (mBv ((G_check N dp_check).1 v19 v22 0 α23) fun α26 => (some (some none, α26)))))))))))))
set_option maxHeartbeats 4000000 in
set_option maxRecDepth 100000 in
theorem k_Mod_checked {l : Launch} {g : mG} {α : mS} (N : Nat)   : ∀ x, f_Mod_checked N α = some x → mC l g y_Mod_checked b_Mod_checked 3 none (1793) (50601) [.ref (mad g 0)] α (mQr x) := by
  intro x h
  unfold f_Mod_checked at h
  refine mc_ofW (by decide) (fun A p e s m args below meth c S hr hlocks hno hargs E hI => ?_)
  have hx := S.1
  have hb := S.2.1
  have hown := S.2.2.2.1
  have hT := S.2.2.2.2
  subst hargs
  have hl := lv_entry ([.ref (mad g 0)]) (n := 3) (Nat.le_of_ble_eq_true rfl)
  rw [lg_entry_eq]
  generalize (lg_sl ([.ref (mad g 0)]) ++ List.replicate (3 - (lg_sl ([.ref (mad g 0)])).length) Slot.unset).toArray = ls at hl ⊢
  have hl : lv_has ls 3 [(0, .ref (mad g 0))] := hl
  refine lv_aload_n hx hb d_Mod_checked_0 rfl (lv_at hl 0 rfl) ?_
  refine mg_cV (As := []) (rest := []) h (k_Mod_take (l := l) (g := g) (α := α) N) S hlocks hno E hI kw_Mod_281 ⟨Nat.le_of_ble_eq_true rfl, Nat.le_of_ble_eq_true rfl⟩ (mv_Mod E hI) rfl hl.1 rfl (Nat.le_of_ble_eq_true rfl) d_Mod_checked_1 (fun α1 H locs e2 h hI => ?_)
  refine lv_aload_n hx hb d_Mod_checked_4 rfl (lv_at hl 0 rfl) ?_
  refine lv_iconst (v := 0) hx hb d_Mod_checked_5 (by decide) ?_
  refine mg_cI (As := [.int 0]) (rest := []) h (((ok_applied (l := l) (g := g) N dp_applied).2.2.2.2.2) 0 α1) S hlocks hno E hI kw_Mod_399 ⟨Nat.le_of_ble_eq_true rfl, Nat.le_of_ble_eq_true rfl⟩ (mv_Mod E hI) rfl hl.1 rfl (Nat.le_of_ble_eq_true rfl) d_Mod_checked_6 (fun v5 α3 H locs e4 h hI => ?_)
  refine lv_istore_n (lv' := [(1, .int v5), (0, .ref (mad g 0))]) hx hb d_Mod_checked_9 rfl hl (by decide) rfl (fun ls hl => ?_)
  refine lv_aload_n hx hb d_Mod_checked_10 rfl (lv_at hl 1 rfl) ?_
  refine lv_bipush (v := 58) hx hb d_Mod_checked_11 (by decide) ?_
  refine mg_cV (As := [.int 58]) (rest := []) h (k_Mod_must (l := l) (g := g) (α := α3) N 58) S hlocks hno E hI kw_Mod_405 ⟨Nat.le_of_ble_eq_true rfl, Nat.le_of_ble_eq_true rfl⟩ (mv_Mod E hI) rfl hl.1 rfl (Nat.le_of_ble_eq_true rfl) d_Mod_checked_13 (fun α6 H locs e7 h hI => ?_)
  refine lv_aload_n hx hb d_Mod_checked_16 rfl (lv_at hl 1 rfl) ?_
  refine lv_iconst (v := 0) hx hb d_Mod_checked_17 (by decide) ?_
  refine mg_cI (As := [.int 0]) (rest := []) h (((ok_applied (l := l) (g := g) N dp_applied).2.2.2.2.2) 0 α6) S hlocks hno E hI kw_Mod_399 ⟨Nat.le_of_ble_eq_true rfl, Nat.le_of_ble_eq_true rfl⟩ (mv_Mod E hI) rfl hl.1 rfl (Nat.le_of_ble_eq_true rfl) d_Mod_checked_18 (fun v10 α8 H locs e9 h hI => ?_)
  refine lv_istore_n (lv' := [(2, .int v10), (1, .int v5), (0, .ref (mad g 0))]) hx hb d_Mod_checked_21 rfl hl (by decide) rfl (fun ls hl => ?_)
  refine lv_aload_n hx hb d_Mod_checked_22 rfl (lv_at hl 2 rfl) ?_
  refine lv_bipush (v := 46) hx hb d_Mod_checked_23 (by decide) ?_
  refine mg_cV (As := [.int 46]) (rest := []) h (k_Mod_must (l := l) (g := g) (α := α8) N 46) S hlocks hno E hI kw_Mod_405 ⟨Nat.le_of_ble_eq_true rfl, Nat.le_of_ble_eq_true rfl⟩ (mv_Mod E hI) rfl hl.1 rfl (Nat.le_of_ble_eq_true rfl) d_Mod_checked_25 (fun α11 H locs e12 h hI => ?_)
  refine lv_aload_n hx hb d_Mod_checked_28 rfl (lv_at hl 2 rfl) ?_
  refine lv_aload_n hx hb d_Mod_checked_29 rfl (lv_at hl 2 rfl) ?_
  refine mf_big S E hI vt_1283 d_Mod_checked_30 ?_
  refine lv_iload_n hx hb d_Mod_checked_33 rfl (lv_at hl 1 rfl) ?_
  by_cases c13 : v5 < 0 ∨ 400000 ≤ (v5 : Int32).toNatClampNeg
  · replace h := Eq.trans (if_pos c13).symm h
    cases h
  · replace h := Eq.trans (if_neg c13).symm h
    refine ml_big S E hI c13 d_Mod_checked_34 ?_
    refine lv_aload_n hx hb d_Mod_checked_35 rfl (lv_at hl 2 rfl) ?_
    refine mf_big S E hI vt_1283 d_Mod_checked_36 ?_
    refine lv_iload_n hx hb d_Mod_checked_39 rfl (lv_at hl 0 rfl) ?_
    by_cases c14 : v10 < 0 ∨ 400000 ≤ (v10 : Int32).toNatClampNeg
    · replace h := Eq.trans (if_pos c14).symm h
      cases h
    · replace h := Eq.trans (if_neg c14).symm h
      refine ml_big S E hI c14 d_Mod_checked_40 ?_
      refine lv_iadd hx hb d_Mod_checked_41 ?_
      refine mg_cV (As := [.int ((α11.2 6 (v5 : Int32).toNatClampNeg) + (α11.2 6 (v10 : Int32).toNatClampNeg))]) (rest := []) h (k_Mod_together (l := l) (g := g) (α := α11) N ((α11.2 6 (v5 : Int32).toNatClampNeg) + (α11.2 6 (v10 : Int32).toNatClampNeg))) S hlocks hno E hI kw_Mod_519 ⟨Nat.le_of_ble_eq_true rfl, Nat.le_of_ble_eq_true rfl⟩ (mv_Mod E hI) rfl hl.1 rfl (Nat.le_of_ble_eq_true rfl) d_Mod_checked_42 (fun α15 H locs e16 h hI => ?_)
      refine lv_aload_n hx hb d_Mod_checked_45 rfl (lv_at hl 2 rfl) ?_
      refine lv_iload_n hx hb d_Mod_checked_46 rfl (lv_at hl 1 rfl) ?_
      refine mg_cI (As := [.int v5]) (rest := []) h (k_Mod_alone (l := l) (g := g) (α := α15) N v5) S hlocks hno E hI kw_Mod_522 ⟨Nat.le_of_ble_eq_true rfl, Nat.le_of_ble_eq_true rfl⟩ (mv_Mod E hI) rfl hl.1 rfl (Nat.le_of_ble_eq_true rfl) d_Mod_checked_47 (fun v19 α17 H locs e18 h hI => ?_)
      refine lv_istore_n (lv' := [(1, .int v19), (2, .int v10), (0, .ref (mad g 0))]) hx hb d_Mod_checked_50 rfl hl (by decide) rfl (fun ls hl => ?_)
      refine lv_aload_n hx hb d_Mod_checked_51 rfl (lv_at hl 2 rfl) ?_
      refine lv_iload_n hx hb d_Mod_checked_52 rfl (lv_at hl 1 rfl) ?_
      refine mg_cI (As := [.int v10]) (rest := []) h (k_Mod_alone (l := l) (g := g) (α := α17) N v10) S hlocks hno E hI kw_Mod_522 ⟨Nat.le_of_ble_eq_true rfl, Nat.le_of_ble_eq_true rfl⟩ (mv_Mod E hI) rfl hl.1 rfl (Nat.le_of_ble_eq_true rfl) d_Mod_checked_53 (fun v22 α20 H locs e21 h hI => ?_)
      refine lv_istore_n (lv' := [(2, .int v22), (1, .int v19), (0, .ref (mad g 0))]) hx hb d_Mod_checked_56 rfl hl (by decide) rfl (fun ls hl => ?_)
      refine lv_aload_n hx hb d_Mod_checked_57 rfl (lv_at hl 2 rfl) ?_
      refine lv_iload_n hx hb d_Mod_checked_58 rfl (lv_at hl 0 rfl) ?_
      refine lv_iconst (v := 0) hx hb d_Mod_checked_59 (by decide) ?_
      refine mg_cI (As := [.int v22, .int 0]) (rest := []) h (((ok_check (l := l) (g := g) N dp_check).2.2.2) v22 0 α20) S hlocks hno E hI kw_Mod_477 ⟨Nat.le_of_ble_eq_true rfl, Nat.le_of_ble_eq_true rfl⟩ (mv_Mod E hI) rfl hl.1 rfl (Nat.le_of_ble_eq_true rfl) d_Mod_checked_60 (fun v25 α23 H locs e24 h hI => ?_)
      refine lv_pop hx hb d_Mod_checked_63 rfl ?_
      refine lv_aload_n hx hb d_Mod_checked_64 rfl (lv_at hl 2 rfl) ?_
      refine lv_iload_n hx hb d_Mod_checked_65 rfl (lv_at hl 1 rfl) ?_
      refine lv_iload_n hx hb d_Mod_checked_66 rfl (lv_at hl 0 rfl) ?_
      refine lv_iconst (v := 0) hx hb d_Mod_checked_67 (by decide) ?_
      refine mg_cV (As := [.int v19, .int v22, .int 0]) (rest := []) h (((ok_check (l := l) (g := g) N dp_check).1) v19 v22 0 α23) S hlocks hno E hI kw_Mod_485 ⟨Nat.le_of_ble_eq_true rfl, Nat.le_of_ble_eq_true rfl⟩ (mv_Mod E hI) rfl hl.1 rfl (Nat.le_of_ble_eq_true rfl) d_Mod_checked_68 (fun α26 H locs e27 h hI => ?_)
      exact mc_vret hx hb hr hlocks E hI h d_Mod_checked_71
def f_Mod_refuse (a1 : Int32) (a2 : Int32) (α : mS) : Int32 × mS := if a2 = 0 then (((a2 &&& 1), α)) else (((a2 &&& 1), (mSi α 2 a1)))
set_option maxHeartbeats 4000000 in
set_option maxRecDepth 100000 in
theorem k_Mod_refuse {l : Launch} {g : mG} {α : mS} (a1 : Int32) (a2 : Int32)  : mC l g y_Mod_refuse b_Mod_refuse 3 (some .boolean) (1) (1) [.ref (mad g 0), .int a1, .int a2] α (mQr (some (some (f_Mod_refuse a1 a2 α).1), (f_Mod_refuse a1 a2 α).2)) := by
  generalize h : f_Mod_refuse a1 a2 α = x
  unfold f_Mod_refuse at h
  refine mc_ofW (by decide) (fun A p e s m args below meth c S hr hlocks hno hargs E hI => ?_)
  have hx := S.1
  have hb := S.2.1
  have hown := S.2.2.2.1
  have hT := S.2.2.2.2
  subst hargs
  have hl := lv_entry ([.ref (mad g 0), .int a1, .int a2]) (n := 3) (Nat.le_of_ble_eq_true rfl)
  rw [lg_entry_eq]
  generalize (lg_sl ([.ref (mad g 0), .int a1, .int a2]) ++ List.replicate (3 - (lg_sl ([.ref (mad g 0), .int a1, .int a2])).length) Slot.unset).toArray = ls at hl ⊢
  have hl : lv_has ls 3 [(0, .ref (mad g 0)), (1, .int a1), (2, .int a2)] := hl
  refine lv_iload_n hx hb d_Mod_refuse_0 rfl (lv_at hl 2 rfl) ?_
  refine lv_if_eq (tgt := 9) hx hb d_Mod_refuse_1 (by decide) (fun c1 => ?_) (fun c1 => ?_)
  · replace h := Eq.trans (if_pos c1).symm h
    refine lv_iload_n hx hb d_Mod_refuse_9 rfl (lv_at hl 2 rfl) ?_
    exact mc_iret (w := (a2 &&& 1)) hx hb hr rfl hlocks E hI (by rw [← h]) d_Mod_refuse_10
  · replace h := Eq.trans (if_neg c1).symm h
    refine lv_aload_n hx hb d_Mod_refuse_4 rfl (lv_at hl 0 rfl) ?_
    refine lv_iload_n hx hb d_Mod_refuse_5 rfl (lv_at hl 1 rfl) ?_
    refine mp_thrown S E hI vt_1270 d_Mod_refuse_6 (fun H locs hI => ?_)
    refine lv_iload_n hx hb d_Mod_refuse_9 rfl (lv_at hl 2 rfl) ?_
    exact mc_iret (w := (a2 &&& 1)) hx hb hr rfl hlocks E hI (by rw [← h]) d_Mod_refuse_10
theorem kw_Mod_251 : kWv "FamilyKernelModel" 251 "FamilyKernelModel" y_Mod_refuse b_Mod_refuse 3 (some .boolean) 2 := ⟨vt_1348, vt_1350, vt_1351, vt_1349, vt_1352, by decide, by decide, by decide +kernel⟩
def f_Mod_none (a1 : Int32) (α : mS) : Int32 × mS := if a1 < 0 then ((((f_Mod_refuse 1 1 (mSi α 2 0)).1 &&& 1), (f_Mod_refuse 1 1 (mSi α 2 0)).2)) else (if a1 < (α.1 16) then ((((f_Mod_refuse 1 0 (mSi α 2 0)).1 &&& 1), (f_Mod_refuse 1 0 (mSi α 2 0)).2)) else ((((f_Mod_refuse 1 1 (mSi α 2 0)).1 &&& 1), (f_Mod_refuse 1 1 (mSi α 2 0)).2)))
set_option maxHeartbeats 4000000 in
set_option maxRecDepth 100000 in
theorem k_Mod_none {l : Launch} {g : mG} {α : mS} (a1 : Int32)  : mC l g y_Mod_none b_Mod_none 2 (some .boolean) (2) (23) [.ref (mad g 0), .int a1] α (mQr (some (some (f_Mod_none a1 α).1), (f_Mod_none a1 α).2)) := by
  generalize h : f_Mod_none a1 α = x
  unfold f_Mod_none at h
  refine mc_ofW (by decide) (fun A p e s m args below meth c S hr hlocks hno hargs E hI => ?_)
  have hx := S.1
  have hb := S.2.1
  have hown := S.2.2.2.1
  have hT := S.2.2.2.2
  subst hargs
  have hl := lv_entry ([.ref (mad g 0), .int a1]) (n := 2) (Nat.le_of_ble_eq_true rfl)
  rw [lg_entry_eq]
  generalize (lg_sl ([.ref (mad g 0), .int a1]) ++ List.replicate (2 - (lg_sl ([.ref (mad g 0), .int a1])).length) Slot.unset).toArray = ls at hl ⊢
  have hl : lv_has ls 2 [(0, .ref (mad g 0)), (1, .int a1)] := hl
  refine lv_aload_n hx hb d_Mod_none_0 rfl (lv_at hl 0 rfl) ?_
  refine lv_iconst (v := 0) hx hb d_Mod_none_1 (by decide) ?_
  refine mp_thrown S E hI vt_1270 d_Mod_none_2 (fun H locs hI => ?_)
  refine lv_aload_n hx hb d_Mod_none_5 rfl (lv_at hl 0 rfl) ?_
  refine lv_iconst (v := 1) hx hb d_Mod_none_6 (by decide) ?_
  refine lv_iload_n hx hb d_Mod_none_7 rfl (lv_at hl 1 rfl) ?_
  refine lv_if_lt (tgt := 19) hx hb d_Mod_none_8 (by decide) (fun c1 => ?_) (fun c1 => ?_)
  · replace h := Eq.trans (if_pos c1).symm h
    refine lv_iconst (v := 1) hx hb d_Mod_none_19 (by decide) ?_
    refine lv_goto (tgt := 24) hx hb d_Mod_none_20 (by decide) ?_
    refine mg_tI (As := [.int 1, .int 1]) (rest := []) (k_Mod_refuse (l := l) (g := g) (α := (mSi α 2 0)) 1 1) S hlocks hno E hI kw_Mod_251 ⟨Nat.le_of_ble_eq_true rfl, Nat.le_of_ble_eq_true rfl⟩ (mv_Mod E hI) rfl hl.1 rfl (Nat.le_of_ble_eq_true rfl) d_Mod_none_24 (fun H locs hI => ?_)
    exact mc_iret (w := ((f_Mod_refuse 1 1 (mSi α 2 0)).1 &&& 1)) hx hb hr rfl hlocks E hI (by rw [← h]) d_Mod_none_27
  · replace h := Eq.trans (if_neg c1).symm h
    refine lv_iload_n hx hb d_Mod_none_11 rfl (lv_at hl 1 rfl) ?_
    refine lv_aload_n hx hb d_Mod_none_12 rfl (lv_at hl 0 rfl) ?_
    refine mf_constants S E hI vt_1295 d_Mod_none_13 ?_
    refine lv_icmp_lt (tgt := 23) hx hb d_Mod_none_16 (by decide) (fun c2 => ?_) (fun c2 => ?_)
    · replace h := Eq.trans (if_pos c2).symm h
      refine lv_iconst (v := 0) hx hb d_Mod_none_23 (by decide) ?_
      refine mg_tI (As := [.int 1, .int 0]) (rest := []) (k_Mod_refuse (l := l) (g := g) (α := (mSi α 2 0)) 1 0) S hlocks hno E hI kw_Mod_251 ⟨Nat.le_of_ble_eq_true rfl, Nat.le_of_ble_eq_true rfl⟩ (mv_Mod E hI) rfl hl.1 rfl (Nat.le_of_ble_eq_true rfl) d_Mod_none_24 (fun H locs hI => ?_)
      exact mc_iret (w := ((f_Mod_refuse 1 0 (mSi α 2 0)).1 &&& 1)) hx hb hr rfl hlocks E hI (by rw [← h]) d_Mod_none_27
    · replace h := Eq.trans (if_neg c2).symm h
      refine lv_iconst (v := 1) hx hb d_Mod_none_19 (by decide) ?_
      refine lv_goto (tgt := 24) hx hb d_Mod_none_20 (by decide) ?_
      refine mg_tI (As := [.int 1, .int 1]) (rest := []) (k_Mod_refuse (l := l) (g := g) (α := (mSi α 2 0)) 1 1) S hlocks hno E hI kw_Mod_251 ⟨Nat.le_of_ble_eq_true rfl, Nat.le_of_ble_eq_true rfl⟩ (mv_Mod E hI) rfl hl.1 rfl (Nat.le_of_ble_eq_true rfl) d_Mod_none_24 (fun H locs hI => ?_)
      exact mc_iret (w := ((f_Mod_refuse 1 1 (mSi α 2 0)).1 &&& 1)) hx hb hr rfl hlocks E hI (by rw [← h]) d_Mod_none_27
theorem kw_Mod_577 : kWv "FamilyKernelModel" 577 "FamilyKernelModel" y_Mod_none b_Mod_none 2 (some .boolean) 1 := ⟨vt_1747, vt_1748, vt_1749, vt_1349, vt_1750, by decide, by decide, by decide +kernel⟩
def f_Mod_constant_2_j25 (N : Nat)  (y1 : Int32) (y2 : Int32) (t0 : Int32) (γ : mS) : Option (kO × mS) := if y2 = 0 then (if y1 < 0 ∨ 301 ≤ (y1 : Int32).toNatClampNeg then none else (some (some (some (γ.2 12 (y1 : Int32).toNatClampNeg)), γ))) else (if y2 = 1 then (if y1 < 0 ∨ 301 ≤ (y1 : Int32).toNatClampNeg then none else (if (γ.2 13 (y1 : Int32).toNatClampNeg) < 0 ∨ 400000 ≤ ((γ.2 13 (y1 : Int32).toNatClampNeg) : Int32).toNatClampNeg then none else (some (some (some (γ.2 6 ((γ.2 13 (y1 : Int32).toNatClampNeg) : Int32).toNatClampNeg)), γ)))) else (if y2 = 2 then (if y1 < 0 ∨ 301 ≤ (y1 : Int32).toNatClampNeg then none else (if 0 ≤ (γ.2 14 (y1 : Int32).toNatClampNeg) then (if y1 < 0 ∨ 301 ≤ (y1 : Int32).toNatClampNeg then none else (if (γ.2 14 (y1 : Int32).toNatClampNeg) < 0 ∨ 400000 ≤ ((γ.2 14 (y1 : Int32).toNatClampNeg) : Int32).toNatClampNeg then none else (some (some (some (γ.2 6 ((γ.2 14 (y1 : Int32).toNatClampNeg) : Int32).toNatClampNeg)), γ)))) else (some (some (some 0), γ)))) else (if y2 = 3 then (if t0 = 0 then (some (some (some 0), γ)) else (if y1 < 0 ∨ 301 ≤ (y1 : Int32).toNatClampNeg then none else (some (some (some (γ.2 15 (y1 : Int32).toNatClampNeg)), γ)))) else (if y2 = 4 then (if t0 = 0 then (some (some (some 0), γ)) else (if y1 < 0 ∨ 301 ≤ (y1 : Int32).toNatClampNeg then none else (some (some (some (γ.2 16 (y1 : Int32).toNatClampNeg)), γ)))) else (if y2 = 5 then (if t0 = 0 then (some (some (some 0), γ)) else (if y1 < 0 ∨ 301 ≤ (y1 : Int32).toNatClampNeg then none else (some (some (some (γ.2 17 (y1 : Int32).toNatClampNeg)), γ)))) else (if y2 = 6 then (if y1 < 0 ∨ 301 ≤ (y1 : Int32).toNatClampNeg then none else (if (γ.2 12 (y1 : Int32).toNatClampNeg) = 4 then (if y1 < 0 ∨ 301 ≤ (y1 : Int32).toNatClampNeg then none else (some (some (some (γ.2 18 (y1 : Int32).toNatClampNeg)), γ))) else (some (some (some 0), γ)))) else (if y2 = 7 then (if y1 < 0 ∨ 301 ≤ (y1 : Int32).toNatClampNeg then none else (if (γ.2 12 (y1 : Int32).toNatClampNeg) = 4 then (if y1 < 0 ∨ 301 ≤ (y1 : Int32).toNatClampNeg then none else (some (some (some (γ.2 19 (y1 : Int32).toNatClampNeg)), γ))) else (some (some (some 0), γ)))) else (some (some (some 0), (mSi γ 2 2))))))))))
def f_Mod_constant_2 (N : Nat) (a1 : Int32) (a2 : Int32) (α : mS) : Option (kO × mS) := if (f_Mod_none a1 α).1 = 0 then (if a1 < 0 ∨ 301 ≤ (a1 : Int32).toNatClampNeg then none else (if ((f_Mod_none a1 α).2.2 12 (a1 : Int32).toNatClampNeg) = 3 then (f_Mod_constant_2_j25 N a1 a2 1 (f_Mod_none a1 α).2) else (f_Mod_constant_2_j25 N a1 a2 0 (f_Mod_none a1 α).2))) else (some (some (some 0), (f_Mod_none a1 α).2))
set_option maxHeartbeats 4000000 in
set_option maxRecDepth 100000 in
theorem k_Mod_constant_2 {l : Launch} {g : mG} {α : mS} (N : Nat) (a1 : Int32) (a2 : Int32)  : ∀ x, f_Mod_constant_2 N a1 a2 α = some x → mC l g y_Mod_constant_2 b_Mod_constant_2 4 (some .int) (3) (44) [.ref (mad g 0), .int a1, .int a2] α (mQr x) := by
  intro x h
  unfold f_Mod_constant_2 at h
  refine mc_ofW (by decide) (fun A p e s m args below meth c S hr hlocks hno hargs E hI => ?_)
  have hx := S.1
  have hb := S.2.1
  have hown := S.2.2.2.1
  have hT := S.2.2.2.2
  subst hargs
  have hl := lv_entry ([.ref (mad g 0), .int a1, .int a2]) (n := 4) (Nat.le_of_ble_eq_true rfl)
  rw [lg_entry_eq]
  generalize (lg_sl ([.ref (mad g 0), .int a1, .int a2]) ++ List.replicate (4 - (lg_sl ([.ref (mad g 0), .int a1, .int a2])).length) Slot.unset).toArray = ls at hl ⊢
  have hl : lv_has ls 4 [(0, .ref (mad g 0)), (1, .int a1), (2, .int a2)] := hl
  have J25 : ∀ (y1 : Int32) (y2 : Int32) (t0 : Int32) (γ : mS) (H : Heap) (locs : List Loc) (ls : Array Slot), f_Mod_constant_2_j25 N y1 y2 t0 γ = some x → mI g A s γ H locs → lv_has ls 4 [(0, .ref (mad g 0)), (1, .int y1), (2, .int y2)] → W p l e (mR (3) (44)) s m ([.ref (mad g 0), .int a1, .int a2]).toArray below meth c H locs 0 0 (vEQ below (mQ g A (mQr x)) ([.ref (mad g 0), .int a1, .int a2]).toArray s A) (F0 m 25 ls [.int t0]) := by
    intro y1 y2 t0 γ H locs ls h hI hl
    unfold f_Mod_constant_2_j25 at h
    refine lv_istore_n (lv' := [(3, .int t0), (0, .ref (mad g 0)), (1, .int y1), (2, .int y2)]) hx hb d_Mod_constant_2_25 rfl hl (by decide) rfl (fun ls hl => ?_)
    refine lv_iload_n hx hb d_Mod_constant_2_26 rfl (lv_at hl 3 rfl) ?_
    by_cases c4 : y2 = 0
    · replace h := Eq.trans (if_pos c4).symm h
      refine lv_tableIn (off := 45) (tgt := 72) hx hb d_Mod_constant_2_27 (by rw [c4]; decide) (by rw [c4]; decide) (by rw [c4]; rfl) (by decide) ?_
      refine lv_aload_n hx hb d_Mod_constant_2_72 rfl (lv_at hl 1 rfl) ?_
      refine mf_sortOf S E hI vt_1296 d_Mod_constant_2_73 ?_
      refine lv_iload_n hx hb d_Mod_constant_2_76 rfl (lv_at hl 2 rfl) ?_
      by_cases c5 : y1 < 0 ∨ 301 ≤ (y1 : Int32).toNatClampNeg
      · replace h := Eq.trans (if_pos c5).symm h
        cases h
      · replace h := Eq.trans (if_neg c5).symm h
        refine ml_sortOf S E hI c5 d_Mod_constant_2_77 ?_
        exact mc_iret (w := (γ.2 12 (y1 : Int32).toNatClampNeg)) hx hb hr rfl hlocks E hI h d_Mod_constant_2_78
    · replace h := Eq.trans (if_neg c4).symm h
      have nc4 := ksw (z := 0) rfl c4
      by_cases c6 : y2 = 1
      · replace h := Eq.trans (if_pos c6).symm h
        refine lv_tableIn (off := 52) (tgt := 79) hx hb d_Mod_constant_2_27 (by rw [c6]; decide) (by rw [c6]; decide) (by rw [c6]; rfl) (by decide) ?_
        refine lv_aload_n hx hb d_Mod_constant_2_79 rfl (lv_at hl 1 rfl) ?_
        refine mf_big S E hI vt_1283 d_Mod_constant_2_80 ?_
        refine lv_aload_n hx hb d_Mod_constant_2_83 rfl (lv_at hl 1 rfl) ?_
        refine mf_typeOf S E hI vt_1297 d_Mod_constant_2_84 ?_
        refine lv_iload_n hx hb d_Mod_constant_2_87 rfl (lv_at hl 2 rfl) ?_
        by_cases c7 : y1 < 0 ∨ 301 ≤ (y1 : Int32).toNatClampNeg
        · replace h := Eq.trans (if_pos c7).symm h
          cases h
        · replace h := Eq.trans (if_neg c7).symm h
          refine ml_typeOf S E hI c7 d_Mod_constant_2_88 ?_
          by_cases c8 : (γ.2 13 (y1 : Int32).toNatClampNeg) < 0 ∨ 400000 ≤ ((γ.2 13 (y1 : Int32).toNatClampNeg) : Int32).toNatClampNeg
          · replace h := Eq.trans (if_pos c8).symm h
            cases h
          · replace h := Eq.trans (if_neg c8).symm h
            refine ml_big S E hI c8 d_Mod_constant_2_89 ?_
            exact mc_iret (w := (γ.2 6 ((γ.2 13 (y1 : Int32).toNatClampNeg) : Int32).toNatClampNeg)) hx hb hr rfl hlocks E hI h d_Mod_constant_2_90
      · replace h := Eq.trans (if_neg c6).symm h
        have nc6 := ksw (z := 1) rfl c6
        by_cases c9 : y2 = 2
        · replace h := Eq.trans (if_pos c9).symm h
          refine lv_tableIn (off := 64) (tgt := 91) hx hb d_Mod_constant_2_27 (by rw [c9]; decide) (by rw [c9]; decide) (by rw [c9]; rfl) (by decide) ?_
          refine lv_aload_n hx hb d_Mod_constant_2_91 rfl (lv_at hl 1 rfl) ?_
          refine mf_valueOf S E hI vt_1298 d_Mod_constant_2_92 ?_
          refine lv_iload_n hx hb d_Mod_constant_2_95 rfl (lv_at hl 2 rfl) ?_
          by_cases c10 : y1 < 0 ∨ 301 ≤ (y1 : Int32).toNatClampNeg
          · replace h := Eq.trans (if_pos c10).symm h
            cases h
          · replace h := Eq.trans (if_neg c10).symm h
            refine ml_valueOf S E hI c10 d_Mod_constant_2_96 ?_
            refine lv_if_ge (tgt := 104) hx hb d_Mod_constant_2_97 (by decide) (fun c11 => ?_) (fun c11 => ?_)
            · replace h := Eq.trans (if_pos c11).symm h
              refine lv_aload_n hx hb d_Mod_constant_2_104 rfl (lv_at hl 1 rfl) ?_
              refine mf_big S E hI vt_1283 d_Mod_constant_2_105 ?_
              refine lv_aload_n hx hb d_Mod_constant_2_108 rfl (lv_at hl 1 rfl) ?_
              refine mf_valueOf S E hI vt_1298 d_Mod_constant_2_109 ?_
              refine lv_iload_n hx hb d_Mod_constant_2_112 rfl (lv_at hl 2 rfl) ?_
              by_cases c12 : y1 < 0 ∨ 301 ≤ (y1 : Int32).toNatClampNeg
              · replace h := Eq.trans (if_pos c12).symm h
                cases h
              · replace h := Eq.trans (if_neg c12).symm h
                refine ml_valueOf S E hI c12 d_Mod_constant_2_113 ?_
                by_cases c13 : (γ.2 14 (y1 : Int32).toNatClampNeg) < 0 ∨ 400000 ≤ ((γ.2 14 (y1 : Int32).toNatClampNeg) : Int32).toNatClampNeg
                · replace h := Eq.trans (if_pos c13).symm h
                  cases h
                · replace h := Eq.trans (if_neg c13).symm h
                  refine ml_big S E hI c13 d_Mod_constant_2_114 ?_
                  exact mc_iret (w := (γ.2 6 ((γ.2 14 (y1 : Int32).toNatClampNeg) : Int32).toNatClampNeg)) hx hb hr rfl hlocks E hI h d_Mod_constant_2_115
            · replace h := Eq.trans (if_neg c11).symm h
              refine lv_iconst (v := 0) hx hb d_Mod_constant_2_100 (by decide) ?_
              refine lv_goto (tgt := 115) hx hb d_Mod_constant_2_101 (by decide) ?_
              exact mc_iret (w := 0) hx hb hr rfl hlocks E hI h d_Mod_constant_2_115
        · replace h := Eq.trans (if_neg c9).symm h
          have nc9 := ksw (z := 2) rfl c9
          by_cases c14 : y2 = 3
          · replace h := Eq.trans (if_pos c14).symm h
            refine lv_tableIn (off := 89) (tgt := 116) hx hb d_Mod_constant_2_27 (by rw [c14]; decide) (by rw [c14]; decide) (by rw [c14]; rfl) (by decide) ?_
            refine lv_iload_n hx hb d_Mod_constant_2_116 rfl (lv_at hl 0 rfl) ?_
            refine lv_if_eq (tgt := 129) hx hb d_Mod_constant_2_117 (by decide) (fun c15 => ?_) (fun c15 => ?_)
            · replace h := Eq.trans (if_pos c15).symm h
              refine lv_iconst (v := 0) hx hb d_Mod_constant_2_129 (by decide) ?_
              exact mc_iret (w := 0) hx hb hr rfl hlocks E hI h d_Mod_constant_2_130
            · replace h := Eq.trans (if_neg c15).symm h
              refine lv_aload_n hx hb d_Mod_constant_2_120 rfl (lv_at hl 1 rfl) ?_
              refine mf_parameters S E hI vt_1299 d_Mod_constant_2_121 ?_
              refine lv_iload_n hx hb d_Mod_constant_2_124 rfl (lv_at hl 2 rfl) ?_
              by_cases c16 : y1 < 0 ∨ 301 ≤ (y1 : Int32).toNatClampNeg
              · replace h := Eq.trans (if_pos c16).symm h
                cases h
              · replace h := Eq.trans (if_neg c16).symm h
                refine ml_parameters S E hI c16 d_Mod_constant_2_125 ?_
                refine lv_goto (tgt := 130) hx hb d_Mod_constant_2_126 (by decide) ?_
                exact mc_iret (w := (γ.2 15 (y1 : Int32).toNatClampNeg)) hx hb hr rfl hlocks E hI h d_Mod_constant_2_130
          · replace h := Eq.trans (if_neg c14).symm h
            have nc14 := ksw (z := 3) rfl c14
            by_cases c17 : y2 = 4
            · replace h := Eq.trans (if_pos c17).symm h
              refine lv_tableIn (off := 104) (tgt := 131) hx hb d_Mod_constant_2_27 (by rw [c17]; decide) (by rw [c17]; decide) (by rw [c17]; rfl) (by decide) ?_
              refine lv_iload_n hx hb d_Mod_constant_2_131 rfl (lv_at hl 0 rfl) ?_
              refine lv_if_eq (tgt := 144) hx hb d_Mod_constant_2_132 (by decide) (fun c18 => ?_) (fun c18 => ?_)
              · replace h := Eq.trans (if_pos c18).symm h
                refine lv_iconst (v := 0) hx hb d_Mod_constant_2_144 (by decide) ?_
                exact mc_iret (w := 0) hx hb hr rfl hlocks E hI h d_Mod_constant_2_145
              · replace h := Eq.trans (if_neg c18).symm h
                refine lv_aload_n hx hb d_Mod_constant_2_135 rfl (lv_at hl 1 rfl) ?_
                refine mf_indices S E hI vt_1300 d_Mod_constant_2_136 ?_
                refine lv_iload_n hx hb d_Mod_constant_2_139 rfl (lv_at hl 2 rfl) ?_
                by_cases c19 : y1 < 0 ∨ 301 ≤ (y1 : Int32).toNatClampNeg
                · replace h := Eq.trans (if_pos c19).symm h
                  cases h
                · replace h := Eq.trans (if_neg c19).symm h
                  refine ml_indices S E hI c19 d_Mod_constant_2_140 ?_
                  refine lv_goto (tgt := 145) hx hb d_Mod_constant_2_141 (by decide) ?_
                  exact mc_iret (w := (γ.2 16 (y1 : Int32).toNatClampNeg)) hx hb hr rfl hlocks E hI h d_Mod_constant_2_145
            · replace h := Eq.trans (if_neg c17).symm h
              have nc17 := ksw (z := 4) rfl c17
              by_cases c20 : y2 = 5
              · replace h := Eq.trans (if_pos c20).symm h
                refine lv_tableIn (off := 119) (tgt := 146) hx hb d_Mod_constant_2_27 (by rw [c20]; decide) (by rw [c20]; decide) (by rw [c20]; rfl) (by decide) ?_
                refine lv_iload_n hx hb d_Mod_constant_2_146 rfl (lv_at hl 0 rfl) ?_
                refine lv_if_eq (tgt := 159) hx hb d_Mod_constant_2_147 (by decide) (fun c21 => ?_) (fun c21 => ?_)
                · replace h := Eq.trans (if_pos c21).symm h
                  refine lv_iconst (v := 0) hx hb d_Mod_constant_2_159 (by decide) ?_
                  exact mc_iret (w := 0) hx hb hr rfl hlocks E hI h d_Mod_constant_2_160
                · replace h := Eq.trans (if_neg c21).symm h
                  refine lv_aload_n hx hb d_Mod_constant_2_150 rfl (lv_at hl 1 rfl) ?_
                  refine mf_constructors S E hI vt_1301 d_Mod_constant_2_151 ?_
                  refine lv_iload_n hx hb d_Mod_constant_2_154 rfl (lv_at hl 2 rfl) ?_
                  by_cases c22 : y1 < 0 ∨ 301 ≤ (y1 : Int32).toNatClampNeg
                  · replace h := Eq.trans (if_pos c22).symm h
                    cases h
                  · replace h := Eq.trans (if_neg c22).symm h
                    refine ml_constructors S E hI c22 d_Mod_constant_2_155 ?_
                    refine lv_goto (tgt := 160) hx hb d_Mod_constant_2_156 (by decide) ?_
                    exact mc_iret (w := (γ.2 17 (y1 : Int32).toNatClampNeg)) hx hb hr rfl hlocks E hI h d_Mod_constant_2_160
              · replace h := Eq.trans (if_neg c20).symm h
                have nc20 := ksw (z := 5) rfl c20
                by_cases c23 : y2 = 6
                · replace h := Eq.trans (if_pos c23).symm h
                  refine lv_tableIn (off := 134) (tgt := 161) hx hb d_Mod_constant_2_27 (by rw [c23]; decide) (by rw [c23]; decide) (by rw [c23]; rfl) (by decide) ?_
                  refine lv_aload_n hx hb d_Mod_constant_2_161 rfl (lv_at hl 1 rfl) ?_
                  refine mf_sortOf S E hI vt_1296 d_Mod_constant_2_162 ?_
                  refine lv_iload_n hx hb d_Mod_constant_2_165 rfl (lv_at hl 2 rfl) ?_
                  by_cases c24 : y1 < 0 ∨ 301 ≤ (y1 : Int32).toNatClampNeg
                  · replace h := Eq.trans (if_pos c24).symm h
                    cases h
                  · replace h := Eq.trans (if_neg c24).symm h
                    refine ml_sortOf S E hI c24 d_Mod_constant_2_166 ?_
                    refine lv_iconst (v := 4) hx hb d_Mod_constant_2_167 (by decide) ?_
                    refine lv_icmp_ne (tgt := 180) hx hb d_Mod_constant_2_168 (by decide) (fun c25 => ?_) (fun c25 => ?_)
                    · replace h := Eq.trans (if_neg c25).symm h
                      refine lv_iconst (v := 0) hx hb d_Mod_constant_2_180 (by decide) ?_
                      exact mc_iret (w := 0) hx hb hr rfl hlocks E hI h d_Mod_constant_2_181
                    · replace h := Eq.trans (if_pos c25).symm h
                      refine lv_aload_n hx hb d_Mod_constant_2_171 rfl (lv_at hl 1 rfl) ?_
                      refine mf_arguments S E hI vt_1302 d_Mod_constant_2_172 ?_
                      refine lv_iload_n hx hb d_Mod_constant_2_175 rfl (lv_at hl 2 rfl) ?_
                      by_cases c26 : y1 < 0 ∨ 301 ≤ (y1 : Int32).toNatClampNeg
                      · replace h := Eq.trans (if_pos c26).symm h
                        cases h
                      · replace h := Eq.trans (if_neg c26).symm h
                        refine ml_arguments S E hI c26 d_Mod_constant_2_176 ?_
                        refine lv_goto (tgt := 181) hx hb d_Mod_constant_2_177 (by decide) ?_
                        exact mc_iret (w := (γ.2 18 (y1 : Int32).toNatClampNeg)) hx hb hr rfl hlocks E hI h d_Mod_constant_2_181
                · replace h := Eq.trans (if_neg c23).symm h
                  have nc23 := ksw (z := 6) rfl c23
                  by_cases c27 : y2 = 7
                  · replace h := Eq.trans (if_pos c27).symm h
                    refine lv_tableIn (off := 155) (tgt := 182) hx hb d_Mod_constant_2_27 (by rw [c27]; decide) (by rw [c27]; decide) (by rw [c27]; rfl) (by decide) ?_
                    refine lv_aload_n hx hb d_Mod_constant_2_182 rfl (lv_at hl 1 rfl) ?_
                    refine mf_sortOf S E hI vt_1296 d_Mod_constant_2_183 ?_
                    refine lv_iload_n hx hb d_Mod_constant_2_186 rfl (lv_at hl 2 rfl) ?_
                    by_cases c28 : y1 < 0 ∨ 301 ≤ (y1 : Int32).toNatClampNeg
                    · replace h := Eq.trans (if_pos c28).symm h
                      cases h
                    · replace h := Eq.trans (if_neg c28).symm h
                      refine ml_sortOf S E hI c28 d_Mod_constant_2_187 ?_
                      refine lv_iconst (v := 4) hx hb d_Mod_constant_2_188 (by decide) ?_
                      refine lv_icmp_ne (tgt := 201) hx hb d_Mod_constant_2_189 (by decide) (fun c29 => ?_) (fun c29 => ?_)
                      · replace h := Eq.trans (if_neg c29).symm h
                        refine lv_iconst (v := 0) hx hb d_Mod_constant_2_201 (by decide) ?_
                        exact mc_iret (w := 0) hx hb hr rfl hlocks E hI h d_Mod_constant_2_202
                      · replace h := Eq.trans (if_pos c29).symm h
                        refine lv_aload_n hx hb d_Mod_constant_2_192 rfl (lv_at hl 1 rfl) ?_
                        refine mf_recursive S E hI vt_1303 d_Mod_constant_2_193 ?_
                        refine lv_iload_n hx hb d_Mod_constant_2_196 rfl (lv_at hl 2 rfl) ?_
                        by_cases c30 : y1 < 0 ∨ 301 ≤ (y1 : Int32).toNatClampNeg
                        · replace h := Eq.trans (if_pos c30).symm h
                          cases h
                        · replace h := Eq.trans (if_neg c30).symm h
                          refine ml_recursive S E hI c30 d_Mod_constant_2_197 ?_
                          refine lv_goto (tgt := 202) hx hb d_Mod_constant_2_198 (by decide) ?_
                          exact mc_iret (w := (γ.2 19 (y1 : Int32).toNatClampNeg)) hx hb hr rfl hlocks E hI h d_Mod_constant_2_202
                  · replace h := Eq.trans (if_neg c27).symm h
                    have nc27 := ksw (z := 7) rfl c27
                    refine lv_tableOut (tgt := 203) hx hb d_Mod_constant_2_27 (by omega) (by decide) ?_
                    refine lv_aload_n hx hb d_Mod_constant_2_203 rfl (lv_at hl 1 rfl) ?_
                    refine lv_iconst (v := 2) hx hb d_Mod_constant_2_204 (by decide) ?_
                    refine mp_thrown S E hI vt_1270 d_Mod_constant_2_205 (fun H locs hI => ?_)
                    refine lv_iconst (v := 0) hx hb d_Mod_constant_2_208 (by decide) ?_
                    exact mc_iret (w := 0) hx hb hr rfl hlocks E hI h d_Mod_constant_2_209
  refine lv_aload_n hx hb d_Mod_constant_2_0 rfl (lv_at hl 0 rfl) ?_
  refine lv_iload_n hx hb d_Mod_constant_2_1 rfl (lv_at hl 1 rfl) ?_
  refine mg_tI (As := [.int a1]) (rest := []) (k_Mod_none (l := l) (g := g) (α := α) a1) S hlocks hno E hI kw_Mod_577 ⟨Nat.le_of_ble_eq_true rfl, Nat.le_of_ble_eq_true rfl⟩ (mv_Mod E hI) rfl hl.1 rfl (Nat.le_of_ble_eq_true rfl) d_Mod_constant_2_2 (fun H locs hI => ?_)
  refine lv_if_eq (tgt := 10) hx hb d_Mod_constant_2_5 (by decide) (fun c1 => ?_) (fun c1 => ?_)
  · replace h := Eq.trans (if_pos c1).symm h
    refine lv_aload_n hx hb d_Mod_constant_2_10 rfl (lv_at hl 0 rfl) ?_
    refine mf_sortOf S E hI vt_1296 d_Mod_constant_2_11 ?_
    refine lv_iload_n hx hb d_Mod_constant_2_14 rfl (lv_at hl 1 rfl) ?_
    by_cases c2 : a1 < 0 ∨ 301 ≤ (a1 : Int32).toNatClampNeg
    · replace h := Eq.trans (if_pos c2).symm h
      cases h
    · replace h := Eq.trans (if_neg c2).symm h
      refine ml_sortOf S E hI c2 d_Mod_constant_2_15 ?_
      refine lv_iconst (v := 3) hx hb d_Mod_constant_2_16 (by decide) ?_
      refine lv_icmp_ne (tgt := 24) hx hb d_Mod_constant_2_17 (by decide) (fun c3 => ?_) (fun c3 => ?_)
      · replace h := Eq.trans (if_neg c3).symm h
        refine lv_iconst (v := 0) hx hb d_Mod_constant_2_24 (by decide) ?_
        exact J25 a1 a2 0 _ _ _ _ h hI (lv_sub hl [0, 1, 2] rfl)
      · replace h := Eq.trans (if_pos c3).symm h
        refine lv_iconst (v := 1) hx hb d_Mod_constant_2_20 (by decide) ?_
        refine lv_goto (tgt := 25) hx hb d_Mod_constant_2_21 (by decide) ?_
        exact J25 a1 a2 1 _ _ _ _ h hI (lv_sub hl [0, 1, 2] rfl)
  · replace h := Eq.trans (if_neg c1).symm h
    refine lv_iconst (v := 0) hx hb d_Mod_constant_2_8 (by decide) ?_
    exact mc_iret (w := 0) hx hb hr rfl hlocks E hI h d_Mod_constant_2_9
