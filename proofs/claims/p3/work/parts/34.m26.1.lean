def f_Mod_evaluated (N : Nat)  (α : mS) : Option (kO × mS) := mBv (f_Mod_take N α) fun α1 => (mBi ((G_applied N dp_applied).2.2.2.2.2 0 α1) fun v5 α3 => (mBv (f_Mod_must N 46 α3) fun α6 => (mBi (f_Mod_alone N v5 α6) fun v10 α8 => (mBi ((G_check N dp_check).2.1 v10 1 α8) fun v13 α11 => (mBi ((G_normal N dp_normal) v10 1 α11) fun v16 α14 => (mBv ((G_sayBinder N dp_sayBinder).2.2 v16 0 (mSi α14 1 0)) fun α17 => (some (some none, α17))))))))
set_option maxHeartbeats 4000000 in
set_option maxRecDepth 100000 in
theorem k_Mod_evaluated {l : Launch} {g : mG} {α : mS} (N : Nat)   : ∀ x, f_Mod_evaluated N α = some x → mC l g y_Mod_evaluated b_Mod_evaluated 3 none (1793) (50605) [.ref (mad g 0)] α (mQr x) := by
  intro x h
  unfold f_Mod_evaluated at h
  refine mc_ofW (by decide) (fun A p e s m args below meth c S hr hlocks hno hargs E hI => ?_)
  have hx := S.1
  have hb := S.2.1
  have hown := S.2.2.2.1
  have hT := S.2.2.2.2
  subst hargs
  have hl := lv_entry ([.ref (mad g 0)]) (n := 3) (Nat.le_of_ble_eq_true rfl)
  rw [lg_entry_eq]
  generalize (lg_sl ([.ref (mad g 0)]) ++ List.replicate (3 - (lg_sl ([.ref (mad g 0)])).length) Slot.unset).toArray = ls at hl ⊢
  have hl : lv_has ls 3 [(0, .ref (mad g 0))] := hl
  refine lv_aload_n hx hb d_Mod_evaluated_0 rfl (lv_at hl 0 rfl) ?_
  refine mg_cV (As := []) (rest := []) h (k_Mod_take (l := l) (g := g) (α := α) N) S hlocks hno E hI kw_Mod_281 ⟨Nat.le_of_ble_eq_true rfl, Nat.le_of_ble_eq_true rfl⟩ (mv_Mod E hI) rfl hl.1 rfl (Nat.le_of_ble_eq_true rfl) d_Mod_evaluated_1 (fun α1 H locs e2 h hI => ?_)
  refine lv_aload_n hx hb d_Mod_evaluated_4 rfl (lv_at hl 0 rfl) ?_
  refine lv_iconst (v := 0) hx hb d_Mod_evaluated_5 (by decide) ?_
  refine mg_cI (As := [.int 0]) (rest := []) h (((ok_applied (l := l) (g := g) N dp_applied).2.2.2.2.2) 0 α1) S hlocks hno E hI kw_Mod_399 ⟨Nat.le_of_ble_eq_true rfl, Nat.le_of_ble_eq_true rfl⟩ (mv_Mod E hI) rfl hl.1 rfl (Nat.le_of_ble_eq_true rfl) d_Mod_evaluated_6 (fun v5 α3 H locs e4 h hI => ?_)
  refine lv_istore_n (lv' := [(1, .int v5), (0, .ref (mad g 0))]) hx hb d_Mod_evaluated_9 rfl hl (by decide) rfl (fun ls hl => ?_)
  refine lv_aload_n hx hb d_Mod_evaluated_10 rfl (lv_at hl 1 rfl) ?_
  refine lv_bipush (v := 46) hx hb d_Mod_evaluated_11 (by decide) ?_
  refine mg_cV (As := [.int 46]) (rest := []) h (k_Mod_must (l := l) (g := g) (α := α3) N 46) S hlocks hno E hI kw_Mod_405 ⟨Nat.le_of_ble_eq_true rfl, Nat.le_of_ble_eq_true rfl⟩ (mv_Mod E hI) rfl hl.1 rfl (Nat.le_of_ble_eq_true rfl) d_Mod_evaluated_13 (fun α6 H locs e7 h hI => ?_)
  refine lv_aload_n hx hb d_Mod_evaluated_16 rfl (lv_at hl 1 rfl) ?_
  refine lv_iload_n hx hb d_Mod_evaluated_17 rfl (lv_at hl 0 rfl) ?_
  refine mg_cI (As := [.int v5]) (rest := []) h (k_Mod_alone (l := l) (g := g) (α := α6) N v5) S hlocks hno E hI kw_Mod_522 ⟨Nat.le_of_ble_eq_true rfl, Nat.le_of_ble_eq_true rfl⟩ (mv_Mod E hI) rfl hl.1 rfl (Nat.le_of_ble_eq_true rfl) d_Mod_evaluated_18 (fun v10 α8 H locs e9 h hI => ?_)
  refine lv_istore_n (lv' := [(1, .int v10), (0, .ref (mad g 0))]) hx hb d_Mod_evaluated_21 rfl hl (by decide) rfl (fun ls hl => ?_)
  refine lv_aload_n hx hb d_Mod_evaluated_22 rfl (lv_at hl 1 rfl) ?_
  refine lv_iload_n hx hb d_Mod_evaluated_23 rfl (lv_at hl 0 rfl) ?_
  refine lv_iconst (v := 1) hx hb d_Mod_evaluated_24 (by decide) ?_
  refine mg_cI (As := [.int v10, .int 1]) (rest := []) h (((ok_check (l := l) (g := g) N dp_check).2.1) v10 1 α8) S hlocks hno E hI kw_Mod_479 ⟨Nat.le_of_ble_eq_true rfl, Nat.le_of_ble_eq_true rfl⟩ (mv_Mod E hI) rfl hl.1 rfl (Nat.le_of_ble_eq_true rfl) d_Mod_evaluated_25 (fun v13 α11 H locs e12 h hI => ?_)
  refine lv_pop hx hb d_Mod_evaluated_28 rfl ?_
  refine lv_aload_n hx hb d_Mod_evaluated_29 rfl (lv_at hl 1 rfl) ?_
  refine lv_iload_n hx hb d_Mod_evaluated_30 rfl (lv_at hl 0 rfl) ?_
  refine lv_iconst (v := 1) hx hb d_Mod_evaluated_31 (by decide) ?_
  refine mg_cI (As := [.int v10, .int 1]) (rest := []) h (((ok_normal (l := l) (g := g) N dp_normal)) v10 1 α11) S hlocks hno E hI kw_Mod_491 ⟨Nat.le_of_ble_eq_true rfl, Nat.le_of_ble_eq_true rfl⟩ (mv_Mod E hI) rfl hl.1 rfl (Nat.le_of_ble_eq_true rfl) d_Mod_evaluated_32 (fun v16 α14 H locs e15 h hI => ?_)
  refine lv_istore_n (lv' := [(2, .int v16), (1, .int v10), (0, .ref (mad g 0))]) hx hb d_Mod_evaluated_35 rfl hl (by decide) rfl (fun ls hl => ?_)
  refine lv_aload_n hx hb d_Mod_evaluated_36 rfl (lv_at hl 2 rfl) ?_
  refine lv_iconst (v := 0) hx hb d_Mod_evaluated_37 (by decide) ?_
  refine mp_outSize S E hI vt_1269 d_Mod_evaluated_38 (fun H locs hI => ?_)
  refine lv_aload_n hx hb d_Mod_evaluated_41 rfl (lv_at hl 2 rfl) ?_
  refine lv_iload_n hx hb d_Mod_evaluated_42 rfl (lv_at hl 0 rfl) ?_
  refine lv_iconst (v := 0) hx hb d_Mod_evaluated_43 (by decide) ?_
  refine mg_cV (As := [.int v16, .int 0]) (rest := []) h (((ok_sayBinder (l := l) (g := g) N dp_sayBinder).2.2) v16 0 (mSi α14 1 0)) S hlocks hno E hI kw_Mod_531 ⟨Nat.le_of_ble_eq_true rfl, Nat.le_of_ble_eq_true rfl⟩ (mv_Mod E hI) rfl hl.1 rfl (Nat.le_of_ble_eq_true rfl) d_Mod_evaluated_44 (fun α17 H locs e18 h hI => ?_)
  exact mc_vret hx hb hr hlocks E hI h d_Mod_evaluated_47
theorem kw_Mod_510 : kWv "FamilyKernelModel" 510 "FamilyKernelModel" y_Mod_evaluated b_Mod_evaluated 3 none 0 := ⟨vt_1399, vt_1400, vt_1401, vt_1349, vt_1402, by decide, by decide, by decide +kernel⟩
theorem kw_Mod_507 : kWv "FamilyKernelModel" 507 "FamilyKernelModel" y_Mod_checked b_Mod_checked 3 none 0 := ⟨vt_1395, vt_1396, vt_1397, vt_1349, vt_1398, by decide, by decide, by decide +kernel⟩
theorem kw_Mod_505 : kWv "FamilyKernelModel" 505 "FamilyKernelModel" y_Mod_inductive b_Mod_inductive 11 none 0 := ⟨vt_1391, vt_1392, vt_1393, vt_1349, vt_1394, by decide, by decide, by decide +kernel⟩
theorem kw_Mod_502 : kWv "FamilyKernelModel" 502 "FamilyKernelModel" y_Mod_stated b_Mod_stated 5 none 1 := ⟨vt_1387, vt_1388, vt_1389, vt_1349, vt_1390, by decide, by decide, by decide +kernel⟩
def f_Mod_declaration (N : Nat)  (α : mS) : Option (kO × mS) := mBi (f_Mod_is N 27 (mSi (mSi (mSi (mSi (mSi (mSi (mSi (mSi α 22 0) 23 0) 24 0) 19 0) 20 0) 21 0) 10 32000) 28 (α.1 16))) fun v3 α1 => (if v3 = 0 then (mBi (f_Mod_is N 28 α1) fun v7 α5 => (if v7 = 0 then (mBi (f_Mod_is N 29 α5) fun v11 α9 => (if v11 = 0 then (mBi (f_Mod_is N 30 α9) fun v15 α13 => (if v15 = 0 then (mBi (f_Mod_is N 31 α13) fun v19 α17 => (if v19 = 0 then (mBi (f_Mod_is N 32 α17) fun v23 α21 => (if v23 = 0 then (((f_Mod_cant N α21)).bind fun α25 => (some (none, (mTh α25 (α25.1 100) (α25.1 101))))) else (mBv (f_Mod_evaluated N α21) fun α27 => (some (some none, α27))))) else (mBv (f_Mod_checked N α17) fun α29 => (some (some none, α29))))) else (mBv (f_Mod_inductive N α13) fun α31 => (some (some none, α31))))) else (mBv (f_Mod_stated N 2 α9) fun α33 => (some (some none, α33))))) else (mBv (f_Mod_stated N 1 α5) fun α35 => (some (some none, α35))))) else (mBv (f_Mod_stated N 0 α1) fun α37 => (some (some none, α37))))
set_option maxHeartbeats 4000000 in
set_option maxRecDepth 100000 in
theorem k_Mod_declaration {l : Launch} {g : mG} {α : mS} (N : Nat)   : ∀ x, f_Mod_declaration N α = some x → mC l g y_Mod_declaration b_Mod_declaration 1 none (1795) (50663) [.ref (mad g 0)] α (mQr x) := by
  intro x h
  unfold f_Mod_declaration at h
  refine mc_ofW (by decide) (fun A p e s m args below meth c S hr hlocks hno hargs E hI => ?_)
  have hx := S.1
  have hb := S.2.1
  have hown := S.2.2.2.1
  have hT := S.2.2.2.2
  subst hargs
  have hl := lv_entry ([.ref (mad g 0)]) (n := 1) (Nat.le_of_ble_eq_true rfl)
  rw [lg_entry_eq]
  generalize (lg_sl ([.ref (mad g 0)]) ++ List.replicate (1 - (lg_sl ([.ref (mad g 0)])).length) Slot.unset).toArray = ls at hl ⊢
  have hl : lv_has ls 1 [(0, .ref (mad g 0))] := hl
  refine lv_aload_n hx hb d_Mod_declaration_0 rfl (lv_at hl 0 rfl) ?_
  refine lv_iconst (v := 0) hx hb d_Mod_declaration_1 (by decide) ?_
  refine mp_work S E hI vt_1322 d_Mod_declaration_2 (fun H locs hI => ?_)
  refine lv_aload_n hx hb d_Mod_declaration_5 rfl (lv_at hl 0 rfl) ?_
  refine lv_iconst (v := 0) hx hb d_Mod_declaration_6 (by decide) ?_
  refine mp_variables S E hI vt_1323 d_Mod_declaration_7 (fun H locs hI => ?_)
  refine lv_aload_n hx hb d_Mod_declaration_10 rfl (lv_at hl 0 rfl) ?_
  refine lv_iconst (v := 0) hx hb d_Mod_declaration_11 (by decide) ?_
  refine mp_majors S E hI vt_1326 d_Mod_declaration_12 (fun H locs hI => ?_)
  refine lv_aload_n hx hb d_Mod_declaration_15 rfl (lv_at hl 0 rfl) ?_
  refine lv_iconst (v := 0) hx hb d_Mod_declaration_16 (by decide) ?_
  refine mp_scopes S E hI vt_1314 d_Mod_declaration_17 (fun H locs hI => ?_)
  refine lv_aload_n hx hb d_Mod_declaration_20 rfl (lv_at hl 0 rfl) ?_
  refine lv_iconst (v := 0) hx hb d_Mod_declaration_21 (by decide) ?_
  refine mp_pendingHeld S E hI vt_1320 d_Mod_declaration_22 (fun H locs hI => ?_)
  refine lv_aload_n hx hb d_Mod_declaration_25 rfl (lv_at hl 0 rfl) ?_
  refine lv_iconst (v := 0) hx hb d_Mod_declaration_26 (by decide) ?_
  refine mp_copies S E hI vt_1321 d_Mod_declaration_27 (fun H locs hI => ?_)
  refine lv_aload_n hx hb d_Mod_declaration_30 rfl (lv_at hl 0 rfl) ?_
  refine lv_sipush (v := 32000) hx hb d_Mod_declaration_31 (by decide) ?_
  refine mp_top S E hI vt_1285 d_Mod_declaration_34 (fun H locs hI => ?_)
  refine lv_aload_n hx hb d_Mod_declaration_37 rfl (lv_at hl 0 rfl) ?_
  refine lv_aload_n hx hb d_Mod_declaration_38 rfl (lv_at hl 0 rfl) ?_
  refine mf_constants S E hI vt_1295 d_Mod_declaration_39 ?_
  refine mp_known S E hI vt_1330 d_Mod_declaration_42 (fun H locs hI => ?_)
  refine lv_aload_n hx hb d_Mod_declaration_45 rfl (lv_at hl 0 rfl) ?_
  refine mg_ldcw hx hb hown (E.2.2.2.2.1 27 (by decide)) d_Mod_declaration_46 ?_
  refine mg_cI (As := [.ref (kst g.1 27)]) (rest := []) h (k_Mod_is (l := l) (g := g) (α := (mSi (mSi (mSi (mSi (mSi (mSi (mSi (mSi α 22 0) 23 0) 24 0) 19 0) 20 0) 21 0) 10 32000) 28 (α.1 16))) N 27 (by decide)) S hlocks hno E hI kw_Mod_293 ⟨Nat.le_of_ble_eq_true rfl, Nat.le_of_ble_eq_true rfl⟩ (mv_Mod E hI) rfl hl.1 rfl (Nat.le_of_ble_eq_true rfl) d_Mod_declaration_49 (fun v3 α1 H locs e2 h hI => ?_)
  refine lv_if_eq (tgt := 63) hx hb d_Mod_declaration_52 (by decide) (fun c4 => ?_) (fun c4 => ?_)
  · replace h := Eq.trans (if_pos c4).symm h
    refine lv_aload_n hx hb d_Mod_declaration_63 rfl (lv_at hl 0 rfl) ?_
    refine mg_ldcw hx hb hown (E.2.2.2.2.1 28 (by decide)) d_Mod_declaration_64 ?_
    refine mg_cI (As := [.ref (kst g.1 28)]) (rest := []) h (k_Mod_is (l := l) (g := g) (α := α1) N 28 (by decide)) S hlocks hno E hI kw_Mod_293 ⟨Nat.le_of_ble_eq_true rfl, Nat.le_of_ble_eq_true rfl⟩ (mv_Mod E hI) rfl hl.1 rfl (Nat.le_of_ble_eq_true rfl) d_Mod_declaration_67 (fun v7 α5 H locs e6 h hI => ?_)
    refine lv_if_eq (tgt := 81) hx hb d_Mod_declaration_70 (by decide) (fun c8 => ?_) (fun c8 => ?_)
    · replace h := Eq.trans (if_pos c8).symm h
      refine lv_aload_n hx hb d_Mod_declaration_81 rfl (lv_at hl 0 rfl) ?_
      refine mg_ldcw hx hb hown (E.2.2.2.2.1 29 (by decide)) d_Mod_declaration_82 ?_
      refine mg_cI (As := [.ref (kst g.1 29)]) (rest := []) h (k_Mod_is (l := l) (g := g) (α := α5) N 29 (by decide)) S hlocks hno E hI kw_Mod_293 ⟨Nat.le_of_ble_eq_true rfl, Nat.le_of_ble_eq_true rfl⟩ (mv_Mod E hI) rfl hl.1 rfl (Nat.le_of_ble_eq_true rfl) d_Mod_declaration_85 (fun v11 α9 H locs e10 h hI => ?_)
      refine lv_if_eq (tgt := 99) hx hb d_Mod_declaration_88 (by decide) (fun c12 => ?_) (fun c12 => ?_)
      · replace h := Eq.trans (if_pos c12).symm h
        refine lv_aload_n hx hb d_Mod_declaration_99 rfl (lv_at hl 0 rfl) ?_
        refine mg_ldcw hx hb hown (E.2.2.2.2.1 30 (by decide)) d_Mod_declaration_100 ?_
        refine mg_cI (As := [.ref (kst g.1 30)]) (rest := []) h (k_Mod_is (l := l) (g := g) (α := α9) N 30 (by decide)) S hlocks hno E hI kw_Mod_293 ⟨Nat.le_of_ble_eq_true rfl, Nat.le_of_ble_eq_true rfl⟩ (mv_Mod E hI) rfl hl.1 rfl (Nat.le_of_ble_eq_true rfl) d_Mod_declaration_103 (fun v15 α13 H locs e14 h hI => ?_)
        refine lv_if_eq (tgt := 116) hx hb d_Mod_declaration_106 (by decide) (fun c16 => ?_) (fun c16 => ?_)
        · replace h := Eq.trans (if_pos c16).symm h
          refine lv_aload_n hx hb d_Mod_declaration_116 rfl (lv_at hl 0 rfl) ?_
          refine mg_ldcw hx hb hown (E.2.2.2.2.1 31 (by decide)) d_Mod_declaration_117 ?_
          refine mg_cI (As := [.ref (kst g.1 31)]) (rest := []) h (k_Mod_is (l := l) (g := g) (α := α13) N 31 (by decide)) S hlocks hno E hI kw_Mod_293 ⟨Nat.le_of_ble_eq_true rfl, Nat.le_of_ble_eq_true rfl⟩ (mv_Mod E hI) rfl hl.1 rfl (Nat.le_of_ble_eq_true rfl) d_Mod_declaration_120 (fun v19 α17 H locs e18 h hI => ?_)
          refine lv_if_eq (tgt := 133) hx hb d_Mod_declaration_123 (by decide) (fun c20 => ?_) (fun c20 => ?_)
          · replace h := Eq.trans (if_pos c20).symm h
            refine lv_aload_n hx hb d_Mod_declaration_133 rfl (lv_at hl 0 rfl) ?_
            refine mg_ldcw hx hb hown (E.2.2.2.2.1 32 (by decide)) d_Mod_declaration_134 ?_
            refine mg_cI (As := [.ref (kst g.1 32)]) (rest := []) h (k_Mod_is (l := l) (g := g) (α := α17) N 32 (by decide)) S hlocks hno E hI kw_Mod_293 ⟨Nat.le_of_ble_eq_true rfl, Nat.le_of_ble_eq_true rfl⟩ (mv_Mod E hI) rfl hl.1 rfl (Nat.le_of_ble_eq_true rfl) d_Mod_declaration_137 (fun v23 α21 H locs e22 h hI => ?_)
            refine lv_if_eq (tgt := 150) hx hb d_Mod_declaration_140 (by decide) (fun c24 => ?_) (fun c24 => ?_)
            · replace h := Eq.trans (if_pos c24).symm h
              refine lv_aload_n hx hb d_Mod_declaration_150 rfl (lv_at hl 0 rfl) ?_
              obtain ⟨α25, e26, h⟩ := Option.bind_eq_some_iff.mp h
              refine mg_cant (As := []) (rest := []) ((k_Mod_cant (l := l) (g := g) (α := α21) N) _ e26) S hlocks hno E hI kw_Mod_277 ⟨Nat.le_of_ble_eq_true rfl, Nat.le_of_ble_eq_true rfl⟩ (mv_Mod E hI) rfl hl.1 rfl (Nat.le_of_ble_eq_true rfl) d_Mod_declaration_151 (fun q H locs hN => ?_)
              exact mg_athrow S hlocks hno E hN h d_Mod_declaration_154
            · replace h := Eq.trans (if_neg c24).symm h
              refine lv_aload_n hx hb d_Mod_declaration_143 rfl (lv_at hl 0 rfl) ?_
              refine mg_cV (As := []) (rest := []) h (k_Mod_evaluated (l := l) (g := g) (α := α21) N) S hlocks hno E hI kw_Mod_510 ⟨Nat.le_of_ble_eq_true rfl, Nat.le_of_ble_eq_true rfl⟩ (mv_Mod E hI) rfl hl.1 rfl (Nat.le_of_ble_eq_true rfl) d_Mod_declaration_144 (fun α27 H locs e28 h hI => ?_)
              refine lv_goto (tgt := 155) hx hb d_Mod_declaration_147 (by decide) ?_
              exact mc_vret hx hb hr hlocks E hI h d_Mod_declaration_155
          · replace h := Eq.trans (if_neg c20).symm h
            refine lv_aload_n hx hb d_Mod_declaration_126 rfl (lv_at hl 0 rfl) ?_
            refine mg_cV (As := []) (rest := []) h (k_Mod_checked (l := l) (g := g) (α := α17) N) S hlocks hno E hI kw_Mod_507 ⟨Nat.le_of_ble_eq_true rfl, Nat.le_of_ble_eq_true rfl⟩ (mv_Mod E hI) rfl hl.1 rfl (Nat.le_of_ble_eq_true rfl) d_Mod_declaration_127 (fun α29 H locs e30 h hI => ?_)
            refine lv_goto (tgt := 155) hx hb d_Mod_declaration_130 (by decide) ?_
            exact mc_vret hx hb hr hlocks E hI h d_Mod_declaration_155
        · replace h := Eq.trans (if_neg c16).symm h
          refine lv_aload_n hx hb d_Mod_declaration_109 rfl (lv_at hl 0 rfl) ?_
          refine mg_cV (As := []) (rest := []) h (k_Mod_inductive (l := l) (g := g) (α := α13) N) S hlocks hno E hI kw_Mod_505 ⟨Nat.le_of_ble_eq_true rfl, Nat.le_of_ble_eq_true rfl⟩ (mv_Mod E hI) rfl hl.1 rfl (Nat.le_of_ble_eq_true rfl) d_Mod_declaration_110 (fun α31 H locs e32 h hI => ?_)
          refine lv_goto (tgt := 155) hx hb d_Mod_declaration_113 (by decide) ?_
          exact mc_vret hx hb hr hlocks E hI h d_Mod_declaration_155
      · replace h := Eq.trans (if_neg c12).symm h
        refine lv_aload_n hx hb d_Mod_declaration_91 rfl (lv_at hl 0 rfl) ?_
        refine lv_iconst (v := 2) hx hb d_Mod_declaration_92 (by decide) ?_
        refine mg_cV (As := [.int 2]) (rest := []) h (k_Mod_stated (l := l) (g := g) (α := α9) N 2) S hlocks hno E hI kw_Mod_502 ⟨Nat.le_of_ble_eq_true rfl, Nat.le_of_ble_eq_true rfl⟩ (mv_Mod E hI) rfl hl.1 rfl (Nat.le_of_ble_eq_true rfl) d_Mod_declaration_93 (fun α33 H locs e34 h hI => ?_)
        refine lv_goto (tgt := 155) hx hb d_Mod_declaration_96 (by decide) ?_
        exact mc_vret hx hb hr hlocks E hI h d_Mod_declaration_155
    · replace h := Eq.trans (if_neg c8).symm h
      refine lv_aload_n hx hb d_Mod_declaration_73 rfl (lv_at hl 0 rfl) ?_
      refine lv_iconst (v := 1) hx hb d_Mod_declaration_74 (by decide) ?_
      refine mg_cV (As := [.int 1]) (rest := []) h (k_Mod_stated (l := l) (g := g) (α := α5) N 1) S hlocks hno E hI kw_Mod_502 ⟨Nat.le_of_ble_eq_true rfl, Nat.le_of_ble_eq_true rfl⟩ (mv_Mod E hI) rfl hl.1 rfl (Nat.le_of_ble_eq_true rfl) d_Mod_declaration_75 (fun α35 H locs e36 h hI => ?_)
      refine lv_goto (tgt := 155) hx hb d_Mod_declaration_78 (by decide) ?_
      exact mc_vret hx hb hr hlocks E hI h d_Mod_declaration_155
  · replace h := Eq.trans (if_neg c4).symm h
    refine lv_aload_n hx hb d_Mod_declaration_55 rfl (lv_at hl 0 rfl) ?_
    refine lv_iconst (v := 0) hx hb d_Mod_declaration_56 (by decide) ?_
    refine mg_cV (As := [.int 0]) (rest := []) h (k_Mod_stated (l := l) (g := g) (α := α1) N 0) S hlocks hno E hI kw_Mod_502 ⟨Nat.le_of_ble_eq_true rfl, Nat.le_of_ble_eq_true rfl⟩ (mv_Mod E hI) rfl hl.1 rfl (Nat.le_of_ble_eq_true rfl) d_Mod_declaration_57 (fun α37 H locs e38 h hI => ?_)
    refine lv_goto (tgt := 155) hx hb d_Mod_declaration_60 (by decide) ?_
    exact mc_vret hx hb hr hlocks E hI h d_Mod_declaration_155
def f_Mod_end_j24  (y1 : Int32) (t0 : Int32) (t1 : Int32) (γ : mS) : Int32 × mS := if (f_Mod_refuse t1 t0 γ).1 = 0 then ((y1, (mSi (f_Mod_refuse t1 t0 γ).2 0 y1))) else ((0, (f_Mod_refuse t1 t0 γ).2))
def f_Mod_end_j19  (y1 : Int32) (t0 : Int32) (γ : mS) : Int32 × mS := f_Mod_end_j24 y1 1 t0 γ
def f_Mod_end (a1 : Int32) (α : mS) : Int32 × mS := if a1 < 0 then (f_Mod_end_j19 a1 1 (mSi α 2 0)) else (if a1 ≤ (α.1 0) then (f_Mod_end_j24 a1 0 1 (mSi α 2 0)) else (f_Mod_end_j19 a1 1 (mSi α 2 0)))
set_option maxHeartbeats 4000000 in
set_option maxRecDepth 100000 in
theorem k_Mod_end {l : Launch} {g : mG} {α : mS} (a1 : Int32)  : mC l g y_Mod_end b_Mod_end 2 (some .int) (2) (23) [.ref (mad g 0), .int a1] α (mQr (some (some (f_Mod_end a1 α).1), (f_Mod_end a1 α).2)) := by
  generalize h : f_Mod_end a1 α = x
  unfold f_Mod_end at h
  refine mc_ofW (by decide) (fun A p e s m args below meth c S hr hlocks hno hargs E hI => ?_)
  have hx := S.1
  have hb := S.2.1
  have hown := S.2.2.2.1
  have hT := S.2.2.2.2
  subst hargs
  have hl := lv_entry ([.ref (mad g 0), .int a1]) (n := 2) (Nat.le_of_ble_eq_true rfl)
  rw [lg_entry_eq]
  generalize (lg_sl ([.ref (mad g 0), .int a1]) ++ List.replicate (2 - (lg_sl ([.ref (mad g 0), .int a1])).length) Slot.unset).toArray = ls at hl ⊢
  have hl : lv_has ls 2 [(0, .ref (mad g 0)), (1, .int a1)] := hl
  have J24 : ∀ (y1 : Int32) (t0 : Int32) (t1 : Int32) (γ : mS) (H : Heap) (locs : List Loc) (ls : Array Slot), f_Mod_end_j24 y1 t0 t1 γ = x → mI g A s γ H locs → lv_has ls 2 [(0, .ref (mad g 0)), (1, .int y1)] → W p l e (mR (2) (23)) s m ([.ref (mad g 0), .int a1]).toArray below meth c H locs 0 0 (vEQ below (mQ g A (mQr (some (some x.1), x.2))) ([.ref (mad g 0), .int a1]).toArray s A) (F0 m 24 ls [.int t0, .int t1, .ref (mad g 0)]) := by
    intro y1 t0 t1 γ H locs ls h hI hl
    unfold f_Mod_end_j24 at h
    refine mg_tI (As := [.int t1, .int t0]) (rest := []) (k_Mod_refuse (l := l) (g := g) (α := γ) t1 t0) S hlocks hno E hI kw_Mod_251 ⟨Nat.le_of_ble_eq_true rfl, Nat.le_of_ble_eq_true rfl⟩ (mv_Mod E hI) rfl hl.1 rfl (Nat.le_of_ble_eq_true rfl) d_Mod_end_24 (fun H locs hI => ?_)
    refine lv_if_eq (tgt := 32) hx hb d_Mod_end_27 (by decide) (fun c2 => ?_) (fun c2 => ?_)
    · replace h := Eq.trans (if_pos c2).symm h
      refine lv_aload_n hx hb d_Mod_end_32 rfl (lv_at hl 0 rfl) ?_
      refine lv_iload_n hx hb d_Mod_end_33 rfl (lv_at hl 1 rfl) ?_
      refine mp_size S E hI vt_1268 d_Mod_end_34 (fun H locs hI => ?_)
      refine lv_iload_n hx hb d_Mod_end_37 rfl (lv_at hl 1 rfl) ?_
      exact mc_iret (w := y1) hx hb hr rfl hlocks E hI (by rw [← h]) d_Mod_end_38
    · replace h := Eq.trans (if_neg c2).symm h
      refine lv_iconst (v := 0) hx hb d_Mod_end_30 (by decide) ?_
      exact mc_iret (w := 0) hx hb hr rfl hlocks E hI (by rw [← h]) d_Mod_end_31
  have J19 : ∀ (y1 : Int32) (t0 : Int32) (γ : mS) (H : Heap) (locs : List Loc) (ls : Array Slot), f_Mod_end_j19 y1 t0 γ = x → mI g A s γ H locs → lv_has ls 2 [(0, .ref (mad g 0)), (1, .int y1)] → W p l e (mR (2) (23)) s m ([.ref (mad g 0), .int a1]).toArray below meth c H locs 0 0 (vEQ below (mQ g A (mQr (some (some x.1), x.2))) ([.ref (mad g 0), .int a1]).toArray s A) (F0 m 19 ls [.int t0, .ref (mad g 0)]) := by
    intro y1 t0 γ H locs ls h hI hl
    unfold f_Mod_end_j19 at h
    refine lv_iconst (v := 1) hx hb d_Mod_end_19 (by decide) ?_
    refine lv_goto (tgt := 24) hx hb d_Mod_end_20 (by decide) ?_
    exact J24 y1 1 t0 _ _ _ _ h hI (lv_sub hl [0, 1] rfl)
  refine lv_aload_n hx hb d_Mod_end_0 rfl (lv_at hl 0 rfl) ?_
  refine lv_iconst (v := 0) hx hb d_Mod_end_1 (by decide) ?_
  refine mp_thrown S E hI vt_1270 d_Mod_end_2 (fun H locs hI => ?_)
  refine lv_aload_n hx hb d_Mod_end_5 rfl (lv_at hl 0 rfl) ?_
  refine lv_iconst (v := 1) hx hb d_Mod_end_6 (by decide) ?_
  refine lv_iload_n hx hb d_Mod_end_7 rfl (lv_at hl 1 rfl) ?_
  refine lv_if_lt (tgt := 19) hx hb d_Mod_end_8 (by decide) (fun c1 => ?_) (fun c1 => ?_)
  · replace h := Eq.trans (if_pos c1).symm h
    exact J19 a1 1 _ _ _ _ h hI (lv_sub hl [0, 1] rfl)
  · replace h := Eq.trans (if_neg c1).symm h
    refine lv_iload_n hx hb d_Mod_end_11 rfl (lv_at hl 1 rfl) ?_
    refine lv_aload_n hx hb d_Mod_end_12 rfl (lv_at hl 0 rfl) ?_
    refine mf_size S E hI vt_1268 d_Mod_end_13 ?_
    refine lv_icmp_le (tgt := 23) hx hb d_Mod_end_16 (by decide) (fun c3 => ?_) (fun c3 => ?_)
    · replace h := Eq.trans (if_pos c3).symm h
      refine lv_iconst (v := 0) hx hb d_Mod_end_23 (by decide) ?_
      exact J24 a1 0 1 _ _ _ _ h hI (lv_sub hl [0, 1] rfl)
    · replace h := Eq.trans (if_neg c3).symm h
      exact J19 a1 1 _ _ _ _ h hI (lv_sub hl [0, 1] rfl)
def f_Mod_fault (a1 : Int32) (α : mS) : Int32 × mS := if a1 = 0 then (((α.1 3), (mSi α 2 0))) else (if a1 = 1 then (((α.1 4), (mSi α 2 0))) else (((-1), (mSi α 2 0))))
set_option maxHeartbeats 4000000 in
set_option maxRecDepth 100000 in
theorem k_Mod_fault {l : Launch} {g : mG} {α : mS} (a1 : Int32)  : mC l g y_Mod_fault b_Mod_fault 2 (some .int) (1) (1) [.ref (mad g 0), .int a1] α (mQr (some (some (f_Mod_fault a1 α).1), (f_Mod_fault a1 α).2)) := by
  generalize h : f_Mod_fault a1 α = x
  unfold f_Mod_fault at h
  refine mc_ofW (by decide) (fun A p e s m args below meth c S hr hlocks hno hargs E hI => ?_)
  have hx := S.1
  have hb := S.2.1
  have hown := S.2.2.2.1
  have hT := S.2.2.2.2
  subst hargs
  have hl := lv_entry ([.ref (mad g 0), .int a1]) (n := 2) (Nat.le_of_ble_eq_true rfl)
  rw [lg_entry_eq]
  generalize (lg_sl ([.ref (mad g 0), .int a1]) ++ List.replicate (2 - (lg_sl ([.ref (mad g 0), .int a1])).length) Slot.unset).toArray = ls at hl ⊢
  have hl : lv_has ls 2 [(0, .ref (mad g 0)), (1, .int a1)] := hl
  refine lv_aload_n hx hb d_Mod_fault_0 rfl (lv_at hl 0 rfl) ?_
  refine lv_iconst (v := 0) hx hb d_Mod_fault_1 (by decide) ?_
  refine mp_thrown S E hI vt_1270 d_Mod_fault_2 (fun H locs hI => ?_)
  refine lv_iload_n hx hb d_Mod_fault_5 rfl (lv_at hl 1 rfl) ?_
  refine lv_if_ne (tgt := 16) hx hb d_Mod_fault_6 (by decide) (fun c1 => ?_) (fun c1 => ?_)
  · replace h := Eq.trans (if_neg c1).symm h
    refine lv_iload_n hx hb d_Mod_fault_16 rfl (lv_at hl 1 rfl) ?_
    refine lv_iconst (v := 1) hx hb d_Mod_fault_17 (by decide) ?_
    refine lv_icmp_ne (tgt := 28) hx hb d_Mod_fault_18 (by decide) (fun c2 => ?_) (fun c2 => ?_)
    · replace h := Eq.trans (if_neg c2).symm h
      refine lv_iconst (v := (-1)) hx hb d_Mod_fault_28 (by decide) ?_
      exact mc_iret (w := (-1)) hx hb hr rfl hlocks E hI (by rw [← h]) d_Mod_fault_29
    · replace h := Eq.trans (if_pos c2).symm h
      refine lv_aload_n hx hb d_Mod_fault_21 rfl (lv_at hl 0 rfl) ?_
      refine mf_faultPlace S E hI vt_1272 d_Mod_fault_22 ?_
      refine lv_goto (tgt := 29) hx hb d_Mod_fault_25 (by decide) ?_
      exact mc_iret (w := (α.1 4)) hx hb hr rfl hlocks E hI (by rw [← h]) d_Mod_fault_29
  · replace h := Eq.trans (if_pos c1).symm h
    refine lv_aload_n hx hb d_Mod_fault_9 rfl (lv_at hl 0 rfl) ?_
    refine mf_faultKind S E hI vt_1271 d_Mod_fault_10 ?_
    refine lv_goto (tgt := 29) hx hb d_Mod_fault_13 (by decide) ?_
    exact mc_iret (w := (α.1 3)) hx hb hr rfl hlocks E hI (by rw [← h]) d_Mod_fault_29
def f_Mod_feed_j85 (N : Nat)  (k32 : Int32 → Int32 → Int32 → Int32 → Int32 → Int32 → mS → Option (kO × mS)) (y6 : Int32) (y1 : Int32) (y2 : Int32) (y3 : Int32) (y4 : Int32) (y5 : Int32) (t0 : Int32) (γ : mS) : Option (kO × mS) := if (γ.1 0) < 0 ∨ 65536 ≤ ((γ.1 0) : Int32).toNatClampNeg then none else (k32 (y6 + 1) y1 y2 y3 y4 y5 (mSA (mSi γ 0 ((γ.1 0) + 1)) 0 (upd ((mSi γ 0 ((γ.1 0) + 1)).2 0) ((γ.1 0) : Int32).toNatClampNeg (vp_nar .byte ((((t0).toUInt32 >>> (((24 - (8 * (y6 - y6 / 4 * 4))) : Int32).toUInt32 &&& Int32.toUInt32 31)).toInt32)).toInt8.toInt32))))
def f_Mod_feed_32 (N : Nat)  : Nat → Int32 → Int32 → Int32 → Int32 → Int32 → Int32 → mS → Option (kO × mS)
  | 0, _, _, _, _, _, _, _ => none
  | n + 1, x6_32, x1_32, x2_32, x3_32, x4_32, x5_32, β32 => if 20 ≤ x6_32 then (some (some (some (β32.1 0)), β32)) else (if 4 ≤ x6_32 then (if 8 ≤ x6_32 then (if 12 ≤ x6_32 then (if 16 ≤ x6_32 then (f_Mod_feed_j85 N (f_Mod_feed_32 N n) x6_32 x1_32 x2_32 x3_32 x4_32 x5_32 x5_32 β32) else (f_Mod_feed_j85 N (f_Mod_feed_32 N n) x6_32 x1_32 x2_32 x3_32 x4_32 x5_32 x4_32 β32)) else (f_Mod_feed_j85 N (f_Mod_feed_32 N n) x6_32 x1_32 x2_32 x3_32 x4_32 x5_32 x3_32 β32)) else (f_Mod_feed_j85 N (f_Mod_feed_32 N n) x6_32 x1_32 x2_32 x3_32 x4_32 x5_32 x2_32 β32)) else (f_Mod_feed_j85 N (f_Mod_feed_32 N n) x6_32 x1_32 x2_32 x3_32 x4_32 x5_32 x1_32 β32))
def f_Mod_feed_j21 (N : Nat)  (y1 : Int32) (y2 : Int32) (y3 : Int32) (y4 : Int32) (y5 : Int32) (t0 : Int32) (t1 : Int32) (γ : mS) : Option (kO × mS) := if (f_Mod_refuse t1 t0 γ).1 = 0 then (f_Mod_feed_32 N N 0 y1 y2 y3 y4 y5 (f_Mod_refuse t1 t0 γ).2) else (some (some (some 0), (f_Mod_refuse t1 t0 γ).2))
def f_Mod_feed (N : Nat) (a1 : Int32) (a2 : Int32) (a3 : Int32) (a4 : Int32) (a5 : Int32) (α : mS) : Option (kO × mS) := if (α.1 0) ≤ 65516 then (f_Mod_feed_j21 N a1 a2 a3 a4 a5 0 1 (mSi α 2 0)) else (f_Mod_feed_j21 N a1 a2 a3 a4 a5 1 1 (mSi α 2 0))
set_option maxHeartbeats 4000000 in
set_option maxRecDepth 100000 in
theorem k_Mod_feed {l : Launch} {g : mG} {α : mS} (N : Nat) (a1 : Int32) (a2 : Int32) (a3 : Int32) (a4 : Int32) (a5 : Int32)  : ∀ x, f_Mod_feed N a1 a2 a3 a4 a5 α = some x → mC l g y_Mod_feed b_Mod_feed 8 (some .int) (2) (23) [.ref (mad g 0), .int a1, .int a2, .int a3, .int a4, .int a5] α (mQr x) := by
  intro x h
  unfold f_Mod_feed at h
  refine mc_ofW (by decide) (fun A p e s m args below meth c S hr hlocks hno hargs E hI => ?_)
  have hx := S.1
  have hb := S.2.1
  have hown := S.2.2.2.1
  have hT := S.2.2.2.2
  subst hargs
  have hl := lv_entry ([.ref (mad g 0), .int a1, .int a2, .int a3, .int a4, .int a5]) (n := 8) (Nat.le_of_ble_eq_true rfl)
  rw [lg_entry_eq]
  generalize (lg_sl ([.ref (mad g 0), .int a1, .int a2, .int a3, .int a4, .int a5]) ++ List.replicate (8 - (lg_sl ([.ref (mad g 0), .int a1, .int a2, .int a3, .int a4, .int a5])).length) Slot.unset).toArray = ls at hl ⊢
  have hl : lv_has ls 8 [(0, .ref (mad g 0)), (1, .int a1), (2, .int a2), (3, .int a3), (4, .int a4), (5, .int a5)] := hl
  have J21 : ∀ (y1 : Int32) (y2 : Int32) (y3 : Int32) (y4 : Int32) (y5 : Int32) (t0 : Int32) (t1 : Int32) (γ : mS) (H : Heap) (locs : List Loc) (ls : Array Slot), f_Mod_feed_j21 N y1 y2 y3 y4 y5 t0 t1 γ = some x → mI g A s γ H locs → lv_has ls 8 [(0, .ref (mad g 0)), (1, .int y1), (2, .int y2), (3, .int y3), (4, .int y4), (5, .int y5)] → W p l e (mR (2) (23)) s m ([.ref (mad g 0), .int a1, .int a2, .int a3, .int a4, .int a5]).toArray below meth c H locs 0 0 (vEQ below (mQ g A (mQr x)) ([.ref (mad g 0), .int a1, .int a2, .int a3, .int a4, .int a5]).toArray s A) (F0 m 21 ls [.int t0, .int t1, .ref (mad g 0)]) := by
    intro y1 y2 y3 y4 y5 t0 t1 γ H locs ls h hI hl
    unfold f_Mod_feed_j21 at h
    refine mg_tI (As := [.int t1, .int t0]) (rest := []) (k_Mod_refuse (l := l) (g := g) (α := γ) t1 t0) S hlocks hno E hI kw_Mod_251 ⟨Nat.le_of_ble_eq_true rfl, Nat.le_of_ble_eq_true rfl⟩ (mv_Mod E hI) rfl hl.1 rfl (Nat.le_of_ble_eq_true rfl) d_Mod_feed_21 (fun H locs hI => ?_)
    refine lv_if_eq (tgt := 29) hx hb d_Mod_feed_24 (by decide) (fun c2 => ?_) (fun c2 => ?_)
    · replace h := Eq.trans (if_pos c2).symm h
      refine lv_iconst (v := 0) hx hb d_Mod_feed_29 (by decide) ?_
      refine lv_istore (lv' := [(6, .int 0), (0, .ref (mad g 0)), (1, .int y1), (2, .int y2), (3, .int y3), (4, .int y4), (5, .int y5)]) hx hb d_Mod_feed_30 hl (by decide) rfl (fun ls hl => ?_)
      have L32 : ∀ (n32 : Nat) (x6_32 : Int32) (x1_32 : Int32) (x2_32 : Int32) (x3_32 : Int32) (x4_32 : Int32) (x5_32 : Int32) (β32 : mS) (H : Heap) (locs : List Loc) (ls : Array Slot), f_Mod_feed_32 N n32 x6_32 x1_32 x2_32 x3_32 x4_32 x5_32 β32 = some x → mI g A s β32 H locs → lv_has ls 8 [(6, .int x6_32), (0, .ref (mad g 0)), (1, .int x1_32), (2, .int x2_32), (3, .int x3_32), (4, .int x4_32), (5, .int x5_32)] → W p l e (mR (2) (23)) s m ([.ref (mad g 0), .int a1, .int a2, .int a3, .int a4, .int a5]).toArray below meth c H locs 0 0 (vEQ below (mQ g A (mQr x)) ([.ref (mad g 0), .int a1, .int a2, .int a3, .int a4, .int a5]).toArray s A) (F0 m 32 ls []) := by
        intro n32
        induction n32 with
        | zero => intro x6_32 x1_32 x2_32 x3_32 x4_32 x5_32 β32 H locs ls h hI hl; rw [f_Mod_feed_32] at h; cases h
        | succ n32 ih32 =>
          intro x6_32 x1_32 x2_32 x3_32 x4_32 x5_32 β32 H locs ls h hI hl
          rw [f_Mod_feed_32] at h
          have J85 : ∀ (y6 : Int32) (y1 : Int32) (y2 : Int32) (y3 : Int32) (y4 : Int32) (y5 : Int32) (t0 : Int32) (γ : mS) (H : Heap) (locs : List Loc) (ls : Array Slot), f_Mod_feed_j85 N (f_Mod_feed_32 N n32) y6 y1 y2 y3 y4 y5 t0 γ = some x → mI g A s γ H locs → lv_has ls 8 [(6, .int y6), (0, .ref (mad g 0)), (1, .int y1), (2, .int y2), (3, .int y3), (4, .int y4), (5, .int y5)] → W p l e (mR (2) (23)) s m ([.ref (mad g 0), .int a1, .int a2, .int a3, .int a4, .int a5]).toArray below meth c H locs 0 0 (vEQ below (mQ g A (mQr x)) ([.ref (mad g 0), .int a1, .int a2, .int a3, .int a4, .int a5]).toArray s A) (F0 m 85 ls [.int t0]) := by
            intro y6 y1 y2 y3 y4 y5 t0 γ H locs ls h hI hl
            unfold f_Mod_feed_j85 at h
            refine lv_istore (lv' := [(7, .int t0), (6, .int y6), (0, .ref (mad g 0)), (1, .int y1), (2, .int y2), (3, .int y3), (4, .int y4), (5, .int y5)]) hx hb d_Mod_feed_85 hl (by decide) rfl (fun ls hl => ?_)
            refine lv_aload_n hx hb d_Mod_feed_87 rfl (lv_at hl 2 rfl) ?_
            refine mf_tape S E hI vt_1266 d_Mod_feed_88 ?_
            refine lv_aload_n hx hb d_Mod_feed_91 rfl (lv_at hl 2 rfl) ?_
            refine lv_dup hx hb d_Mod_feed_92 rfl ?_
            refine mf_size S E hI vt_1268 d_Mod_feed_93 ?_
            refine lv_dup_x1 hx hb d_Mod_feed_96 rfl rfl ?_
            refine lv_iconst (v := 1) hx hb d_Mod_feed_97 (by decide) ?_
            refine lv_iadd hx hb d_Mod_feed_98 ?_
            refine mp_size S E hI vt_1268 d_Mod_feed_99 (fun H locs hI => ?_)
            refine lv_iload hx hb d_Mod_feed_102 (lv_at hl 0 rfl) ?_
            refine lv_bipush (v := 24) hx hb d_Mod_feed_104 (by decide) ?_
            refine lv_bipush (v := 8) hx hb d_Mod_feed_106 (by decide) ?_
            refine lv_iload hx hb d_Mod_feed_108 (lv_at hl 1 rfl) ?_
            refine lv_iconst (v := 4) hx hb d_Mod_feed_110 (by decide) ?_
            refine lv_irem hx hb d_Mod_feed_111 (by decide) ?_
            refine lv_imul hx hb d_Mod_feed_112 ?_
            refine lv_isub hx hb d_Mod_feed_113 ?_
            refine lv_iushr (v := (((t0).toUInt32 >>> (((24 - (8 * (y6 - y6 / 4 * 4))) : Int32).toUInt32 &&& Int32.toUInt32 31)).toInt32)) hx hb d_Mod_feed_114 rfl ?_
            refine lv_i2b (v := ((((t0).toUInt32 >>> (((24 - (8 * (y6 - y6 / 4 * 4))) : Int32).toUInt32 &&& Int32.toUInt32 31)).toInt32)).toInt8.toInt32) hx hb d_Mod_feed_115 rfl ?_
            by_cases c8 : (γ.1 0) < 0 ∨ 65536 ≤ ((γ.1 0) : Int32).toNatClampNeg
            · replace h := Eq.trans (if_pos c8).symm h
              cases h
            · replace h := Eq.trans (if_neg c8).symm h
              refine ms_tape S E hI c8 d_Mod_feed_116 (fun H locs hI => ?_)
              refine lv_iinc (v := (y6 + 1)) (lv' := [(6, .int (y6 + 1)), (7, .int t0), (0, .ref (mad g 0)), (1, .int y1), (2, .int y2), (3, .int y3), (4, .int y4), (5, .int y5)]) hx hb d_Mod_feed_117 hl (k := 1) rfl rfl (by decide) rfl (fun ls hl => ?_)
              refine lv_goto (tgt := 32) hx hb d_Mod_feed_120 (by decide) ?_
              exact ih32 (y6 + 1) y1 y2 y3 y4 y5 _ _ _ _ h hI (lv_sub hl [0, 2, 3, 4, 5, 6, 7] rfl)
          refine lv_iload hx hb d_Mod_feed_32 (lv_at hl 0 rfl) ?_
          refine lv_bipush (v := 20) hx hb d_Mod_feed_34 (by decide) ?_
          refine lv_icmp_ge (tgt := 123) hx hb d_Mod_feed_36 (by decide) (fun c3 => ?_) (fun c3 => ?_)
          · replace h := Eq.trans (if_pos c3).symm h
            refine lv_aload_n hx hb d_Mod_feed_123 rfl (lv_at hl 1 rfl) ?_
            refine mf_size S E hI vt_1268 d_Mod_feed_124 ?_
            exact mc_iret (w := (β32.1 0)) hx hb hr rfl hlocks E hI h d_Mod_feed_127
          · replace h := Eq.trans (if_neg c3).symm h
            refine lv_iload hx hb d_Mod_feed_39 (lv_at hl 0 rfl) ?_
            refine lv_iconst (v := 4) hx hb d_Mod_feed_41 (by decide) ?_
            refine lv_icmp_ge (tgt := 49) hx hb d_Mod_feed_42 (by decide) (fun c4 => ?_) (fun c4 => ?_)
            · replace h := Eq.trans (if_pos c4).symm h
              refine lv_iload hx hb d_Mod_feed_49 (lv_at hl 0 rfl) ?_
              refine lv_bipush (v := 8) hx hb d_Mod_feed_51 (by decide) ?_
              refine lv_icmp_ge (tgt := 60) hx hb d_Mod_feed_53 (by decide) (fun c5 => ?_) (fun c5 => ?_)
              · replace h := Eq.trans (if_pos c5).symm h
                refine lv_iload hx hb d_Mod_feed_60 (lv_at hl 0 rfl) ?_
                refine lv_bipush (v := 12) hx hb d_Mod_feed_62 (by decide) ?_
                refine lv_icmp_ge (tgt := 71) hx hb d_Mod_feed_64 (by decide) (fun c6 => ?_) (fun c6 => ?_)
                · replace h := Eq.trans (if_pos c6).symm h
                  refine lv_iload hx hb d_Mod_feed_71 (lv_at hl 0 rfl) ?_
                  refine lv_bipush (v := 16) hx hb d_Mod_feed_73 (by decide) ?_
                  refine lv_icmp_ge (tgt := 83) hx hb d_Mod_feed_75 (by decide) (fun c7 => ?_) (fun c7 => ?_)
                  · replace h := Eq.trans (if_pos c7).symm h
                    refine lv_iload hx hb d_Mod_feed_83 (lv_at hl 6 rfl) ?_
                    exact J85 x6_32 x1_32 x2_32 x3_32 x4_32 x5_32 x5_32 _ _ _ _ h hI (lv_sub hl [0, 1, 2, 3, 4, 5, 6] rfl)
                  · replace h := Eq.trans (if_neg c7).symm h
                    refine lv_iload hx hb d_Mod_feed_78 (lv_at hl 5 rfl) ?_
                    refine lv_goto (tgt := 85) hx hb d_Mod_feed_80 (by decide) ?_
                    exact J85 x6_32 x1_32 x2_32 x3_32 x4_32 x5_32 x4_32 _ _ _ _ h hI (lv_sub hl [0, 1, 2, 3, 4, 5, 6] rfl)
                · replace h := Eq.trans (if_neg c6).symm h
                  refine lv_iload_n hx hb d_Mod_feed_67 rfl (lv_at hl 4 rfl) ?_
                  refine lv_goto (tgt := 85) hx hb d_Mod_feed_68 (by decide) ?_
                  exact J85 x6_32 x1_32 x2_32 x3_32 x4_32 x5_32 x3_32 _ _ _ _ h hI (lv_sub hl [0, 1, 2, 3, 4, 5, 6] rfl)
              · replace h := Eq.trans (if_neg c5).symm h
                refine lv_iload_n hx hb d_Mod_feed_56 rfl (lv_at hl 3 rfl) ?_
                refine lv_goto (tgt := 85) hx hb d_Mod_feed_57 (by decide) ?_
                exact J85 x6_32 x1_32 x2_32 x3_32 x4_32 x5_32 x2_32 _ _ _ _ h hI (lv_sub hl [0, 1, 2, 3, 4, 5, 6] rfl)
            · replace h := Eq.trans (if_neg c4).symm h
              refine lv_iload_n hx hb d_Mod_feed_45 rfl (lv_at hl 2 rfl) ?_
              refine lv_goto (tgt := 85) hx hb d_Mod_feed_46 (by decide) ?_
              exact J85 x6_32 x1_32 x2_32 x3_32 x4_32 x5_32 x1_32 _ _ _ _ h hI (lv_sub hl [0, 1, 2, 3, 4, 5, 6] rfl)
      exact L32 N 0 y1 y2 y3 y4 y5 _ _ _ _ h hI (lv_sub hl [0, 1, 2, 3, 4, 5, 6] rfl)
    · replace h := Eq.trans (if_neg c2).symm h
      refine lv_iconst (v := 0) hx hb d_Mod_feed_27 (by decide) ?_
      exact mc_iret (w := 0) hx hb hr rfl hlocks E hI h d_Mod_feed_28
  refine lv_aload_n hx hb d_Mod_feed_0 rfl (lv_at hl 0 rfl) ?_
  refine lv_iconst (v := 0) hx hb d_Mod_feed_1 (by decide) ?_
  refine mp_thrown S E hI vt_1270 d_Mod_feed_2 (fun H locs hI => ?_)
  refine lv_aload_n hx hb d_Mod_feed_5 rfl (lv_at hl 0 rfl) ?_
  refine lv_iconst (v := 1) hx hb d_Mod_feed_6 (by decide) ?_
  refine lv_aload_n hx hb d_Mod_feed_7 rfl (lv_at hl 0 rfl) ?_
  refine mf_size S E hI vt_1268 d_Mod_feed_8 ?_
  refine lv_ldc (v := 65516) hx hb hown (hT _ vt_1347) d_Mod_feed_11 ?_
  refine lv_icmp_le (tgt := 20) hx hb d_Mod_feed_13 (by decide) (fun c1 => ?_) (fun c1 => ?_)
  · replace h := Eq.trans (if_pos c1).symm h
    refine lv_iconst (v := 0) hx hb d_Mod_feed_20 (by decide) ?_
    exact J21 a1 a2 a3 a4 a5 0 1 _ _ _ _ h hI (lv_sub hl [0, 1, 2, 3, 4, 5] rfl)
  · replace h := Eq.trans (if_neg c1).symm h
    refine lv_iconst (v := 1) hx hb d_Mod_feed_16 (by decide) ?_
    refine lv_goto (tgt := 21) hx hb d_Mod_feed_17 (by decide) ?_
    exact J21 a1 a2 a3 a4 a5 1 1 _ _ _ _ h hI (lv_sub hl [0, 1, 2, 3, 4, 5] rfl)
def f_Mod_out_j24 (N : Nat)  (y1 : Int32) (t0 : Int32) (t1 : Int32) (γ : mS) : Option (kO × mS) := if (f_Mod_refuse t1 t0 γ).1 = 0 then (if y1 < 0 ∨ 65536 ≤ (y1 : Int32).toNatClampNeg then none else (some (some (some (((f_Mod_refuse t1 t0 γ).2.2 1 (y1 : Int32).toNatClampNeg) &&& 255)), (f_Mod_refuse t1 t0 γ).2))) else (some (some (some 0), (f_Mod_refuse t1 t0 γ).2))
def f_Mod_out_j19 (N : Nat)  (y1 : Int32) (t0 : Int32) (γ : mS) : Option (kO × mS) := f_Mod_out_j24 N y1 1 t0 γ
def f_Mod_out (N : Nat) (a1 : Int32) (α : mS) : Option (kO × mS) := if a1 < 0 then (f_Mod_out_j19 N a1 1 (mSi α 2 0)) else (if a1 < (α.1 1) then (f_Mod_out_j24 N a1 0 1 (mSi α 2 0)) else (f_Mod_out_j19 N a1 1 (mSi α 2 0)))
set_option maxHeartbeats 4000000 in
set_option maxRecDepth 100000 in
theorem k_Mod_out {l : Launch} {g : mG} {α : mS} (N : Nat) (a1 : Int32)  : ∀ x, f_Mod_out N a1 α = some x → mC l g y_Mod_out b_Mod_out 2 (some .int) (2) (23) [.ref (mad g 0), .int a1] α (mQr x) := by
  intro x h
  unfold f_Mod_out at h
  refine mc_ofW (by decide) (fun A p e s m args below meth c S hr hlocks hno hargs E hI => ?_)
  have hx := S.1
  have hb := S.2.1
  have hown := S.2.2.2.1
  have hT := S.2.2.2.2
  subst hargs
  have hl := lv_entry ([.ref (mad g 0), .int a1]) (n := 2) (Nat.le_of_ble_eq_true rfl)
  rw [lg_entry_eq]
  generalize (lg_sl ([.ref (mad g 0), .int a1]) ++ List.replicate (2 - (lg_sl ([.ref (mad g 0), .int a1])).length) Slot.unset).toArray = ls at hl ⊢
  have hl : lv_has ls 2 [(0, .ref (mad g 0)), (1, .int a1)] := hl
  have J24 : ∀ (y1 : Int32) (t0 : Int32) (t1 : Int32) (γ : mS) (H : Heap) (locs : List Loc) (ls : Array Slot), f_Mod_out_j24 N y1 t0 t1 γ = some x → mI g A s γ H locs → lv_has ls 2 [(0, .ref (mad g 0)), (1, .int y1)] → W p l e (mR (2) (23)) s m ([.ref (mad g 0), .int a1]).toArray below meth c H locs 0 0 (vEQ below (mQ g A (mQr x)) ([.ref (mad g 0), .int a1]).toArray s A) (F0 m 24 ls [.int t0, .int t1, .ref (mad g 0)]) := by
    intro y1 t0 t1 γ H locs ls h hI hl
    unfold f_Mod_out_j24 at h
    refine mg_tI (As := [.int t1, .int t0]) (rest := []) (k_Mod_refuse (l := l) (g := g) (α := γ) t1 t0) S hlocks hno E hI kw_Mod_251 ⟨Nat.le_of_ble_eq_true rfl, Nat.le_of_ble_eq_true rfl⟩ (mv_Mod E hI) rfl hl.1 rfl (Nat.le_of_ble_eq_true rfl) d_Mod_out_24 (fun H locs hI => ?_)
    refine lv_if_eq (tgt := 32) hx hb d_Mod_out_27 (by decide) (fun c2 => ?_) (fun c2 => ?_)
    · replace h := Eq.trans (if_pos c2).symm h
      refine lv_aload_n hx hb d_Mod_out_32 rfl (lv_at hl 0 rfl) ?_
      refine mf_out S E hI vt_1267 d_Mod_out_33 ?_
      refine lv_iload_n hx hb d_Mod_out_36 rfl (lv_at hl 1 rfl) ?_
      by_cases c3 : y1 < 0 ∨ 65536 ≤ (y1 : Int32).toNatClampNeg
      · replace h := Eq.trans (if_pos c3).symm h
        cases h
      · replace h := Eq.trans (if_neg c3).symm h
        refine ml_out S E hI c3 d_Mod_out_37 ?_
        refine lv_sipush (v := 255) hx hb d_Mod_out_38 (by decide) ?_
        refine lv_iand hx hb d_Mod_out_41 ?_
        exact mc_iret (w := (((f_Mod_refuse t1 t0 γ).2.2 1 (y1 : Int32).toNatClampNeg) &&& 255)) hx hb hr rfl hlocks E hI h d_Mod_out_42
    · replace h := Eq.trans (if_neg c2).symm h
      refine lv_iconst (v := 0) hx hb d_Mod_out_30 (by decide) ?_
      exact mc_iret (w := 0) hx hb hr rfl hlocks E hI h d_Mod_out_31
  have J19 : ∀ (y1 : Int32) (t0 : Int32) (γ : mS) (H : Heap) (locs : List Loc) (ls : Array Slot), f_Mod_out_j19 N y1 t0 γ = some x → mI g A s γ H locs → lv_has ls 2 [(0, .ref (mad g 0)), (1, .int y1)] → W p l e (mR (2) (23)) s m ([.ref (mad g 0), .int a1]).toArray below meth c H locs 0 0 (vEQ below (mQ g A (mQr x)) ([.ref (mad g 0), .int a1]).toArray s A) (F0 m 19 ls [.int t0, .ref (mad g 0)]) := by
    intro y1 t0 γ H locs ls h hI hl
    unfold f_Mod_out_j19 at h
    refine lv_iconst (v := 1) hx hb d_Mod_out_19 (by decide) ?_
    refine lv_goto (tgt := 24) hx hb d_Mod_out_20 (by decide) ?_
    exact J24 y1 1 t0 _ _ _ _ h hI (lv_sub hl [0, 1] rfl)
  refine lv_aload_n hx hb d_Mod_out_0 rfl (lv_at hl 0 rfl) ?_
  refine lv_iconst (v := 0) hx hb d_Mod_out_1 (by decide) ?_
  refine mp_thrown S E hI vt_1270 d_Mod_out_2 (fun H locs hI => ?_)
  refine lv_aload_n hx hb d_Mod_out_5 rfl (lv_at hl 0 rfl) ?_
  refine lv_iconst (v := 1) hx hb d_Mod_out_6 (by decide) ?_
  refine lv_iload_n hx hb d_Mod_out_7 rfl (lv_at hl 1 rfl) ?_
  refine lv_if_lt (tgt := 19) hx hb d_Mod_out_8 (by decide) (fun c1 => ?_) (fun c1 => ?_)
  · replace h := Eq.trans (if_pos c1).symm h
    exact J19 a1 1 _ _ _ _ h hI (lv_sub hl [0, 1] rfl)
  · replace h := Eq.trans (if_neg c1).symm h
    refine lv_iload_n hx hb d_Mod_out_11 rfl (lv_at hl 1 rfl) ?_
    refine lv_aload_n hx hb d_Mod_out_12 rfl (lv_at hl 0 rfl) ?_
    refine mf_outSize S E hI vt_1269 d_Mod_out_13 ?_
    refine lv_icmp_lt (tgt := 23) hx hb d_Mod_out_16 (by decide) (fun c4 => ?_) (fun c4 => ?_)
    · replace h := Eq.trans (if_pos c4).symm h
      refine lv_iconst (v := 0) hx hb d_Mod_out_23 (by decide) ?_
      exact J24 a1 0 1 _ _ _ _ h hI (lv_sub hl [0, 1] rfl)
    · replace h := Eq.trans (if_neg c4).symm h
      exact J19 a1 1 _ _ _ _ h hI (lv_sub hl [0, 1] rfl)
def f_Mod_reset  (α : mS) : Int32 × mS := ((α.1 16), (mSi (mSi (mSi (mSi (mSi (mSi α 2 0) 26 0) 16 0) 17 0) 18 0) 15 0))
set_option maxHeartbeats 4000000 in
set_option maxRecDepth 100000 in
theorem k_Mod_reset {l : Launch} {g : mG} {α : mS}   : mC l g y_Mod_reset b_Mod_reset 2 (some .int) (1) (1) [.ref (mad g 0)] α (mQr (some (some (f_Mod_reset α).1), (f_Mod_reset α).2)) := by
  generalize h : f_Mod_reset α = x
  unfold f_Mod_reset at h
  refine mc_ofW (by decide) (fun A p e s m args below meth c S hr hlocks hno hargs E hI => ?_)
  have hx := S.1
  have hb := S.2.1
  have hown := S.2.2.2.1
  have hT := S.2.2.2.2
  subst hargs
  have hl := lv_entry ([.ref (mad g 0)]) (n := 2) (Nat.le_of_ble_eq_true rfl)
  rw [lg_entry_eq]
  generalize (lg_sl ([.ref (mad g 0)]) ++ List.replicate (2 - (lg_sl ([.ref (mad g 0)])).length) Slot.unset).toArray = ls at hl ⊢
  have hl : lv_has ls 2 [(0, .ref (mad g 0))] := hl
  refine lv_aload_n hx hb d_Mod_reset_0 rfl (lv_at hl 0 rfl) ?_
  refine lv_iconst (v := 0) hx hb d_Mod_reset_1 (by decide) ?_
  refine mp_thrown S E hI vt_1270 d_Mod_reset_2 (fun H locs hI => ?_)
  refine lv_aload_n hx hb d_Mod_reset_5 rfl (lv_at hl 0 rfl) ?_
  refine mf_constants S E hI vt_1295 d_Mod_reset_6 ?_
  refine lv_istore_n (lv' := [(1, .int (α.1 16)), (0, .ref (mad g 0))]) hx hb d_Mod_reset_9 rfl hl (by decide) rfl (fun ls hl => ?_)
  refine lv_aload_n hx hb d_Mod_reset_10 rfl (lv_at hl 1 rfl) ?_
  refine lv_iconst (v := 0) hx hb d_Mod_reset_11 (by decide) ?_
  refine mp_accepted S E hI vt_1328 d_Mod_reset_12 (fun H locs hI => ?_)
  refine lv_aload_n hx hb d_Mod_reset_15 rfl (lv_at hl 1 rfl) ?_
  refine lv_iconst (v := 0) hx hb d_Mod_reset_16 (by decide) ?_
  refine mp_constants S E hI vt_1295 d_Mod_reset_17 (fun H locs hI => ?_)
  refine lv_aload_n hx hb d_Mod_reset_20 rfl (lv_at hl 1 rfl) ?_
  refine lv_iconst (v := 0) hx hb d_Mod_reset_21 (by decide) ?_
  refine mp_kept S E hI vt_1310 d_Mod_reset_22 (fun H locs hI => ?_)
  refine lv_aload_n hx hb d_Mod_reset_25 rfl (lv_at hl 1 rfl) ?_
  refine lv_iconst (v := 0) hx hb d_Mod_reset_26 (by decide) ?_
  refine mp_sizes S E hI vt_1311 d_Mod_reset_27 (fun H locs hI => ?_)
  refine lv_aload_n hx hb d_Mod_reset_30 rfl (lv_at hl 1 rfl) ?_
  refine lv_iconst (v := 0) hx hb d_Mod_reset_31 (by decide) ?_
  refine mp_wordsUsed S E hI vt_1294 d_Mod_reset_32 (fun H locs hI => ?_)
  refine lv_iload_n hx hb d_Mod_reset_35 rfl (lv_at hl 0 rfl) ?_
  exact mc_iret (w := (α.1 16)) hx hb hr rfl hlocks E hI (by rw [← h]) d_Mod_reset_36
def f_Mod_show_j51 (N : Nat)  (y1 : Int32) (y2 : Int32) (t0 : Int32) (t1 : Int32) (γ : mS) : Option (kO × mS) := if (f_Mod_refuse t1 t0 γ).1 = 0 then (if y2 = 0 then (mBv (f_Mod_sayName N y1 (mSi (f_Mod_refuse t1 t0 γ).2 1 0)) fun α14 => (some (some (some (α14.1 1)), α14))) else (if y2 = 1 then (if y1 < 0 ∨ 301 ≤ (y1 : Int32).toNatClampNeg then none else (mBv ((G_sayBinder N dp_sayBinder).2.2 ((mSi (f_Mod_refuse t1 t0 γ).2 1 0).2 13 (y1 : Int32).toNatClampNeg) 0 (mSi (f_Mod_refuse t1 t0 γ).2 1 0)) fun α12 => (some (some (some (α12.1 1)), α12)))) else (if y1 < 0 ∨ 301 ≤ (y1 : Int32).toNatClampNeg then none else (mBv ((G_sayBinder N dp_sayBinder).2.2 ((mSi (f_Mod_refuse t1 t0 γ).2 1 0).2 14 (y1 : Int32).toNatClampNeg) 0 (mSi (f_Mod_refuse t1 t0 γ).2 1 0)) fun α9 => (some (some (some (α9.1 1)), α9)))))) else (some (some (some 0), (f_Mod_refuse t1 t0 γ).2))
def f_Mod_show_j50 (N : Nat)  (y1 : Int32) (y2 : Int32) (t0 : Int32) (γ : mS) : Option (kO × mS) := f_Mod_show_j51 N y1 y2 0 t0 γ
def f_Mod_show_j24 (N : Nat)  (y1 : Int32) (y2 : Int32) (t0 : Int32) (t1 : Int32) (γ : mS) : Option (kO × mS) := if (f_Mod_refuse t1 t0 γ).1 = 0 then (if y2 = 2 then (if y1 < 0 ∨ 301 ≤ (y1 : Int32).toNatClampNeg then none else (if 0 ≤ ((f_Mod_refuse t1 t0 γ).2.2 14 (y1 : Int32).toNatClampNeg) then (f_Mod_show_j50 N y1 y2 1 (f_Mod_refuse t1 t0 γ).2) else (f_Mod_show_j51 N y1 y2 1 1 (f_Mod_refuse t1 t0 γ).2))) else (f_Mod_show_j50 N y1 y2 1 (f_Mod_refuse t1 t0 γ).2)) else (some (some (some 0), (f_Mod_refuse t1 t0 γ).2))
def f_Mod_show_j19 (N : Nat)  (y1 : Int32) (y2 : Int32) (t0 : Int32) (γ : mS) : Option (kO × mS) := f_Mod_show_j24 N y1 y2 1 t0 γ
def f_Mod_show (N : Nat) (a1 : Int32) (a2 : Int32) (α : mS) : Option (kO × mS) := if (f_Mod_none a1 α).1 = 0 then (if a2 < 0 then (f_Mod_show_j19 N a1 a2 2 (f_Mod_none a1 α).2) else (if a2 ≤ 2 then (f_Mod_show_j24 N a1 a2 0 2 (f_Mod_none a1 α).2) else (f_Mod_show_j19 N a1 a2 2 (f_Mod_none a1 α).2))) else (some (some (some 0), (f_Mod_none a1 α).2))
set_option maxHeartbeats 4000000 in
set_option maxRecDepth 100000 in
theorem k_Mod_show {l : Launch} {g : mG} {α : mS} (N : Nat) (a1 : Int32) (a2 : Int32)  : ∀ x, f_Mod_show N a1 a2 α = some x → mC l g y_Mod_show b_Mod_show 3 (some .int) (1083) (27350) [.ref (mad g 0), .int a1, .int a2] α (mQr x) := by
  intro x h
  unfold f_Mod_show at h
  refine mc_ofW (by decide) (fun A p e s m args below meth c S hr hlocks hno hargs E hI => ?_)
  have hx := S.1
  have hb := S.2.1
  have hown := S.2.2.2.1
  have hT := S.2.2.2.2
  subst hargs
  have hl := lv_entry ([.ref (mad g 0), .int a1, .int a2]) (n := 3) (Nat.le_of_ble_eq_true rfl)
  rw [lg_entry_eq]
  generalize (lg_sl ([.ref (mad g 0), .int a1, .int a2]) ++ List.replicate (3 - (lg_sl ([.ref (mad g 0), .int a1, .int a2])).length) Slot.unset).toArray = ls at hl ⊢
  have hl : lv_has ls 3 [(0, .ref (mad g 0)), (1, .int a1), (2, .int a2)] := hl
  have J51 : ∀ (y1 : Int32) (y2 : Int32) (t0 : Int32) (t1 : Int32) (γ : mS) (H : Heap) (locs : List Loc) (ls : Array Slot), f_Mod_show_j51 N y1 y2 t0 t1 γ = some x → mI g A s γ H locs → lv_has ls 3 [(0, .ref (mad g 0)), (1, .int y1), (2, .int y2)] → W p l e (mR (1083) (27350)) s m ([.ref (mad g 0), .int a1, .int a2]).toArray below meth c H locs 0 0 (vEQ below (mQ g A (mQr x)) ([.ref (mad g 0), .int a1, .int a2]).toArray s A) (F0 m 51 ls [.int t0, .int t1, .ref (mad g 0)]) := by
    intro y1 y2 t0 t1 γ H locs ls h hI hl
    unfold f_Mod_show_j51 at h
    refine mg_tI (As := [.int t1, .int t0]) (rest := []) (k_Mod_refuse (l := l) (g := g) (α := γ) t1 t0) S hlocks hno E hI kw_Mod_251 ⟨Nat.le_of_ble_eq_true rfl, Nat.le_of_ble_eq_true rfl⟩ (mv_Mod E hI) rfl hl.1 rfl (Nat.le_of_ble_eq_true rfl) d_Mod_show_51 (fun H locs hI => ?_)
    refine lv_if_eq (tgt := 59) hx hb d_Mod_show_54 (by decide) (fun c5 => ?_) (fun c5 => ?_)
    · replace h := Eq.trans (if_pos c5).symm h
      refine lv_aload_n hx hb d_Mod_show_59 rfl (lv_at hl 0 rfl) ?_
      refine lv_iconst (v := 0) hx hb d_Mod_show_60 (by decide) ?_
      refine mp_outSize S E hI vt_1269 d_Mod_show_61 (fun H locs hI => ?_)
      refine lv_iload_n hx hb d_Mod_show_64 rfl (lv_at hl 2 rfl) ?_
      refine lv_if_ne (tgt := 76) hx hb d_Mod_show_65 (by decide) (fun c6 => ?_) (fun c6 => ?_)
      · replace h := Eq.trans (if_neg c6).symm h
        refine lv_aload_n hx hb d_Mod_show_76 rfl (lv_at hl 0 rfl) ?_
        refine lv_iload_n hx hb d_Mod_show_77 rfl (lv_at hl 2 rfl) ?_
        refine lv_iconst (v := 1) hx hb d_Mod_show_78 (by decide) ?_
        refine lv_icmp_ne (tgt := 91) hx hb d_Mod_show_79 (by decide) (fun c7 => ?_) (fun c7 => ?_)
        · replace h := Eq.trans (if_neg c7).symm h
          refine lv_aload_n hx hb d_Mod_show_91 rfl (lv_at hl 0 rfl) ?_
          refine mf_valueOf S E hI vt_1298 d_Mod_show_92 ?_
          refine lv_iload_n hx hb d_Mod_show_95 rfl (lv_at hl 1 rfl) ?_
          by_cases c8 : y1 < 0 ∨ 301 ≤ (y1 : Int32).toNatClampNeg
          · replace h := Eq.trans (if_pos c8).symm h
            cases h
          · replace h := Eq.trans (if_neg c8).symm h
            refine ml_valueOf S E hI c8 d_Mod_show_96 ?_
            refine lv_iconst (v := 0) hx hb d_Mod_show_97 (by decide) ?_
            refine mg_cV (As := [.int ((mSi (f_Mod_refuse t1 t0 γ).2 1 0).2 14 (y1 : Int32).toNatClampNeg), .int 0]) (rest := []) h (((ok_sayBinder (l := l) (g := g) N dp_sayBinder).2.2) ((mSi (f_Mod_refuse t1 t0 γ).2 1 0).2 14 (y1 : Int32).toNatClampNeg) 0 (mSi (f_Mod_refuse t1 t0 γ).2 1 0)) S hlocks hno E hI kw_Mod_531 ⟨Nat.le_of_ble_eq_true rfl, Nat.le_of_ble_eq_true rfl⟩ (mv_Mod E hI) rfl hl.1 rfl (Nat.le_of_ble_eq_true rfl) d_Mod_show_98 (fun α9 H locs e10 h hI => ?_)
            refine lv_aload_n hx hb d_Mod_show_101 rfl (lv_at hl 0 rfl) ?_
            refine mf_outSize S E hI vt_1269 d_Mod_show_102 ?_
            exact mc_iret (w := (α9.1 1)) hx hb hr rfl hlocks E hI h d_Mod_show_105
        · replace h := Eq.trans (if_pos c7).symm h
          refine lv_aload_n hx hb d_Mod_show_82 rfl (lv_at hl 0 rfl) ?_
          refine mf_typeOf S E hI vt_1297 d_Mod_show_83 ?_
          refine lv_iload_n hx hb d_Mod_show_86 rfl (lv_at hl 1 rfl) ?_
          by_cases c11 : y1 < 0 ∨ 301 ≤ (y1 : Int32).toNatClampNeg
          · replace h := Eq.trans (if_pos c11).symm h
            cases h
          · replace h := Eq.trans (if_neg c11).symm h
            refine ml_typeOf S E hI c11 d_Mod_show_87 ?_
            refine lv_goto (tgt := 97) hx hb d_Mod_show_88 (by decide) ?_
            refine lv_iconst (v := 0) hx hb d_Mod_show_97 (by decide) ?_
            refine mg_cV (As := [.int ((mSi (f_Mod_refuse t1 t0 γ).2 1 0).2 13 (y1 : Int32).toNatClampNeg), .int 0]) (rest := []) h (((ok_sayBinder (l := l) (g := g) N dp_sayBinder).2.2) ((mSi (f_Mod_refuse t1 t0 γ).2 1 0).2 13 (y1 : Int32).toNatClampNeg) 0 (mSi (f_Mod_refuse t1 t0 γ).2 1 0)) S hlocks hno E hI kw_Mod_531 ⟨Nat.le_of_ble_eq_true rfl, Nat.le_of_ble_eq_true rfl⟩ (mv_Mod E hI) rfl hl.1 rfl (Nat.le_of_ble_eq_true rfl) d_Mod_show_98 (fun α12 H locs e13 h hI => ?_)
            refine lv_aload_n hx hb d_Mod_show_101 rfl (lv_at hl 0 rfl) ?_
            refine mf_outSize S E hI vt_1269 d_Mod_show_102 ?_
            exact mc_iret (w := (α12.1 1)) hx hb hr rfl hlocks E hI h d_Mod_show_105
      · replace h := Eq.trans (if_pos c6).symm h
        refine lv_aload_n hx hb d_Mod_show_68 rfl (lv_at hl 0 rfl) ?_
        refine lv_iload_n hx hb d_Mod_show_69 rfl (lv_at hl 1 rfl) ?_
        refine mg_cV (As := [.int y1]) (rest := []) h (k_Mod_sayName (l := l) (g := g) (α := (mSi (f_Mod_refuse t1 t0 γ).2 1 0)) N y1) S hlocks hno E hI kw_Mod_592 ⟨Nat.le_of_ble_eq_true rfl, Nat.le_of_ble_eq_true rfl⟩ (mv_Mod E hI) rfl hl.1 rfl (Nat.le_of_ble_eq_true rfl) d_Mod_show_70 (fun α14 H locs e15 h hI => ?_)
        refine lv_goto (tgt := 101) hx hb d_Mod_show_73 (by decide) ?_
        refine lv_aload_n hx hb d_Mod_show_101 rfl (lv_at hl 0 rfl) ?_
        refine mf_outSize S E hI vt_1269 d_Mod_show_102 ?_
        exact mc_iret (w := (α14.1 1)) hx hb hr rfl hlocks E hI h d_Mod_show_105
    · replace h := Eq.trans (if_neg c5).symm h
      refine lv_iconst (v := 0) hx hb d_Mod_show_57 (by decide) ?_
      exact mc_iret (w := 0) hx hb hr rfl hlocks E hI h d_Mod_show_58
  have J50 : ∀ (y1 : Int32) (y2 : Int32) (t0 : Int32) (γ : mS) (H : Heap) (locs : List Loc) (ls : Array Slot), f_Mod_show_j50 N y1 y2 t0 γ = some x → mI g A s γ H locs → lv_has ls 3 [(0, .ref (mad g 0)), (1, .int y1), (2, .int y2)] → W p l e (mR (1083) (27350)) s m ([.ref (mad g 0), .int a1, .int a2]).toArray below meth c H locs 0 0 (vEQ below (mQ g A (mQr x)) ([.ref (mad g 0), .int a1, .int a2]).toArray s A) (F0 m 50 ls [.int t0, .ref (mad g 0)]) := by
    intro y1 y2 t0 γ H locs ls h hI hl
    unfold f_Mod_show_j50 at h
    refine lv_iconst (v := 0) hx hb d_Mod_show_50 (by decide) ?_
    exact J51 y1 y2 0 t0 _ _ _ _ h hI (lv_sub hl [0, 1, 2] rfl)
  have J24 : ∀ (y1 : Int32) (y2 : Int32) (t0 : Int32) (t1 : Int32) (γ : mS) (H : Heap) (locs : List Loc) (ls : Array Slot), f_Mod_show_j24 N y1 y2 t0 t1 γ = some x → mI g A s γ H locs → lv_has ls 3 [(0, .ref (mad g 0)), (1, .int y1), (2, .int y2)] → W p l e (mR (1083) (27350)) s m ([.ref (mad g 0), .int a1, .int a2]).toArray below meth c H locs 0 0 (vEQ below (mQ g A (mQr x)) ([.ref (mad g 0), .int a1, .int a2]).toArray s A) (F0 m 24 ls [.int t0, .int t1, .ref (mad g 0)]) := by
    intro y1 y2 t0 t1 γ H locs ls h hI hl
    unfold f_Mod_show_j24 at h
    refine mg_tI (As := [.int t1, .int t0]) (rest := []) (k_Mod_refuse (l := l) (g := g) (α := γ) t1 t0) S hlocks hno E hI kw_Mod_251 ⟨Nat.le_of_ble_eq_true rfl, Nat.le_of_ble_eq_true rfl⟩ (mv_Mod E hI) rfl hl.1 rfl (Nat.le_of_ble_eq_true rfl) d_Mod_show_24 (fun H locs hI => ?_)
    refine lv_if_ne (tgt := 57) hx hb d_Mod_show_27 (by decide) (fun c3 => ?_) (fun c3 => ?_)
    · replace h := Eq.trans (if_neg c3).symm h
      refine lv_iconst (v := 0) hx hb d_Mod_show_57 (by decide) ?_
      exact mc_iret (w := 0) hx hb hr rfl hlocks E hI h d_Mod_show_58
    · replace h := Eq.trans (if_pos c3).symm h
      refine lv_aload_n hx hb d_Mod_show_30 rfl (lv_at hl 0 rfl) ?_
      refine lv_iconst (v := 1) hx hb d_Mod_show_31 (by decide) ?_
      refine lv_iload_n hx hb d_Mod_show_32 rfl (lv_at hl 2 rfl) ?_
      refine lv_iconst (v := 2) hx hb d_Mod_show_33 (by decide) ?_
      refine lv_icmp_ne (tgt := 50) hx hb d_Mod_show_34 (by decide) (fun c4 => ?_) (fun c4 => ?_)
      · replace h := Eq.trans (if_neg c4).symm h
        exact J50 y1 y2 1 _ _ _ _ h hI (lv_sub hl [0, 1, 2] rfl)
      · replace h := Eq.trans (if_pos c4).symm h
        refine lv_aload_n hx hb d_Mod_show_37 rfl (lv_at hl 0 rfl) ?_
        refine mf_valueOf S E hI vt_1298 d_Mod_show_38 ?_
        refine lv_iload_n hx hb d_Mod_show_41 rfl (lv_at hl 1 rfl) ?_
        by_cases c16 : y1 < 0 ∨ 301 ≤ (y1 : Int32).toNatClampNeg
        · replace h := Eq.trans (if_pos c16).symm h
          cases h
        · replace h := Eq.trans (if_neg c16).symm h
          refine ml_valueOf S E hI c16 d_Mod_show_42 ?_
          refine lv_if_ge (tgt := 50) hx hb d_Mod_show_43 (by decide) (fun c17 => ?_) (fun c17 => ?_)
          · replace h := Eq.trans (if_pos c17).symm h
            exact J50 y1 y2 1 _ _ _ _ h hI (lv_sub hl [0, 1, 2] rfl)
          · replace h := Eq.trans (if_neg c17).symm h
            refine lv_iconst (v := 1) hx hb d_Mod_show_46 (by decide) ?_
            refine lv_goto (tgt := 51) hx hb d_Mod_show_47 (by decide) ?_
            exact J51 y1 y2 1 1 _ _ _ _ h hI (lv_sub hl [0, 1, 2] rfl)
  have J19 : ∀ (y1 : Int32) (y2 : Int32) (t0 : Int32) (γ : mS) (H : Heap) (locs : List Loc) (ls : Array Slot), f_Mod_show_j19 N y1 y2 t0 γ = some x → mI g A s γ H locs → lv_has ls 3 [(0, .ref (mad g 0)), (1, .int y1), (2, .int y2)] → W p l e (mR (1083) (27350)) s m ([.ref (mad g 0), .int a1, .int a2]).toArray below meth c H locs 0 0 (vEQ below (mQ g A (mQr x)) ([.ref (mad g 0), .int a1, .int a2]).toArray s A) (F0 m 19 ls [.int t0, .ref (mad g 0)]) := by
    intro y1 y2 t0 γ H locs ls h hI hl
    unfold f_Mod_show_j19 at h
    refine lv_iconst (v := 1) hx hb d_Mod_show_19 (by decide) ?_
    refine lv_goto (tgt := 24) hx hb d_Mod_show_20 (by decide) ?_
    exact J24 y1 y2 1 t0 _ _ _ _ h hI (lv_sub hl [0, 1, 2] rfl)
  refine lv_aload_n hx hb d_Mod_show_0 rfl (lv_at hl 0 rfl) ?_
  refine lv_iload_n hx hb d_Mod_show_1 rfl (lv_at hl 1 rfl) ?_
  refine mg_tI (As := [.int a1]) (rest := []) (k_Mod_none (l := l) (g := g) (α := α) a1) S hlocks hno E hI kw_Mod_577 ⟨Nat.le_of_ble_eq_true rfl, Nat.le_of_ble_eq_true rfl⟩ (mv_Mod E hI) rfl hl.1 rfl (Nat.le_of_ble_eq_true rfl) d_Mod_show_2 (fun H locs hI => ?_)
  refine lv_if_ne (tgt := 57) hx hb d_Mod_show_5 (by decide) (fun c1 => ?_) (fun c1 => ?_)
  · replace h := Eq.trans (if_neg c1).symm h
    refine lv_iconst (v := 0) hx hb d_Mod_show_57 (by decide) ?_
    exact mc_iret (w := 0) hx hb hr rfl hlocks E hI h d_Mod_show_58
  · replace h := Eq.trans (if_pos c1).symm h
    refine lv_aload_n hx hb d_Mod_show_8 rfl (lv_at hl 0 rfl) ?_
    refine lv_iconst (v := 2) hx hb d_Mod_show_9 (by decide) ?_
    refine lv_iload_n hx hb d_Mod_show_10 rfl (lv_at hl 2 rfl) ?_
    refine lv_if_lt (tgt := 19) hx hb d_Mod_show_11 (by decide) (fun c2 => ?_) (fun c2 => ?_)
    · replace h := Eq.trans (if_pos c2).symm h
      exact J19 a1 a2 2 _ _ _ _ h hI (lv_sub hl [0, 1, 2] rfl)
    · replace h := Eq.trans (if_neg c2).symm h
      refine lv_iload_n hx hb d_Mod_show_14 rfl (lv_at hl 2 rfl) ?_
      refine lv_iconst (v := 2) hx hb d_Mod_show_15 (by decide) ?_
      refine lv_icmp_le (tgt := 23) hx hb d_Mod_show_16 (by decide) (fun c18 => ?_) (fun c18 => ?_)
      · replace h := Eq.trans (if_pos c18).symm h
        refine lv_iconst (v := 0) hx hb d_Mod_show_23 (by decide) ?_
        exact J24 a1 a2 0 2 _ _ _ _ h hI (lv_sub hl [0, 1, 2] rfl)
      · replace h := Eq.trans (if_neg c18).symm h
        exact J19 a1 a2 2 _ _ _ _ h hI (lv_sub hl [0, 1, 2] rfl)
def f_Mod_showRec_j61 (N : Nat)  (y1 : Int32) (y2 : Int32) (t0 : Int32) (t1 : Int32) (γ : mS) : Option (kO × mS) := if (f_Mod_refuse t1 t0 γ).1 = 0 then (if y1 < 0 ∨ 301 ≤ (y1 : Int32).toNatClampNeg then none else (mBi (f_Mod_leveled N ((mSi (f_Mod_refuse t1 t0 γ).2 10 32000).2 21 (y1 : Int32).toNatClampNeg) y2 (mSi (f_Mod_refuse t1 t0 γ).2 10 32000)) fun v10 α8 => (mBv ((G_sayBinder N dp_sayBinder).2.2 v10 0 (mSi α8 1 0)) fun α11 => (some (some (some (α11.1 1)), α11))))) else (some (some (some 0), (f_Mod_refuse t1 t0 γ).2))
def f_Mod_showRec_j60 (N : Nat)  (y1 : Int32) (y2 : Int32) (t0 : Int32) (γ : mS) : Option (kO × mS) := f_Mod_showRec_j61 N y1 y2 0 t0 γ
def f_Mod_showRec_j35 (N : Nat)  (y1 : Int32) (y2 : Int32) (t0 : Int32) (t1 : Int32) (γ : mS) : Option (kO × mS) := if (f_Mod_refuse t1 t0 γ).1 = 0 then (if y2 ≤ 0 then (f_Mod_showRec_j60 N y1 y2 1 (f_Mod_refuse t1 t0 γ).2) else (if y1 < 0 ∨ 301 ≤ (y1 : Int32).toNatClampNeg then none else (if ((f_Mod_refuse t1 t0 γ).2.2 24 (y1 : Int32).toNatClampNeg) = 0 then (f_Mod_showRec_j61 N y1 y2 1 1 (f_Mod_refuse t1 t0 γ).2) else (f_Mod_showRec_j60 N y1 y2 1 (f_Mod_refuse t1 t0 γ).2)))) else (some (some (some 0), (f_Mod_refuse t1 t0 γ).2))
def f_Mod_showRec_j30 (N : Nat)  (y1 : Int32) (y2 : Int32) (t0 : Int32) (γ : mS) : Option (kO × mS) := f_Mod_showRec_j35 N y1 y2 1 t0 γ
def f_Mod_showRec (N : Nat) (a1 : Int32) (a2 : Int32) (α : mS) : Option (kO × mS) := if (f_Mod_none a1 α).1 = 0 then (if a1 < 0 ∨ 301 ≤ (a1 : Int32).toNatClampNeg then none else (if ((f_Mod_none a1 α).2.2 12 (a1 : Int32).toNatClampNeg) = 3 then (if a2 < 0 then (f_Mod_showRec_j30 N a1 a2 1 (f_Mod_none a1 α).2) else (if a2 ≤ 100 then (f_Mod_showRec_j35 N a1 a2 0 1 (f_Mod_none a1 α).2) else (f_Mod_showRec_j30 N a1 a2 1 (f_Mod_none a1 α).2))) else (f_Mod_showRec_j30 N a1 a2 1 (f_Mod_none a1 α).2))) else (some (some (some 0), (f_Mod_none a1 α).2))
set_option maxHeartbeats 4000000 in
set_option maxRecDepth 100000 in
theorem k_Mod_showRec {l : Launch} {g : mG} {α : mS} (N : Nat) (a1 : Int32) (a2 : Int32)  : ∀ x, f_Mod_showRec N a1 a2 α = some x → mC l g y_Mod_showRec b_Mod_showRec 4 (some .int) (1083) (27350) [.ref (mad g 0), .int a1, .int a2] α (mQr x) := by
  intro x h
  unfold f_Mod_showRec at h
  refine mc_ofW (by decide) (fun A p e s m args below meth c S hr hlocks hno hargs E hI => ?_)
  have hx := S.1
  have hb := S.2.1
  have hown := S.2.2.2.1
  have hT := S.2.2.2.2
  subst hargs
  have hl := lv_entry ([.ref (mad g 0), .int a1, .int a2]) (n := 4) (Nat.le_of_ble_eq_true rfl)
  rw [lg_entry_eq]
  generalize (lg_sl ([.ref (mad g 0), .int a1, .int a2]) ++ List.replicate (4 - (lg_sl ([.ref (mad g 0), .int a1, .int a2])).length) Slot.unset).toArray = ls at hl ⊢
  have hl : lv_has ls 4 [(0, .ref (mad g 0)), (1, .int a1), (2, .int a2)] := hl
  have J61 : ∀ (y1 : Int32) (y2 : Int32) (t0 : Int32) (t1 : Int32) (γ : mS) (H : Heap) (locs : List Loc) (ls : Array Slot), f_Mod_showRec_j61 N y1 y2 t0 t1 γ = some x → mI g A s γ H locs → lv_has ls 4 [(0, .ref (mad g 0)), (1, .int y1), (2, .int y2)] → W p l e (mR (1083) (27350)) s m ([.ref (mad g 0), .int a1, .int a2]).toArray below meth c H locs 0 0 (vEQ below (mQ g A (mQr x)) ([.ref (mad g 0), .int a1, .int a2]).toArray s A) (F0 m 61 ls [.int t0, .int t1, .ref (mad g 0)]) := by
    intro y1 y2 t0 t1 γ H locs ls h hI hl
    unfold f_Mod_showRec_j61 at h
    refine mg_tI (As := [.int t1, .int t0]) (rest := []) (k_Mod_refuse (l := l) (g := g) (α := γ) t1 t0) S hlocks hno E hI kw_Mod_251 ⟨Nat.le_of_ble_eq_true rfl, Nat.le_of_ble_eq_true rfl⟩ (mv_Mod E hI) rfl hl.1 rfl (Nat.le_of_ble_eq_true rfl) d_Mod_showRec_61 (fun H locs hI => ?_)
    refine lv_if_eq (tgt := 69) hx hb d_Mod_showRec_64 (by decide) (fun c6 => ?_) (fun c6 => ?_)
    · replace h := Eq.trans (if_pos c6).symm h
      refine lv_aload_n hx hb d_Mod_showRec_69 rfl (lv_at hl 0 rfl) ?_
      refine lv_sipush (v := 32000) hx hb d_Mod_showRec_70 (by decide) ?_
      refine mp_top S E hI vt_1285 d_Mod_showRec_73 (fun H locs hI => ?_)
      refine lv_aload_n hx hb d_Mod_showRec_76 rfl (lv_at hl 0 rfl) ?_
      refine lv_aload_n hx hb d_Mod_showRec_77 rfl (lv_at hl 0 rfl) ?_
      refine mf_recType S E hI vt_1305 d_Mod_showRec_78 ?_
      refine lv_iload_n hx hb d_Mod_showRec_81 rfl (lv_at hl 1 rfl) ?_
      by_cases c7 : y1 < 0 ∨ 301 ≤ (y1 : Int32).toNatClampNeg
      · replace h := Eq.trans (if_pos c7).symm h
        cases h
      · replace h := Eq.trans (if_neg c7).symm h
        refine ml_recType S E hI c7 d_Mod_showRec_82 ?_
        refine lv_iload_n hx hb d_Mod_showRec_83 rfl (lv_at hl 2 rfl) ?_
        refine mg_cI (As := [.int ((mSi (f_Mod_refuse t1 t0 γ).2 10 32000).2 21 (y1 : Int32).toNatClampNeg), .int y2]) (rest := []) h (k_Mod_leveled (l := l) (g := g) (α := (mSi (f_Mod_refuse t1 t0 γ).2 10 32000)) N ((mSi (f_Mod_refuse t1 t0 γ).2 10 32000).2 21 (y1 : Int32).toNatClampNeg) y2) S hlocks hno E hI kw_Mod_461 ⟨Nat.le_of_ble_eq_true rfl, Nat.le_of_ble_eq_true rfl⟩ (mv_Mod E hI) rfl hl.1 rfl (Nat.le_of_ble_eq_true rfl) d_Mod_showRec_84 (fun v10 α8 H locs e9 h hI => ?_)
        refine lv_istore_n (lv' := [(3, .int v10), (0, .ref (mad g 0)), (1, .int y1), (2, .int y2)]) hx hb d_Mod_showRec_87 rfl hl (by decide) rfl (fun ls hl => ?_)
        refine lv_aload_n hx hb d_Mod_showRec_88 rfl (lv_at hl 1 rfl) ?_
        refine lv_iconst (v := 0) hx hb d_Mod_showRec_89 (by decide) ?_
        refine mp_outSize S E hI vt_1269 d_Mod_showRec_90 (fun H locs hI => ?_)
        refine lv_aload_n hx hb d_Mod_showRec_93 rfl (lv_at hl 1 rfl) ?_
        refine lv_iload_n hx hb d_Mod_showRec_94 rfl (lv_at hl 0 rfl) ?_
        refine lv_iconst (v := 0) hx hb d_Mod_showRec_95 (by decide) ?_
        refine mg_cV (As := [.int v10, .int 0]) (rest := []) h (((ok_sayBinder (l := l) (g := g) N dp_sayBinder).2.2) v10 0 (mSi α8 1 0)) S hlocks hno E hI kw_Mod_531 ⟨Nat.le_of_ble_eq_true rfl, Nat.le_of_ble_eq_true rfl⟩ (mv_Mod E hI) rfl hl.1 rfl (Nat.le_of_ble_eq_true rfl) d_Mod_showRec_96 (fun α11 H locs e12 h hI => ?_)
        refine lv_aload_n hx hb d_Mod_showRec_99 rfl (lv_at hl 1 rfl) ?_
        refine mf_outSize S E hI vt_1269 d_Mod_showRec_100 ?_
        exact mc_iret (w := (α11.1 1)) hx hb hr rfl hlocks E hI h d_Mod_showRec_103
    · replace h := Eq.trans (if_neg c6).symm h
      refine lv_iconst (v := 0) hx hb d_Mod_showRec_67 (by decide) ?_
      exact mc_iret (w := 0) hx hb hr rfl hlocks E hI h d_Mod_showRec_68
  have J60 : ∀ (y1 : Int32) (y2 : Int32) (t0 : Int32) (γ : mS) (H : Heap) (locs : List Loc) (ls : Array Slot), f_Mod_showRec_j60 N y1 y2 t0 γ = some x → mI g A s γ H locs → lv_has ls 4 [(0, .ref (mad g 0)), (1, .int y1), (2, .int y2)] → W p l e (mR (1083) (27350)) s m ([.ref (mad g 0), .int a1, .int a2]).toArray below meth c H locs 0 0 (vEQ below (mQ g A (mQr x)) ([.ref (mad g 0), .int a1, .int a2]).toArray s A) (F0 m 60 ls [.int t0, .ref (mad g 0)]) := by
    intro y1 y2 t0 γ H locs ls h hI hl
    unfold f_Mod_showRec_j60 at h
    refine lv_iconst (v := 0) hx hb d_Mod_showRec_60 (by decide) ?_
    exact J61 y1 y2 0 t0 _ _ _ _ h hI (lv_sub hl [0, 1, 2] rfl)
  have J35 : ∀ (y1 : Int32) (y2 : Int32) (t0 : Int32) (t1 : Int32) (γ : mS) (H : Heap) (locs : List Loc) (ls : Array Slot), f_Mod_showRec_j35 N y1 y2 t0 t1 γ = some x → mI g A s γ H locs → lv_has ls 4 [(0, .ref (mad g 0)), (1, .int y1), (2, .int y2)] → W p l e (mR (1083) (27350)) s m ([.ref (mad g 0), .int a1, .int a2]).toArray below meth c H locs 0 0 (vEQ below (mQ g A (mQr x)) ([.ref (mad g 0), .int a1, .int a2]).toArray s A) (F0 m 35 ls [.int t0, .int t1, .ref (mad g 0)]) := by
    intro y1 y2 t0 t1 γ H locs ls h hI hl
    unfold f_Mod_showRec_j35 at h
    refine mg_tI (As := [.int t1, .int t0]) (rest := []) (k_Mod_refuse (l := l) (g := g) (α := γ) t1 t0) S hlocks hno E hI kw_Mod_251 ⟨Nat.le_of_ble_eq_true rfl, Nat.le_of_ble_eq_true rfl⟩ (mv_Mod E hI) rfl hl.1 rfl (Nat.le_of_ble_eq_true rfl) d_Mod_showRec_35 (fun H locs hI => ?_)
    refine lv_if_ne (tgt := 67) hx hb d_Mod_showRec_38 (by decide) (fun c4 => ?_) (fun c4 => ?_)
    · replace h := Eq.trans (if_neg c4).symm h
      refine lv_iconst (v := 0) hx hb d_Mod_showRec_67 (by decide) ?_
      exact mc_iret (w := 0) hx hb hr rfl hlocks E hI h d_Mod_showRec_68
    · replace h := Eq.trans (if_pos c4).symm h
      refine lv_aload_n hx hb d_Mod_showRec_41 rfl (lv_at hl 0 rfl) ?_
      refine lv_iconst (v := 1) hx hb d_Mod_showRec_42 (by decide) ?_
      refine lv_iload_n hx hb d_Mod_showRec_43 rfl (lv_at hl 2 rfl) ?_
      refine lv_if_le (tgt := 60) hx hb d_Mod_showRec_44 (by decide) (fun c5 => ?_) (fun c5 => ?_)
      · replace h := Eq.trans (if_pos c5).symm h
        exact J60 y1 y2 1 _ _ _ _ h hI (lv_sub hl [0, 1, 2] rfl)
      · replace h := Eq.trans (if_neg c5).symm h
        refine lv_aload_n hx hb d_Mod_showRec_47 rfl (lv_at hl 0 rfl) ?_
        refine mf_large S E hI vt_1309 d_Mod_showRec_48 ?_
        refine lv_iload_n hx hb d_Mod_showRec_51 rfl (lv_at hl 1 rfl) ?_
        by_cases c13 : y1 < 0 ∨ 301 ≤ (y1 : Int32).toNatClampNeg
        · replace h := Eq.trans (if_pos c13).symm h
          cases h
        · replace h := Eq.trans (if_neg c13).symm h
          refine ml_large S E hI c13 d_Mod_showRec_52 ?_
          refine lv_if_ne (tgt := 60) hx hb d_Mod_showRec_53 (by decide) (fun c14 => ?_) (fun c14 => ?_)
          · replace h := Eq.trans (if_neg c14).symm h
            exact J60 y1 y2 1 _ _ _ _ h hI (lv_sub hl [0, 1, 2] rfl)
          · replace h := Eq.trans (if_pos c14).symm h
            refine lv_iconst (v := 1) hx hb d_Mod_showRec_56 (by decide) ?_
            refine lv_goto (tgt := 61) hx hb d_Mod_showRec_57 (by decide) ?_
            exact J61 y1 y2 1 1 _ _ _ _ h hI (lv_sub hl [0, 1, 2] rfl)
  have J30 : ∀ (y1 : Int32) (y2 : Int32) (t0 : Int32) (γ : mS) (H : Heap) (locs : List Loc) (ls : Array Slot), f_Mod_showRec_j30 N y1 y2 t0 γ = some x → mI g A s γ H locs → lv_has ls 4 [(0, .ref (mad g 0)), (1, .int y1), (2, .int y2)] → W p l e (mR (1083) (27350)) s m ([.ref (mad g 0), .int a1, .int a2]).toArray below meth c H locs 0 0 (vEQ below (mQ g A (mQr x)) ([.ref (mad g 0), .int a1, .int a2]).toArray s A) (F0 m 30 ls [.int t0, .ref (mad g 0)]) := by
    intro y1 y2 t0 γ H locs ls h hI hl
    unfold f_Mod_showRec_j30 at h
    refine lv_iconst (v := 1) hx hb d_Mod_showRec_30 (by decide) ?_
    refine lv_goto (tgt := 35) hx hb d_Mod_showRec_31 (by decide) ?_
    exact J35 y1 y2 1 t0 _ _ _ _ h hI (lv_sub hl [0, 1, 2] rfl)
  refine lv_aload_n hx hb d_Mod_showRec_0 rfl (lv_at hl 0 rfl) ?_
  refine lv_iload_n hx hb d_Mod_showRec_1 rfl (lv_at hl 1 rfl) ?_
  refine mg_tI (As := [.int a1]) (rest := []) (k_Mod_none (l := l) (g := g) (α := α) a1) S hlocks hno E hI kw_Mod_577 ⟨Nat.le_of_ble_eq_true rfl, Nat.le_of_ble_eq_true rfl⟩ (mv_Mod E hI) rfl hl.1 rfl (Nat.le_of_ble_eq_true rfl) d_Mod_showRec_2 (fun H locs hI => ?_)
  refine lv_if_ne (tgt := 67) hx hb d_Mod_showRec_5 (by decide) (fun c1 => ?_) (fun c1 => ?_)
  · replace h := Eq.trans (if_neg c1).symm h
    refine lv_iconst (v := 0) hx hb d_Mod_showRec_67 (by decide) ?_
    exact mc_iret (w := 0) hx hb hr rfl hlocks E hI h d_Mod_showRec_68
  · replace h := Eq.trans (if_pos c1).symm h
    refine lv_aload_n hx hb d_Mod_showRec_8 rfl (lv_at hl 0 rfl) ?_
    refine lv_iconst (v := 1) hx hb d_Mod_showRec_9 (by decide) ?_
    refine lv_aload_n hx hb d_Mod_showRec_10 rfl (lv_at hl 0 rfl) ?_
    refine mf_sortOf S E hI vt_1296 d_Mod_showRec_11 ?_
    refine lv_iload_n hx hb d_Mod_showRec_14 rfl (lv_at hl 1 rfl) ?_
    by_cases c2 : a1 < 0 ∨ 301 ≤ (a1 : Int32).toNatClampNeg
    · replace h := Eq.trans (if_pos c2).symm h
      cases h
    · replace h := Eq.trans (if_neg c2).symm h
      refine ml_sortOf S E hI c2 d_Mod_showRec_15 ?_
      refine lv_iconst (v := 3) hx hb d_Mod_showRec_16 (by decide) ?_
      refine lv_icmp_ne (tgt := 30) hx hb d_Mod_showRec_17 (by decide) (fun c3 => ?_) (fun c3 => ?_)
      · replace h := Eq.trans (if_neg c3).symm h
        exact J30 a1 a2 1 _ _ _ _ h hI (lv_sub hl [0, 1, 2] rfl)
      · replace h := Eq.trans (if_pos c3).symm h
        refine lv_iload_n hx hb d_Mod_showRec_20 rfl (lv_at hl 2 rfl) ?_
        refine lv_if_lt (tgt := 30) hx hb d_Mod_showRec_21 (by decide) (fun c15 => ?_) (fun c15 => ?_)
        · replace h := Eq.trans (if_pos c15).symm h
          exact J30 a1 a2 1 _ _ _ _ h hI (lv_sub hl [0, 1, 2] rfl)
        · replace h := Eq.trans (if_neg c15).symm h
          refine lv_iload_n hx hb d_Mod_showRec_24 rfl (lv_at hl 2 rfl) ?_
          refine lv_bipush (v := 100) hx hb d_Mod_showRec_25 (by decide) ?_
          refine lv_icmp_le (tgt := 34) hx hb d_Mod_showRec_27 (by decide) (fun c16 => ?_) (fun c16 => ?_)
          · replace h := Eq.trans (if_pos c16).symm h
            refine lv_iconst (v := 0) hx hb d_Mod_showRec_34 (by decide) ?_
            exact J35 a1 a2 0 1 _ _ _ _ h hI (lv_sub hl [0, 1, 2] rfl)
          · replace h := Eq.trans (if_neg c16).symm h
            exact J30 a1 a2 1 _ _ _ _ h hI (lv_sub hl [0, 1, 2] rfl)
def f_Mod_thrown  (α : mS) : Int32 := (α.1 2)
set_option maxHeartbeats 4000000 in
set_option maxRecDepth 100000 in
theorem k_Mod_thrown {l : Launch} {g : mG} {α : mS}   : mV l g y_Mod_thrown b_Mod_thrown 1 (some .int) (1) (1) [.ref (mad g 0)] α (f_Mod_thrown α) := by
  generalize h : f_Mod_thrown α = x
  unfold f_Mod_thrown at h
  refine mv_ofW (by decide) (fun A p e s m args below meth c S hr hlocks hargs E hI => ?_)
  have hx := S.1
  have hb := S.2.1
  have hown := S.2.2.2.1
  have hT := S.2.2.2.2
  subst hargs
  have hl := lv_entry ([.ref (mad g 0)]) (n := 1) (Nat.le_of_ble_eq_true rfl)
  rw [lg_entry_eq]
  generalize (lg_sl ([.ref (mad g 0)]) ++ List.replicate (1 - (lg_sl ([.ref (mad g 0)])).length) Slot.unset).toArray = ls at hl ⊢
  have hl : lv_has ls 1 [(0, .ref (mad g 0))] := hl
  refine lv_aload_n hx hb d_Mod_thrown_0 rfl (lv_at hl 0 rfl) ?_
  refine mf_thrown S E hI vt_1270 d_Mod_thrown_1 ?_
  exact kv_iret (w := (α.1 2)) hx hb hr rfl hlocks h d_Mod_thrown_4
