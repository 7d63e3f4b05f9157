def f_Mod_under (N : Nat) (a1 : Int32) (a2 : Int32) (a3 : Int32) (α : mS) : Option (kO × mS) := mBi (f_Mod_mapped N 3 a1 0 a2 a3 α) fun v3 α1 => (some (some (some v3), α1))
set_option maxHeartbeats 4000000 in
set_option maxRecDepth 100000 in
theorem k_Mod_under {l : Launch} {g : mG} {α : mS} (N : Nat) (a1 : Int32) (a2 : Int32) (a3 : Int32)  : ∀ x, f_Mod_under N a1 a2 a3 α = some x → mC l g y_Mod_under b_Mod_under 4 (some .int) (848) (23782) [.ref (mad g 0), .int a1, .int a2, .int a3] α (mQr x) := by
  intro x h
  unfold f_Mod_under at h
  refine mc_ofW (by decide) (fun A p e s m args below meth c S hr hlocks hno hargs E hI => ?_)
  have hx := S.1
  have hb := S.2.1
  have hown := S.2.2.2.1
  have hT := S.2.2.2.2
  subst hargs
  have hl := lv_entry ([.ref (mad g 0), .int a1, .int a2, .int a3]) (n := 4) (Nat.le_of_ble_eq_true rfl)
  rw [lg_entry_eq]
  generalize (lg_sl ([.ref (mad g 0), .int a1, .int a2, .int a3]) ++ List.replicate (4 - (lg_sl ([.ref (mad g 0), .int a1, .int a2, .int a3])).length) Slot.unset).toArray = ls at hl ⊢
  have hl : lv_has ls 4 [(0, .ref (mad g 0)), (1, .int a1), (2, .int a2), (3, .int a3)] := hl
  refine lv_aload_n hx hb d_Mod_under_0 rfl (lv_at hl 0 rfl) ?_
  refine lv_iconst (v := 3) hx hb d_Mod_under_1 (by decide) ?_
  refine lv_iload_n hx hb d_Mod_under_2 rfl (lv_at hl 1 rfl) ?_
  refine lv_iconst (v := 0) hx hb d_Mod_under_3 (by decide) ?_
  refine lv_iload_n hx hb d_Mod_under_4 rfl (lv_at hl 2 rfl) ?_
  refine lv_iload_n hx hb d_Mod_under_5 rfl (lv_at hl 3 rfl) ?_
  refine mg_cI (As := [.int 3, .int a1, .int 0, .int a2, .int a3]) (rest := []) h (k_Mod_mapped (l := l) (g := g) (α := α) N 3 a1 0 a2 a3) S hlocks hno E hI kw_Mod_359 ⟨Nat.le_of_ble_eq_true rfl, Nat.le_of_ble_eq_true rfl⟩ (mv_Mod E hI) rfl hl.1 rfl (Nat.le_of_ble_eq_true rfl) d_Mod_under_6 (fun v3 α1 H locs e2 h hI => ?_)
  exact mc_iret (w := v3) hx hb hr rfl hlocks E hI h d_Mod_under_9
theorem kw_Mod_551 : kWv "FamilyKernelModel" 551 "FamilyKernelModel" y_Mod_under b_Mod_under 4 (some .int) 3 := ⟨vt_1688, vt_1689, vt_1690, vt_1349, vt_1691, by decide, by decide, by decide +kernel⟩
def f_Mod_chain_20 (N : Nat)  : Nat → Int32 → Int32 → Int32 → Int32 → mS → Option (kO × mS)
  | 0, _, _, _, _, _ => none
  | n + 1, x5_20, x4_20, x1_20, x2_20, β20 => if x5_20 < x2_20 then (some (some (some x4_20), (mSi β20 30 x2_20))) else (if x5_20 < 0 ∨ 9000 ≤ (x5_20 : Int32).toNatClampNeg then none else (if (β20.2 41 (x5_20 : Int32).toNatClampNeg) < 0 ∨ 66000 ≤ ((β20.2 41 (x5_20 : Int32).toNatClampNeg) : Int32).toNatClampNeg then none else (mBi (f_Mod_under N (β20.2 32 ((β20.2 41 (x5_20 : Int32).toNatClampNeg) : Int32).toNatClampNeg) x2_20 x5_20 β20) fun v9 α7 => (mBi (f_Mod_node N x1_20 v9 x4_20 0 α7) fun v12 α10 => (if v12 < 0 ∨ 400000 ≤ (v12 : Int32).toNatClampNeg then none else (if (α10.2 6 (v12 : Int32).toNatClampNeg) ≤ 100000 then (f_Mod_chain_20 N n (x5_20 + (-1)) v12 x1_20 x2_20 α10) else (some (none, (mTh α10 10 (-1))))))))))
def f_Mod_chain (N : Nat) (a1 : Int32) (a2 : Int32) (a3 : Int32) (α : mS) : Option (kO × mS) := mBi (f_Mod_under N a3 a2 (α.1 30) α) fun v3 α1 => (f_Mod_chain_20 N N ((α1.1 30) - 1) v3 a1 a2 α1)
set_option maxHeartbeats 4000000 in
set_option maxRecDepth 100000 in
theorem k_Mod_chain {l : Launch} {g : mG} {α : mS} (N : Nat) (a1 : Int32) (a2 : Int32) (a3 : Int32)  : ∀ x, f_Mod_chain N a1 a2 a3 α = some x → mC l g y_Mod_chain b_Mod_chain 6 (some .int) (849) (23805) [.ref (mad g 0), .int a1, .int a2, .int a3] α (mQr x) := by
  intro x h
  unfold f_Mod_chain at h
  refine mc_ofW (by decide) (fun A p e s m args below meth c S hr hlocks hno hargs E hI => ?_)
  have hx := S.1
  have hb := S.2.1
  have hown := S.2.2.2.1
  have hT := S.2.2.2.2
  subst hargs
  have hl := lv_entry ([.ref (mad g 0), .int a1, .int a2, .int a3]) (n := 6) (Nat.le_of_ble_eq_true rfl)
  rw [lg_entry_eq]
  generalize (lg_sl ([.ref (mad g 0), .int a1, .int a2, .int a3]) ++ List.replicate (6 - (lg_sl ([.ref (mad g 0), .int a1, .int a2, .int a3])).length) Slot.unset).toArray = ls at hl ⊢
  have hl : lv_has ls 6 [(0, .ref (mad g 0)), (1, .int a1), (2, .int a2), (3, .int a3)] := hl
  refine lv_aload_n hx hb d_Mod_chain_0 rfl (lv_at hl 0 rfl) ?_
  refine lv_iload_n hx hb d_Mod_chain_1 rfl (lv_at hl 3 rfl) ?_
  refine lv_iload_n hx hb d_Mod_chain_2 rfl (lv_at hl 2 rfl) ?_
  refine lv_aload_n hx hb d_Mod_chain_3 rfl (lv_at hl 0 rfl) ?_
  refine mf_listed S E hI vt_1341 d_Mod_chain_4 ?_
  refine mg_cI (As := [.int a3, .int a2, .int (α.1 30)]) (rest := []) h (k_Mod_under (l := l) (g := g) (α := α) N a3 a2 (α.1 30)) S hlocks hno E hI kw_Mod_551 ⟨Nat.le_of_ble_eq_true rfl, Nat.le_of_ble_eq_true rfl⟩ (mv_Mod E hI) rfl hl.1 rfl (Nat.le_of_ble_eq_true rfl) d_Mod_chain_7 (fun v3 α1 H locs e2 h hI => ?_)
  refine lv_istore (lv' := [(4, .int v3), (0, .ref (mad g 0)), (1, .int a1), (2, .int a2), (3, .int a3)]) hx hb d_Mod_chain_10 hl (by decide) rfl (fun ls hl => ?_)
  refine lv_aload_n hx hb d_Mod_chain_12 rfl (lv_at hl 1 rfl) ?_
  refine mf_listed S E hI vt_1341 d_Mod_chain_13 ?_
  refine lv_iconst (v := 1) hx hb d_Mod_chain_16 (by decide) ?_
  refine lv_isub hx hb d_Mod_chain_17 ?_
  refine lv_istore (lv' := [(5, .int ((α1.1 30) - 1)), (4, .int v3), (0, .ref (mad g 0)), (1, .int a1), (2, .int a2), (3, .int a3)]) hx hb d_Mod_chain_18 hl (by decide) rfl (fun ls hl => ?_)
  have L20 : ∀ (n20 : Nat) (x5_20 : Int32) (x4_20 : Int32) (x1_20 : Int32) (x2_20 : Int32) (β20 : mS) (H : Heap) (locs : List Loc) (ls : Array Slot), f_Mod_chain_20 N n20 x5_20 x4_20 x1_20 x2_20 β20 = some x → mI g A s β20 H locs → lv_has ls 6 [(5, .int x5_20), (4, .int x4_20), (0, .ref (mad g 0)), (1, .int x1_20), (2, .int x2_20)] → W p l e (mR (849) (23805)) s m ([.ref (mad g 0), .int a1, .int a2, .int a3]).toArray below meth c H locs 0 0 (vEQ below (mQ g A (mQr x)) ([.ref (mad g 0), .int a1, .int a2, .int a3]).toArray s A) (F0 m 20 ls []) := by
    intro n20
    induction n20 with
    | zero => intro x5_20 x4_20 x1_20 x2_20 β20 H locs ls h hI hl; rw [f_Mod_chain_20] at h; cases h
    | succ n20 ih20 =>
      intro x5_20 x4_20 x1_20 x2_20 β20 H locs ls h hI hl
      rw [f_Mod_chain_20] at h
      refine lv_iload hx hb d_Mod_chain_20 (lv_at hl 0 rfl) ?_
      refine lv_iload_n hx hb d_Mod_chain_22 rfl (lv_at hl 4 rfl) ?_
      refine lv_icmp_lt (tgt := 80) hx hb d_Mod_chain_23 (by decide) (fun c4 => ?_) (fun c4 => ?_)
      · replace h := Eq.trans (if_pos c4).symm h
        refine lv_aload_n hx hb d_Mod_chain_80 rfl (lv_at hl 2 rfl) ?_
        refine lv_iload_n hx hb d_Mod_chain_81 rfl (lv_at hl 4 rfl) ?_
        refine mp_listed S E hI vt_1341 d_Mod_chain_82 (fun H locs hI => ?_)
        refine lv_iload hx hb d_Mod_chain_85 (lv_at hl 1 rfl) ?_
        exact mc_iret (w := x4_20) hx hb hr rfl hlocks E hI h d_Mod_chain_87
      · replace h := Eq.trans (if_neg c4).symm h
        refine lv_aload_n hx hb d_Mod_chain_26 rfl (lv_at hl 2 rfl) ?_
        refine lv_iload_n hx hb d_Mod_chain_27 rfl (lv_at hl 3 rfl) ?_
        refine lv_aload_n hx hb d_Mod_chain_28 rfl (lv_at hl 2 rfl) ?_
        refine lv_aload_n hx hb d_Mod_chain_29 rfl (lv_at hl 2 rfl) ?_
        refine mf_typeOfVariable S E hI vt_1325 d_Mod_chain_30 ?_
        refine lv_aload_n hx hb d_Mod_chain_33 rfl (lv_at hl 2 rfl) ?_
        refine mf_list S E hI vt_1340 d_Mod_chain_34 ?_
        refine lv_iload hx hb d_Mod_chain_37 (lv_at hl 0 rfl) ?_
        by_cases c5 : x5_20 < 0 ∨ 9000 ≤ (x5_20 : Int32).toNatClampNeg
        · replace h := Eq.trans (if_pos c5).symm h
          cases h
        · replace h := Eq.trans (if_neg c5).symm h
          refine ml_list S E hI c5 d_Mod_chain_39 ?_
          by_cases c6 : (β20.2 41 (x5_20 : Int32).toNatClampNeg) < 0 ∨ 66000 ≤ ((β20.2 41 (x5_20 : Int32).toNatClampNeg) : Int32).toNatClampNeg
          · replace h := Eq.trans (if_pos c6).symm h
            cases h
          · replace h := Eq.trans (if_neg c6).symm h
            refine ml_typeOfVariable S E hI c6 d_Mod_chain_40 ?_
            refine lv_iload_n hx hb d_Mod_chain_41 rfl (lv_at hl 4 rfl) ?_
            refine lv_iload hx hb d_Mod_chain_42 (lv_at hl 0 rfl) ?_
            refine mg_cI (As := [.int (β20.2 32 ((β20.2 41 (x5_20 : Int32).toNatClampNeg) : Int32).toNatClampNeg), .int x2_20, .int x5_20]) (rest := [.int x1_20, .ref (mad g 0)]) h (k_Mod_under (l := l) (g := g) (α := β20) N (β20.2 32 ((β20.2 41 (x5_20 : Int32).toNatClampNeg) : Int32).toNatClampNeg) x2_20 x5_20) S hlocks hno E hI kw_Mod_551 ⟨Nat.le_of_ble_eq_true rfl, Nat.le_of_ble_eq_true rfl⟩ (mv_Mod E hI) rfl hl.1 rfl (Nat.le_of_ble_eq_true rfl) d_Mod_chain_44 (fun v9 α7 H locs e8 h hI => ?_)
            refine lv_iload hx hb d_Mod_chain_47 (lv_at hl 1 rfl) ?_
            refine lv_iconst (v := 0) hx hb d_Mod_chain_49 (by decide) ?_
            refine mg_cI (As := [.int x1_20, .int v9, .int x4_20, .int 0]) (rest := []) h (k_Mod_node (l := l) (g := g) (α := α7) N x1_20 v9 x4_20 0) S hlocks hno E hI kw_Mod_336 ⟨Nat.le_of_ble_eq_true rfl, Nat.le_of_ble_eq_true rfl⟩ (mv_Mod E hI) rfl hl.1 rfl (Nat.le_of_ble_eq_true rfl) d_Mod_chain_50 (fun v12 α10 H locs e11 h hI => ?_)
            refine lv_istore (lv' := [(4, .int v12), (5, .int x5_20), (0, .ref (mad g 0)), (1, .int x1_20), (2, .int x2_20)]) hx hb d_Mod_chain_53 hl (by decide) rfl (fun ls hl => ?_)
            refine lv_aload_n hx hb d_Mod_chain_55 rfl (lv_at hl 2 rfl) ?_
            refine mf_big S E hI vt_1283 d_Mod_chain_56 ?_
            refine lv_iload hx hb d_Mod_chain_59 (lv_at hl 0 rfl) ?_
            by_cases c13 : v12 < 0 ∨ 400000 ≤ (v12 : Int32).toNatClampNeg
            · replace h := Eq.trans (if_pos c13).symm h
              cases h
            · replace h := Eq.trans (if_neg c13).symm h
              refine ml_big S E hI c13 d_Mod_chain_61 ?_
              refine lv_ldcw (v := 100000) hx hb hown (hT _ vt_1692) d_Mod_chain_62 ?_
              refine lv_icmp_le (tgt := 74) hx hb d_Mod_chain_65 (by decide) (fun c14 => ?_) (fun c14 => ?_)
              · replace h := Eq.trans (if_pos c14).symm h
                refine lv_iinc (v := (x5_20 + (-1))) (lv' := [(5, .int (x5_20 + (-1))), (4, .int v12), (0, .ref (mad g 0)), (1, .int x1_20), (2, .int x2_20)]) hx hb d_Mod_chain_74 hl (k := 1) rfl rfl (by decide) rfl (fun ls hl => ?_)
                refine lv_goto (tgt := 20) hx hb d_Mod_chain_77 (by decide) ?_
                exact ih20 (x5_20 + (-1)) v12 x1_20 x2_20 _ _ _ _ h hI (lv_sub hl [0, 1, 2, 3, 4] rfl)
              · replace h := Eq.trans (if_neg c14).symm h
                refine lv_bipush (v := 10) hx hb d_Mod_chain_68 (by decide) ?_
                refine mg_fails S E hI kw_Mod_323 hl.1 ⟨Nat.le_of_ble_eq_true rfl, Nat.le_of_ble_eq_true rfl⟩ (Nat.le_of_ble_eq_true rfl) d_Mod_chain_70 (fun q H locs hN => ?_)
                exact mg_athrow S hlocks hno E hN h d_Mod_chain_73
  exact L20 N ((α1.1 30) - 1) v3 a1 a2 _ _ _ _ h hI (lv_sub hl [0, 1, 2, 3, 4] rfl)
theorem kw_Mod_437 : kWv "FamilyKernelModel" 437 "FamilyKernelModel" y_Mod_back b_Mod_back 3 (some .int) 2 := ⟨vt_1604, vt_1605, vt_1606, vt_1349, vt_1607, by decide, by decide, by decide +kernel⟩
def f_Mod_close (N : Nat) (a1 : Int32) (a2 : Int32) (α : mS) : Option (kO × mS) := mBi (f_Mod_back N a1 a2 α) fun v3 α1 => (mBi (f_Mod_fits N v3 α1) fun v6 α4 => (if v6 < 0 ∨ 400000 ≤ (v6 : Int32).toNatClampNeg then none else (mBv (f_Mod_costs N (α4.2 6 (v6 : Int32).toNatClampNeg) α4) fun α8 => (some (some (some v6), α8)))))
set_option maxHeartbeats 4000000 in
set_option maxRecDepth 100000 in
theorem k_Mod_close {l : Launch} {g : mG} {α : mS} (N : Nat) (a1 : Int32) (a2 : Int32)  : ∀ x, f_Mod_close N a1 a2 α = some x → mC l g y_Mod_close b_Mod_close 4 (some .int) (849) (23804) [.ref (mad g 0), .int a1, .int a2] α (mQr x) := by
  intro x h
  unfold f_Mod_close at h
  refine mc_ofW (by decide) (fun A p e s m args below meth c S hr hlocks hno hargs E hI => ?_)
  have hx := S.1
  have hb := S.2.1
  have hown := S.2.2.2.1
  have hT := S.2.2.2.2
  subst hargs
  have hl := lv_entry ([.ref (mad g 0), .int a1, .int a2]) (n := 4) (Nat.le_of_ble_eq_true rfl)
  rw [lg_entry_eq]
  generalize (lg_sl ([.ref (mad g 0), .int a1, .int a2]) ++ List.replicate (4 - (lg_sl ([.ref (mad g 0), .int a1, .int a2])).length) Slot.unset).toArray = ls at hl ⊢
  have hl : lv_has ls 4 [(0, .ref (mad g 0)), (1, .int a1), (2, .int a2)] := hl
  refine lv_aload_n hx hb d_Mod_close_0 rfl (lv_at hl 0 rfl) ?_
  refine lv_aload_n hx hb d_Mod_close_1 rfl (lv_at hl 0 rfl) ?_
  refine lv_iload_n hx hb d_Mod_close_2 rfl (lv_at hl 1 rfl) ?_
  refine lv_iload_n hx hb d_Mod_close_3 rfl (lv_at hl 2 rfl) ?_
  refine mg_cI (As := [.int a1, .int a2]) (rest := [.ref (mad g 0)]) h (k_Mod_back (l := l) (g := g) (α := α) N a1 a2) S hlocks hno E hI kw_Mod_437 ⟨Nat.le_of_ble_eq_true rfl, Nat.le_of_ble_eq_true rfl⟩ (mv_Mod E hI) rfl hl.1 rfl (Nat.le_of_ble_eq_true rfl) d_Mod_close_4 (fun v3 α1 H locs e2 h hI => ?_)
  refine mg_cI (As := [.int v3]) (rest := []) h (k_Mod_fits (l := l) (g := g) (α := α1) N v3) S hlocks hno E hI kw_Mod_402 ⟨Nat.le_of_ble_eq_true rfl, Nat.le_of_ble_eq_true rfl⟩ (mv_Mod E hI) rfl hl.1 rfl (Nat.le_of_ble_eq_true rfl) d_Mod_close_7 (fun v6 α4 H locs e5 h hI => ?_)
  refine lv_istore_n (lv' := [(3, .int v6), (0, .ref (mad g 0)), (1, .int a1), (2, .int a2)]) hx hb d_Mod_close_10 rfl hl (by decide) rfl (fun ls hl => ?_)
  refine lv_aload_n hx hb d_Mod_close_11 rfl (lv_at hl 1 rfl) ?_
  refine lv_aload_n hx hb d_Mod_close_12 rfl (lv_at hl 1 rfl) ?_
  refine mf_big S E hI vt_1283 d_Mod_close_13 ?_
  refine lv_iload_n hx hb d_Mod_close_16 rfl (lv_at hl 0 rfl) ?_
  by_cases c7 : v6 < 0 ∨ 400000 ≤ (v6 : Int32).toNatClampNeg
  · replace h := Eq.trans (if_pos c7).symm h
    cases h
  · replace h := Eq.trans (if_neg c7).symm h
    refine ml_big S E hI c7 d_Mod_close_17 ?_
    refine mg_cV (As := [.int (α4.2 6 (v6 : Int32).toNatClampNeg)]) (rest := []) h (k_Mod_costs (l := l) (g := g) (α := α4) N (α4.2 6 (v6 : Int32).toNatClampNeg)) S hlocks hno E hI kw_Mod_434 ⟨Nat.le_of_ble_eq_true rfl, Nat.le_of_ble_eq_true rfl⟩ (mv_Mod E hI) rfl hl.1 rfl (Nat.le_of_ble_eq_true rfl) d_Mod_close_18 (fun α8 H locs e9 h hI => ?_)
    refine lv_iload_n hx hb d_Mod_close_21 rfl (lv_at hl 0 rfl) ?_
    exact mc_iret (w := v6) hx hb hr rfl hlocks E hI h d_Mod_close_22
