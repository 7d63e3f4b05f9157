def f_Mod_ended_7 (N : Nat)  : Nat → Int32 → mS → Option (kO × mS)
  | 0, _, _ => none
  | n + 1, x2_7, β7 => if x2_7 < 0 ∨ 400000 ≤ (x2_7 : Int32).toNatClampNeg then none else (if (β7.2 2 (x2_7 : Int32).toNatClampNeg) = 6 then (if x2_7 < 0 ∨ 400000 ≤ (x2_7 : Int32).toNatClampNeg then none else (mBi (f_Mod_fresh N (β7.2 3 (x2_7 : Int32).toNatClampNeg) β7) fun v6 α4 => (if v6 < 0 ∨ 400000 ≤ (v6 : Int32).toNatClampNeg then none else (if (α4.1 30) < 0 ∨ 9000 ≤ ((α4.1 30) : Int32).toNatClampNeg then none else (if x2_7 < 0 ∨ 400000 ≤ (x2_7 : Int32).toNatClampNeg then none else (mBi (f_Mod_put N ((mSA (mSi α4 30 ((α4.1 30) + 1)) 41 (upd ((mSi α4 30 ((α4.1 30) + 1)).2 41) ((α4.1 30) : Int32).toNatClampNeg ((mSi α4 30 ((α4.1 30) + 1)).2 3 (v6 : Int32).toNatClampNeg))).2 4 (x2_7 : Int32).toNatClampNeg) v6 (mSA (mSi α4 30 ((α4.1 30) + 1)) 41 (upd ((mSi α4 30 ((α4.1 30) + 1)).2 41) ((α4.1 30) : Int32).toNatClampNeg ((mSi α4 30 ((α4.1 30) + 1)).2 3 (v6 : Int32).toNatClampNeg)))) fun v12 α10 => (f_Mod_ended_7 N n v12 (mSi α10 31 ((α10.1 31) + 1))))))))) else (some (some (some x2_7), β7)))
def f_Mod_ended (N : Nat) (a1 : Int32) (α : mS) : Option (kO × mS) := f_Mod_ended_7 N N a1 (mSi α 31 0)
set_option maxHeartbeats 4000000 in
set_option maxRecDepth 100000 in
theorem k_Mod_ended {l : Launch} {g : mG} {α : mS} (N : Nat) (a1 : Int32)  : ∀ x, f_Mod_ended N a1 α = some x → mC l g y_Mod_ended b_Mod_ended 4 (some .int) (849) (23804) [.ref (mad g 0), .int a1] α (mQr x) := by
  intro x h
  unfold f_Mod_ended at h
  refine mc_ofW (by decide) (fun A p e s m args below meth c S hr hlocks hno hargs E hI => ?_)
  have hx := S.1
  have hb := S.2.1
  have hown := S.2.2.2.1
  have hT := S.2.2.2.2
  subst hargs
  have hl := lv_entry ([.ref (mad g 0), .int a1]) (n := 4) (Nat.le_of_ble_eq_true rfl)
  rw [lg_entry_eq]
  generalize (lg_sl ([.ref (mad g 0), .int a1]) ++ List.replicate (4 - (lg_sl ([.ref (mad g 0), .int a1])).length) Slot.unset).toArray = ls at hl ⊢
  have hl : lv_has ls 4 [(0, .ref (mad g 0)), (1, .int a1)] := hl
  refine lv_iload_n hx hb d_Mod_ended_0 rfl (lv_at hl 1 rfl) ?_
  refine lv_istore_n (lv' := [(2, .int a1), (0, .ref (mad g 0)), (1, .int a1)]) hx hb d_Mod_ended_1 rfl hl (by decide) rfl (fun ls hl => ?_)
  refine lv_aload_n hx hb d_Mod_ended_2 rfl (lv_at hl 1 rfl) ?_
  refine lv_iconst (v := 0) hx hb d_Mod_ended_3 (by decide) ?_
  refine mp_xs S E hI vt_1344 d_Mod_ended_4 (fun H locs hI => ?_)
  have L7 : ∀ (n7 : Nat) (x2_7 : Int32) (β7 : mS) (H : Heap) (locs : List Loc) (ls : Array Slot), f_Mod_ended_7 N n7 x2_7 β7 = some x → mI g A s β7 H locs → lv_has ls 4 [(2, .int x2_7), (0, .ref (mad g 0))] → W p l e (mR (849) (23804)) s m ([.ref (mad g 0), .int a1]).toArray below meth c H locs 0 0 (vEQ below (mQ g A (mQr x)) ([.ref (mad g 0), .int a1]).toArray s A) (F0 m 7 ls []) := by
    intro n7
    induction n7 with
    | zero => intro x2_7 β7 H locs ls h hI hl; rw [f_Mod_ended_7] at h; cases h
    | succ n7 ih7 =>
      intro x2_7 β7 H locs ls h hI hl
      rw [f_Mod_ended_7] at h
      refine lv_aload_n hx hb d_Mod_ended_7 rfl (lv_at hl 1 rfl) ?_
      refine mf_kind S E hI vt_1279 d_Mod_ended_8 ?_
      refine lv_iload_n hx hb d_Mod_ended_11 rfl (lv_at hl 0 rfl) ?_
      by_cases c1 : x2_7 < 0 ∨ 400000 ≤ (x2_7 : Int32).toNatClampNeg
      · replace h := Eq.trans (if_pos c1).symm h
        cases h
      · replace h := Eq.trans (if_neg c1).symm h
        refine ml_kind S E hI c1 d_Mod_ended_12 ?_
        refine lv_bipush (v := 6) hx hb d_Mod_ended_13 (by decide) ?_
        refine lv_icmp_ne (tgt := 76) hx hb d_Mod_ended_15 (by decide) (fun c2 => ?_) (fun c2 => ?_)
        · replace h := Eq.trans (if_neg c2).symm h
          refine lv_iload_n hx hb d_Mod_ended_76 rfl (lv_at hl 0 rfl) ?_
          exact mc_iret (w := x2_7) hx hb hr rfl hlocks E hI h d_Mod_ended_77
        · replace h := Eq.trans (if_pos c2).symm h
          refine lv_aload_n hx hb d_Mod_ended_18 rfl (lv_at hl 1 rfl) ?_
          refine lv_aload_n hx hb d_Mod_ended_19 rfl (lv_at hl 1 rfl) ?_
          refine mf_one S E hI vt_1280 d_Mod_ended_20 ?_
          refine lv_iload_n hx hb d_Mod_ended_23 rfl (lv_at hl 0 rfl) ?_
          by_cases c3 : x2_7 < 0 ∨ 400000 ≤ (x2_7 : Int32).toNatClampNeg
          · replace h := Eq.trans (if_pos c3).symm h
            cases h
          · replace h := Eq.trans (if_neg c3).symm h
            refine ml_one S E hI c3 d_Mod_ended_24 ?_
            refine mg_cI (As := [.int (β7.2 3 (x2_7 : Int32).toNatClampNeg)]) (rest := []) h (k_Mod_fresh (l := l) (g := g) (α := β7) N (β7.2 3 (x2_7 : Int32).toNatClampNeg)) S hlocks hno E hI kw_Mod_468 ⟨Nat.le_of_ble_eq_true rfl, Nat.le_of_ble_eq_true rfl⟩ (mv_Mod E hI) rfl hl.1 rfl (Nat.le_of_ble_eq_true rfl) d_Mod_ended_25 (fun v6 α4 H locs e5 h hI => ?_)
            refine lv_istore_n (lv' := [(3, .int v6), (2, .int x2_7), (0, .ref (mad g 0))]) hx hb d_Mod_ended_28 rfl hl (by decide) rfl (fun ls hl => ?_)
            refine lv_aload_n hx hb d_Mod_ended_29 rfl (lv_at hl 2 rfl) ?_
            refine mf_list S E hI vt_1340 d_Mod_ended_30 ?_
            refine lv_aload_n hx hb d_Mod_ended_33 rfl (lv_at hl 2 rfl) ?_
            refine lv_dup hx hb d_Mod_ended_34 rfl ?_
            refine mf_listed S E hI vt_1341 d_Mod_ended_35 ?_
            refine lv_dup_x1 hx hb d_Mod_ended_38 rfl rfl ?_
            refine lv_iconst (v := 1) hx hb d_Mod_ended_39 (by decide) ?_
            refine lv_iadd hx hb d_Mod_ended_40 ?_
            refine mp_listed S E hI vt_1341 d_Mod_ended_41 (fun H locs hI => ?_)
            refine lv_aload_n hx hb d_Mod_ended_44 rfl (lv_at hl 2 rfl) ?_
            refine mf_one S E hI vt_1280 d_Mod_ended_45 ?_
            refine lv_iload_n hx hb d_Mod_ended_48 rfl (lv_at hl 0 rfl) ?_
            by_cases c7 : v6 < 0 ∨ 400000 ≤ (v6 : Int32).toNatClampNeg
            · replace h := Eq.trans (if_pos c7).symm h
              cases h
            · replace h := Eq.trans (if_neg c7).symm h
              refine ml_one S E hI c7 d_Mod_ended_49 ?_
              by_cases c8 : (α4.1 30) < 0 ∨ 9000 ≤ ((α4.1 30) : Int32).toNatClampNeg
              · replace h := Eq.trans (if_pos c8).symm h
                cases h
              · replace h := Eq.trans (if_neg c8).symm h
                refine ms_list S E hI c8 d_Mod_ended_50 (fun H locs hI => ?_)
                refine lv_aload_n hx hb d_Mod_ended_51 rfl (lv_at hl 2 rfl) ?_
                refine lv_aload_n hx hb d_Mod_ended_52 rfl (lv_at hl 2 rfl) ?_
                refine mf_two S E hI vt_1281 d_Mod_ended_53 ?_
                refine lv_iload_n hx hb d_Mod_ended_56 rfl (lv_at hl 1 rfl) ?_
                by_cases c9 : x2_7 < 0 ∨ 400000 ≤ (x2_7 : Int32).toNatClampNeg
                · replace h := Eq.trans (if_pos c9).symm h
                  cases h
                · replace h := Eq.trans (if_neg c9).symm h
                  refine ml_two S E hI c9 d_Mod_ended_57 ?_
                  refine lv_iload_n hx hb d_Mod_ended_58 rfl (lv_at hl 0 rfl) ?_
                  refine mg_cI (As := [.int ((mSA (mSi α4 30 ((α4.1 30) + 1)) 41 (upd ((mSi α4 30 ((α4.1 30) + 1)).2 41) ((α4.1 30) : Int32).toNatClampNeg ((mSi α4 30 ((α4.1 30) + 1)).2 3 (v6 : Int32).toNatClampNeg))).2 4 (x2_7 : Int32).toNatClampNeg), .int v6]) (rest := []) h (k_Mod_put (l := l) (g := g) (α := (mSA (mSi α4 30 ((α4.1 30) + 1)) 41 (upd ((mSi α4 30 ((α4.1 30) + 1)).2 41) ((α4.1 30) : Int32).toNatClampNeg ((mSi α4 30 ((α4.1 30) + 1)).2 3 (v6 : Int32).toNatClampNeg)))) N ((mSA (mSi α4 30 ((α4.1 30) + 1)) 41 (upd ((mSi α4 30 ((α4.1 30) + 1)).2 41) ((α4.1 30) : Int32).toNatClampNeg ((mSi α4 30 ((α4.1 30) + 1)).2 3 (v6 : Int32).toNatClampNeg))).2 4 (x2_7 : Int32).toNatClampNeg) v6) S hlocks hno E hI kw_Mod_428 ⟨Nat.le_of_ble_eq_true rfl, Nat.le_of_ble_eq_true rfl⟩ (mv_Mod E hI) rfl hl.1 rfl (Nat.le_of_ble_eq_true rfl) d_Mod_ended_59 (fun v12 α10 H locs e11 h hI => ?_)
                  refine lv_istore_n (lv' := [(2, .int v12), (3, .int v6), (0, .ref (mad g 0))]) hx hb d_Mod_ended_62 rfl hl (by decide) rfl (fun ls hl => ?_)
                  refine lv_aload_n hx hb d_Mod_ended_63 rfl (lv_at hl 2 rfl) ?_
                  refine lv_dup hx hb d_Mod_ended_64 rfl ?_
                  refine mf_xs S E hI vt_1344 d_Mod_ended_65 ?_
                  refine lv_iconst (v := 1) hx hb d_Mod_ended_68 (by decide) ?_
                  refine lv_iadd hx hb d_Mod_ended_69 ?_
                  refine mp_xs S E hI vt_1344 d_Mod_ended_70 (fun H locs hI => ?_)
                  refine lv_goto (tgt := 7) hx hb d_Mod_ended_73 (by decide) ?_
                  exact ih7 v12 _ _ _ _ h hI (lv_sub hl [0, 2] rfl)
  exact L7 N a1 _ _ _ _ h hI (lv_sub hl [0, 1] rfl)
def f_Mod_applied2_16 (N : Nat)  : Nat → Int32 → Int32 → mS → Option (kO × mS)
  | 0, _, _, _ => none
  | n + 1, x3_16, x2_16, β16 => if (β16.1 30) ≤ x3_16 then (some (some (some x2_16), β16)) else (if x3_16 < 0 ∨ 9000 ≤ (x3_16 : Int32).toNatClampNeg then none else (mBi (f_Mod_free N (β16.2 41 (x3_16 : Int32).toNatClampNeg) β16) fun v8 α6 => (mBi (f_Mod_apply N x2_16 v8 α6) fun v11 α9 => (f_Mod_applied2_16 N n (x3_16 + 1) v11 α9))))
def f_Mod_applied2 (N : Nat) (a1 : Int32) (α : mS) : Option (kO × mS) := mBi (f_Mod_free N a1 α) fun v3 α1 => (f_Mod_applied2_16 N N ((α1.1 30) - (α1.1 31)) v3 α1)
set_option maxHeartbeats 4000000 in
set_option maxRecDepth 100000 in
theorem k_Mod_applied2 {l : Launch} {g : mG} {α : mS} (N : Nat) (a1 : Int32)  : ∀ x, f_Mod_applied2 N a1 α = some x → mC l g y_Mod_applied2 b_Mod_applied2 4 (some .int) (45) (1307) [.ref (mad g 0), .int a1] α (mQr x) := by
  intro x h
  unfold f_Mod_applied2 at h
  refine mc_ofW (by decide) (fun A p e s m args below meth c S hr hlocks hno hargs E hI => ?_)
  have hx := S.1
  have hb := S.2.1
  have hown := S.2.2.2.1
  have hT := S.2.2.2.2
  subst hargs
  have hl := lv_entry ([.ref (mad g 0), .int a1]) (n := 4) (Nat.le_of_ble_eq_true rfl)
  rw [lg_entry_eq]
  generalize (lg_sl ([.ref (mad g 0), .int a1]) ++ List.replicate (4 - (lg_sl ([.ref (mad g 0), .int a1])).length) Slot.unset).toArray = ls at hl ⊢
  have hl : lv_has ls 4 [(0, .ref (mad g 0)), (1, .int a1)] := hl
  refine lv_aload_n hx hb d_Mod_applied2_0 rfl (lv_at hl 0 rfl) ?_
  refine lv_iload_n hx hb d_Mod_applied2_1 rfl (lv_at hl 1 rfl) ?_
  refine mg_cI (As := [.int a1]) (rest := []) h (k_Mod_free (l := l) (g := g) (α := α) N a1) S hlocks hno E hI kw_Mod_353 ⟨Nat.le_of_ble_eq_true rfl, Nat.le_of_ble_eq_true rfl⟩ (mv_Mod E hI) rfl hl.1 rfl (Nat.le_of_ble_eq_true rfl) d_Mod_applied2_2 (fun v3 α1 H locs e2 h hI => ?_)
  refine lv_istore_n (lv' := [(2, .int v3), (0, .ref (mad g 0)), (1, .int a1)]) hx hb d_Mod_applied2_5 rfl hl (by decide) rfl (fun ls hl => ?_)
  refine lv_aload_n hx hb d_Mod_applied2_6 rfl (lv_at hl 1 rfl) ?_
  refine mf_listed S E hI vt_1341 d_Mod_applied2_7 ?_
  refine lv_aload_n hx hb d_Mod_applied2_10 rfl (lv_at hl 1 rfl) ?_
  refine mf_xs S E hI vt_1344 d_Mod_applied2_11 ?_
  refine lv_isub hx hb d_Mod_applied2_14 ?_
  refine lv_istore_n (lv' := [(3, .int ((α1.1 30) - (α1.1 31))), (2, .int v3), (0, .ref (mad g 0)), (1, .int a1)]) hx hb d_Mod_applied2_15 rfl hl (by decide) rfl (fun ls hl => ?_)
  have L16 : ∀ (n16 : Nat) (x3_16 : Int32) (x2_16 : Int32) (β16 : mS) (H : Heap) (locs : List Loc) (ls : Array Slot), f_Mod_applied2_16 N n16 x3_16 x2_16 β16 = some x → mI g A s β16 H locs → lv_has ls 4 [(3, .int x3_16), (2, .int x2_16), (0, .ref (mad g 0))] → W p l e (mR (45) (1307)) s m ([.ref (mad g 0), .int a1]).toArray below meth c H locs 0 0 (vEQ below (mQ g A (mQr x)) ([.ref (mad g 0), .int a1]).toArray s A) (F0 m 16 ls []) := by
    intro n16
    induction n16 with
    | zero => intro x3_16 x2_16 β16 H locs ls h hI hl; rw [f_Mod_applied2_16] at h; cases h
    | succ n16 ih16 =>
      intro x3_16 x2_16 β16 H locs ls h hI hl
      rw [f_Mod_applied2_16] at h
      refine lv_iload_n hx hb d_Mod_applied2_16 rfl (lv_at hl 0 rfl) ?_
      refine lv_aload_n hx hb d_Mod_applied2_17 rfl (lv_at hl 2 rfl) ?_
      refine mf_listed S E hI vt_1341 d_Mod_applied2_18 ?_
      refine lv_icmp_ge (tgt := 46) hx hb d_Mod_applied2_21 (by decide) (fun c4 => ?_) (fun c4 => ?_)
      · replace h := Eq.trans (if_pos c4).symm h
        refine lv_iload_n hx hb d_Mod_applied2_46 rfl (lv_at hl 1 rfl) ?_
        exact mc_iret (w := x2_16) hx hb hr rfl hlocks E hI h d_Mod_applied2_47
      · replace h := Eq.trans (if_neg c4).symm h
        refine lv_aload_n hx hb d_Mod_applied2_24 rfl (lv_at hl 2 rfl) ?_
        refine lv_iload_n hx hb d_Mod_applied2_25 rfl (lv_at hl 1 rfl) ?_
        refine lv_aload_n hx hb d_Mod_applied2_26 rfl (lv_at hl 2 rfl) ?_
        refine lv_aload_n hx hb d_Mod_applied2_27 rfl (lv_at hl 2 rfl) ?_
        refine mf_list S E hI vt_1340 d_Mod_applied2_28 ?_
        refine lv_iload_n hx hb d_Mod_applied2_31 rfl (lv_at hl 0 rfl) ?_
        by_cases c5 : x3_16 < 0 ∨ 9000 ≤ (x3_16 : Int32).toNatClampNeg
        · replace h := Eq.trans (if_pos c5).symm h
          cases h
        · replace h := Eq.trans (if_neg c5).symm h
          refine ml_list S E hI c5 d_Mod_applied2_32 ?_
          refine mg_cI (As := [.int (β16.2 41 (x3_16 : Int32).toNatClampNeg)]) (rest := [.int x2_16, .ref (mad g 0)]) h (k_Mod_free (l := l) (g := g) (α := β16) N (β16.2 41 (x3_16 : Int32).toNatClampNeg)) S hlocks hno E hI kw_Mod_353 ⟨Nat.le_of_ble_eq_true rfl, Nat.le_of_ble_eq_true rfl⟩ (mv_Mod E hI) rfl hl.1 rfl (Nat.le_of_ble_eq_true rfl) d_Mod_applied2_33 (fun v8 α6 H locs e7 h hI => ?_)
          refine mg_cI (As := [.int x2_16, .int v8]) (rest := []) h (k_Mod_apply (l := l) (g := g) (α := α6) N x2_16 v8) S hlocks hno E hI kw_Mod_350 ⟨Nat.le_of_ble_eq_true rfl, Nat.le_of_ble_eq_true rfl⟩ (mv_Mod E hI) rfl hl.1 rfl (Nat.le_of_ble_eq_true rfl) d_Mod_applied2_36 (fun v11 α9 H locs e10 h hI => ?_)
          refine lv_istore_n (lv' := [(2, .int v11), (3, .int x3_16), (0, .ref (mad g 0))]) hx hb d_Mod_applied2_39 rfl hl (by decide) rfl (fun ls hl => ?_)
          refine lv_iinc (v := (x3_16 + 1)) (lv' := [(3, .int (x3_16 + 1)), (2, .int v11), (0, .ref (mad g 0))]) hx hb d_Mod_applied2_40 hl (k := 1) rfl rfl (by decide) rfl (fun ls hl => ?_)
          refine lv_goto (tgt := 16) hx hb d_Mod_applied2_43 (by decide) ?_
          exact ih16 (x3_16 + 1) v11 _ _ _ _ h hI (lv_sub hl [0, 1, 2] rfl)
  exact L16 N ((α1.1 30) - (α1.1 31)) v3 _ _ _ _ h hI (lv_sub hl [0, 1, 2] rfl)
theorem kw_Mod_551 : kWv "FamilyKernelModel" 551 "FamilyKernelModel" y_Mod_under b_Mod_under 4 (some .int) 3 := ⟨vt_1688, vt_1689, vt_1690, vt_1349, vt_1691, by decide, by decide, by decide +kernel⟩
def f_Mod_chain_20 (N : Nat)  : Nat → Int32 → Int32 → Int32 → Int32 → mS → Option (kO × mS)
  | 0, _, _, _, _, _ => none
  | n + 1, x5_20, x4_20, x1_20, x2_20, β20 => if x5_20 < x2_20 then (some (some (some x4_20), (mSi β20 30 x2_20))) else (if x5_20 < 0 ∨ 9000 ≤ (x5_20 : Int32).toNatClampNeg then none else (if (β20.2 41 (x5_20 : Int32).toNatClampNeg) < 0 ∨ 66000 ≤ ((β20.2 41 (x5_20 : Int32).toNatClampNeg) : Int32).toNatClampNeg then none else (mBi (f_Mod_under N (β20.2 32 ((β20.2 41 (x5_20 : Int32).toNatClampNeg) : Int32).toNatClampNeg) x2_20 x5_20 β20) fun v9 α7 => (mBi (f_Mod_node N x1_20 v9 x4_20 0 α7) fun v12 α10 => (if v12 < 0 ∨ 400000 ≤ (v12 : Int32).toNatClampNeg then none else (if (α10.2 6 (v12 : Int32).toNatClampNeg) ≤ 100000 then (f_Mod_chain_20 N n (x5_20 + (-1)) v12 x1_20 x2_20 α10) else (some (none, α10))))))))
def f_Mod_chain (N : Nat) (a1 : Int32) (a2 : Int32) (a3 : Int32) (α : mS) : Option (kO × mS) := mBi (f_Mod_under N a3 a2 (α.1 30) α) fun v3 α1 => (f_Mod_chain_20 N N ((α1.1 30) - 1) v3 a1 a2 α1)
set_option maxHeartbeats 4000000 in
set_option maxRecDepth 100000 in
theorem k_Mod_chain {l : Launch} {g : mG} {α : mS} (N : Nat) (a1 : Int32) (a2 : Int32) (a3 : Int32)  : ∀ x, f_Mod_chain N a1 a2 a3 α = some x → mC l g y_Mod_chain b_Mod_chain 6 (some .int) (849) (23805) [.ref (mad g 0), .int a1, .int a2, .int a3] α (mQr x) := by
  intro x h
  unfold f_Mod_chain at h
  refine mc_ofW (by decide) (fun A p e s m args below meth c S hr hlocks hno hargs E hI => ?_)
  have hx := S.1
  have hb := S.2.1
  have hown := S.2.2.2.1
  have hT := S.2.2.2.2
  subst hargs
  have hl := lv_entry ([.ref (mad g 0), .int a1, .int a2, .int a3]) (n := 6) (Nat.le_of_ble_eq_true rfl)
  rw [lg_entry_eq]
  generalize (lg_sl ([.ref (mad g 0), .int a1, .int a2, .int a3]) ++ List.replicate (6 - (lg_sl ([.ref (mad g 0), .int a1, .int a2, .int a3])).length) Slot.unset).toArray = ls at hl ⊢
  have hl : lv_has ls 6 [(0, .ref (mad g 0)), (1, .int a1), (2, .int a2), (3, .int a3)] := hl
  refine lv_aload_n hx hb d_Mod_chain_0 rfl (lv_at hl 0 rfl) ?_
  refine lv_iload_n hx hb d_Mod_chain_1 rfl (lv_at hl 3 rfl) ?_
  refine lv_iload_n hx hb d_Mod_chain_2 rfl (lv_at hl 2 rfl) ?_
  refine lv_aload_n hx hb d_Mod_chain_3 rfl (lv_at hl 0 rfl) ?_
  refine mf_listed S E hI vt_1341 d_Mod_chain_4 ?_
  refine mg_cI (As := [.int a3, .int a2, .int (α.1 30)]) (rest := []) h (k_Mod_under (l := l) (g := g) (α := α) N a3 a2 (α.1 30)) S hlocks hno E hI kw_Mod_551 ⟨Nat.le_of_ble_eq_true rfl, Nat.le_of_ble_eq_true rfl⟩ (mv_Mod E hI) rfl hl.1 rfl (Nat.le_of_ble_eq_true rfl) d_Mod_chain_7 (fun v3 α1 H locs e2 h hI => ?_)
  refine lv_istore (lv' := [(4, .int v3), (0, .ref (mad g 0)), (1, .int a1), (2, .int a2), (3, .int a3)]) hx hb d_Mod_chain_10 hl (by decide) rfl (fun ls hl => ?_)
  refine lv_aload_n hx hb d_Mod_chain_12 rfl (lv_at hl 1 rfl) ?_
  refine mf_listed S E hI vt_1341 d_Mod_chain_13 ?_
  refine lv_iconst (v := 1) hx hb d_Mod_chain_16 (by decide) ?_
  refine lv_isub hx hb d_Mod_chain_17 ?_
  refine lv_istore (lv' := [(5, .int ((α1.1 30) - 1)), (4, .int v3), (0, .ref (mad g 0)), (1, .int a1), (2, .int a2), (3, .int a3)]) hx hb d_Mod_chain_18 hl (by decide) rfl (fun ls hl => ?_)
  have L20 : ∀ (n20 : Nat) (x5_20 : Int32) (x4_20 : Int32) (x1_20 : Int32) (x2_20 : Int32) (β20 : mS) (H : Heap) (locs : List Loc) (ls : Array Slot), f_Mod_chain_20 N n20 x5_20 x4_20 x1_20 x2_20 β20 = some x → mI g A s β20 H locs → lv_has ls 6 [(5, .int x5_20), (4, .int x4_20), (0, .ref (mad g 0)), (1, .int x1_20), (2, .int x2_20)] → W p l e (mR (849) (23805)) s m ([.ref (mad g 0), .int a1, .int a2, .int a3]).toArray below meth c H locs 0 0 (vEQ below (mQ g A (mQr x)) ([.ref (mad g 0), .int a1, .int a2, .int a3]).toArray s A) (F0 m 20 ls []) := by
    intro n20
    induction n20 with
    | zero => intro x5_20 x4_20 x1_20 x2_20 β20 H locs ls h hI hl; rw [f_Mod_chain_20] at h; cases h
    | succ n20 ih20 =>
      intro x5_20 x4_20 x1_20 x2_20 β20 H locs ls h hI hl
      rw [f_Mod_chain_20] at h
      refine lv_iload hx hb d_Mod_chain_20 (lv_at hl 0 rfl) ?_
      refine lv_iload_n hx hb d_Mod_chain_22 rfl (lv_at hl 4 rfl) ?_
      refine lv_icmp_lt (tgt := 80) hx hb d_Mod_chain_23 (by decide) (fun c4 => ?_) (fun c4 => ?_)
      · replace h := Eq.trans (if_pos c4).symm h
        refine lv_aload_n hx hb d_Mod_chain_80 rfl (lv_at hl 2 rfl) ?_
        refine lv_iload_n hx hb d_Mod_chain_81 rfl (lv_at hl 4 rfl) ?_
        refine mp_listed S E hI vt_1341 d_Mod_chain_82 (fun H locs hI => ?_)
        refine lv_iload hx hb d_Mod_chain_85 (lv_at hl 1 rfl) ?_
        exact mc_iret (w := x4_20) hx hb hr rfl hlocks E hI h d_Mod_chain_87
      · replace h := Eq.trans (if_neg c4).symm h
        refine lv_aload_n hx hb d_Mod_chain_26 rfl (lv_at hl 2 rfl) ?_
        refine lv_iload_n hx hb d_Mod_chain_27 rfl (lv_at hl 3 rfl) ?_
        refine lv_aload_n hx hb d_Mod_chain_28 rfl (lv_at hl 2 rfl) ?_
        refine lv_aload_n hx hb d_Mod_chain_29 rfl (lv_at hl 2 rfl) ?_
        refine mf_typeOfVariable S E hI vt_1325 d_Mod_chain_30 ?_
        refine lv_aload_n hx hb d_Mod_chain_33 rfl (lv_at hl 2 rfl) ?_
        refine mf_list S E hI vt_1340 d_Mod_chain_34 ?_
        refine lv_iload hx hb d_Mod_chain_37 (lv_at hl 0 rfl) ?_
        by_cases c5 : x5_20 < 0 ∨ 9000 ≤ (x5_20 : Int32).toNatClampNeg
        · replace h := Eq.trans (if_pos c5).symm h
          cases h
        · replace h := Eq.trans (if_neg c5).symm h
          refine ml_list S E hI c5 d_Mod_chain_39 ?_
          by_cases c6 : (β20.2 41 (x5_20 : Int32).toNatClampNeg) < 0 ∨ 66000 ≤ ((β20.2 41 (x5_20 : Int32).toNatClampNeg) : Int32).toNatClampNeg
          · replace h := Eq.trans (if_pos c6).symm h
            cases h
          · replace h := Eq.trans (if_neg c6).symm h
            refine ml_typeOfVariable S E hI c6 d_Mod_chain_40 ?_
            refine lv_iload_n hx hb d_Mod_chain_41 rfl (lv_at hl 4 rfl) ?_
            refine lv_iload hx hb d_Mod_chain_42 (lv_at hl 0 rfl) ?_
            refine mg_cI (As := [.int (β20.2 32 ((β20.2 41 (x5_20 : Int32).toNatClampNeg) : Int32).toNatClampNeg), .int x2_20, .int x5_20]) (rest := [.int x1_20, .ref (mad g 0)]) h (k_Mod_under (l := l) (g := g) (α := β20) N (β20.2 32 ((β20.2 41 (x5_20 : Int32).toNatClampNeg) : Int32).toNatClampNeg) x2_20 x5_20) S hlocks hno E hI kw_Mod_551 ⟨Nat.le_of_ble_eq_true rfl, Nat.le_of_ble_eq_true rfl⟩ (mv_Mod E hI) rfl hl.1 rfl (Nat.le_of_ble_eq_true rfl) d_Mod_chain_44 (fun v9 α7 H locs e8 h hI => ?_)
            refine lv_iload hx hb d_Mod_chain_47 (lv_at hl 1 rfl) ?_
            refine lv_iconst (v := 0) hx hb d_Mod_chain_49 (by decide) ?_
            refine mg_cI (As := [.int x1_20, .int v9, .int x4_20, .int 0]) (rest := []) h (k_Mod_node (l := l) (g := g) (α := α7) N x1_20 v9 x4_20 0) S hlocks hno E hI kw_Mod_336 ⟨Nat.le_of_ble_eq_true rfl, Nat.le_of_ble_eq_true rfl⟩ (mv_Mod E hI) rfl hl.1 rfl (Nat.le_of_ble_eq_true rfl) d_Mod_chain_50 (fun v12 α10 H locs e11 h hI => ?_)
            refine lv_istore (lv' := [(4, .int v12), (5, .int x5_20), (0, .ref (mad g 0)), (1, .int x1_20), (2, .int x2_20)]) hx hb d_Mod_chain_53 hl (by decide) rfl (fun ls hl => ?_)
            refine lv_aload_n hx hb d_Mod_chain_55 rfl (lv_at hl 2 rfl) ?_
            refine mf_big S E hI vt_1283 d_Mod_chain_56 ?_
            refine lv_iload hx hb d_Mod_chain_59 (lv_at hl 0 rfl) ?_
            by_cases c13 : v12 < 0 ∨ 400000 ≤ (v12 : Int32).toNatClampNeg
            · replace h := Eq.trans (if_pos c13).symm h
              cases h
            · replace h := Eq.trans (if_neg c13).symm h
              refine ml_big S E hI c13 d_Mod_chain_61 ?_
              refine lv_ldcw (v := 100000) hx hb hown (hT _ vt_1692) d_Mod_chain_62 ?_
              refine lv_icmp_le (tgt := 74) hx hb d_Mod_chain_65 (by decide) (fun c14 => ?_) (fun c14 => ?_)
              · replace h := Eq.trans (if_pos c14).symm h
                refine lv_iinc (v := (x5_20 + (-1))) (lv' := [(5, .int (x5_20 + (-1))), (4, .int v12), (0, .ref (mad g 0)), (1, .int x1_20), (2, .int x2_20)]) hx hb d_Mod_chain_74 hl (k := 1) rfl rfl (by decide) rfl (fun ls hl => ?_)
                refine lv_goto (tgt := 20) hx hb d_Mod_chain_77 (by decide) ?_
                exact ih20 (x5_20 + (-1)) v12 x1_20 x2_20 _ _ _ _ h hI (lv_sub hl [0, 1, 2, 3, 4] rfl)
              · replace h := Eq.trans (if_neg c14).symm h
                refine lv_bipush (v := 10) hx hb d_Mod_chain_68 (by decide) ?_
                refine mg_fails S E hI kw_Mod_323 hl.1 ⟨Nat.le_of_ble_eq_true rfl, Nat.le_of_ble_eq_true rfl⟩ (Nat.le_of_ble_eq_true rfl) d_Mod_chain_70 (fun q H locs hN => ?_)
                exact mg_athrow S hlocks hno E hN h d_Mod_chain_73
  exact L20 N ((α1.1 30) - 1) v3 a1 a2 _ _ _ _ h hI (lv_sub hl [0, 1, 2, 3, 4] rfl)
def f_Mod_of_6 (N : Nat)  : Nat → Int32 → Int32 → Int32 → Int32 → mS → Option (kO × mS)
  | 0, _, _, _, _, _ => none
  | n + 1, x5_6, x4_6, x2_6, x3_6, β6 => if x3_6 ≤ x5_6 then (some (some (some x4_6), β6)) else (if (x2_6 + x5_6) < 0 ∨ 5000 ≤ ((x2_6 + x5_6) : Int32).toNatClampNeg then none else (mBi (f_Mod_free N (β6.2 33 ((x2_6 + x5_6) : Int32).toNatClampNeg) β6) fun v5 α3 => (mBi (f_Mod_apply N x4_6 v5 α3) fun v8 α6 => (f_Mod_of_6 N n (x5_6 + 1) v8 x2_6 x3_6 α6))))
def f_Mod_of (N : Nat) (a1 : Int32) (a2 : Int32) (a3 : Int32) (α : mS) : Option (kO × mS) := f_Mod_of_6 N N 0 a1 a2 a3 α
set_option maxHeartbeats 4000000 in
set_option maxRecDepth 100000 in
theorem k_Mod_of {l : Launch} {g : mG} {α : mS} (N : Nat) (a1 : Int32) (a2 : Int32) (a3 : Int32)  : ∀ x, f_Mod_of N a1 a2 a3 α = some x → mC l g y_Mod_of b_Mod_of 6 (some .int) (45) (1307) [.ref (mad g 0), .int a1, .int a2, .int a3] α (mQr x) := by
  intro x h
  unfold f_Mod_of at h
  refine mc_ofW (by decide) (fun A p e s m args below meth c S hr hlocks hno hargs E hI => ?_)
  have hx := S.1
  have hb := S.2.1
  have hown := S.2.2.2.1
  have hT := S.2.2.2.2
  subst hargs
  have hl := lv_entry ([.ref (mad g 0), .int a1, .int a2, .int a3]) (n := 6) (Nat.le_of_ble_eq_true rfl)
  rw [lg_entry_eq]
  generalize (lg_sl ([.ref (mad g 0), .int a1, .int a2, .int a3]) ++ List.replicate (6 - (lg_sl ([.ref (mad g 0), .int a1, .int a2, .int a3])).length) Slot.unset).toArray = ls at hl ⊢
  have hl : lv_has ls 6 [(0, .ref (mad g 0)), (1, .int a1), (2, .int a2), (3, .int a3)] := hl
  refine lv_iload_n hx hb d_Mod_of_0 rfl (lv_at hl 1 rfl) ?_
  refine lv_istore (lv' := [(4, .int a1), (0, .ref (mad g 0)), (1, .int a1), (2, .int a2), (3, .int a3)]) hx hb d_Mod_of_1 hl (by decide) rfl (fun ls hl => ?_)
  refine lv_iconst (v := 0) hx hb d_Mod_of_3 (by decide) ?_
  refine lv_istore (lv' := [(5, .int 0), (4, .int a1), (0, .ref (mad g 0)), (1, .int a1), (2, .int a2), (3, .int a3)]) hx hb d_Mod_of_4 hl (by decide) rfl (fun ls hl => ?_)
  have L6 : ∀ (n6 : Nat) (x5_6 : Int32) (x4_6 : Int32) (x2_6 : Int32) (x3_6 : Int32) (β6 : mS) (H : Heap) (locs : List Loc) (ls : Array Slot), f_Mod_of_6 N n6 x5_6 x4_6 x2_6 x3_6 β6 = some x → mI g A s β6 H locs → lv_has ls 6 [(5, .int x5_6), (4, .int x4_6), (0, .ref (mad g 0)), (2, .int x2_6), (3, .int x3_6)] → W p l e (mR (45) (1307)) s m ([.ref (mad g 0), .int a1, .int a2, .int a3]).toArray below meth c H locs 0 0 (vEQ below (mQ g A (mQr x)) ([.ref (mad g 0), .int a1, .int a2, .int a3]).toArray s A) (F0 m 6 ls []) := by
    intro n6
    induction n6 with
    | zero => intro x5_6 x4_6 x2_6 x3_6 β6 H locs ls h hI hl; rw [f_Mod_of_6] at h; cases h
    | succ n6 ih6 =>
      intro x5_6 x4_6 x2_6 x3_6 β6 H locs ls h hI hl
      rw [f_Mod_of_6] at h
      refine lv_iload hx hb d_Mod_of_6 (lv_at hl 0 rfl) ?_
      refine lv_iload_n hx hb d_Mod_of_8 rfl (lv_at hl 4 rfl) ?_
      refine lv_icmp_ge (tgt := 39) hx hb d_Mod_of_9 (by decide) (fun c1 => ?_) (fun c1 => ?_)
      · replace h := Eq.trans (if_pos c1).symm h
        refine lv_iload hx hb d_Mod_of_39 (lv_at hl 1 rfl) ?_
        exact mc_iret (w := x4_6) hx hb hr rfl hlocks E hI h d_Mod_of_41
      · replace h := Eq.trans (if_neg c1).symm h
        refine lv_aload_n hx hb d_Mod_of_12 rfl (lv_at hl 2 rfl) ?_
        refine lv_iload hx hb d_Mod_of_13 (lv_at hl 1 rfl) ?_
        refine lv_aload_n hx hb d_Mod_of_15 rfl (lv_at hl 2 rfl) ?_
        refine lv_aload_n hx hb d_Mod_of_16 rfl (lv_at hl 2 rfl) ?_
        refine mf_are S E hI vt_1331 d_Mod_of_17 ?_
        refine lv_iload_n hx hb d_Mod_of_20 rfl (lv_at hl 3 rfl) ?_
        refine lv_iload hx hb d_Mod_of_21 (lv_at hl 0 rfl) ?_
        refine lv_iadd hx hb d_Mod_of_23 ?_
        by_cases c2 : (x2_6 + x5_6) < 0 ∨ 5000 ≤ ((x2_6 + x5_6) : Int32).toNatClampNeg
        · replace h := Eq.trans (if_pos c2).symm h
          cases h
        · replace h := Eq.trans (if_neg c2).symm h
          refine ml_are S E hI c2 d_Mod_of_24 ?_
          refine mg_cI (As := [.int (β6.2 33 ((x2_6 + x5_6) : Int32).toNatClampNeg)]) (rest := [.int x4_6, .ref (mad g 0)]) h (k_Mod_free (l := l) (g := g) (α := β6) N (β6.2 33 ((x2_6 + x5_6) : Int32).toNatClampNeg)) S hlocks hno E hI kw_Mod_353 ⟨Nat.le_of_ble_eq_true rfl, Nat.le_of_ble_eq_true rfl⟩ (mv_Mod E hI) rfl hl.1 rfl (Nat.le_of_ble_eq_true rfl) d_Mod_of_25 (fun v5 α3 H locs e4 h hI => ?_)
          refine mg_cI (As := [.int x4_6, .int v5]) (rest := []) h (k_Mod_apply (l := l) (g := g) (α := α3) N x4_6 v5) S hlocks hno E hI kw_Mod_350 ⟨Nat.le_of_ble_eq_true rfl, Nat.le_of_ble_eq_true rfl⟩ (mv_Mod E hI) rfl hl.1 rfl (Nat.le_of_ble_eq_true rfl) d_Mod_of_28 (fun v8 α6 H locs e7 h hI => ?_)
          refine lv_istore (lv' := [(4, .int v8), (5, .int x5_6), (0, .ref (mad g 0)), (2, .int x2_6), (3, .int x3_6)]) hx hb d_Mod_of_31 hl (by decide) rfl (fun ls hl => ?_)
          refine lv_iinc (v := (x5_6 + 1)) (lv' := [(5, .int (x5_6 + 1)), (4, .int v8), (0, .ref (mad g 0)), (2, .int x2_6), (3, .int x3_6)]) hx hb d_Mod_of_33 hl (k := 1) rfl rfl (by decide) rfl (fun ls hl => ?_)
          refine lv_goto (tgt := 6) hx hb d_Mod_of_36 (by decide) ?_
          exact ih6 (x5_6 + 1) v8 x2_6 x3_6 _ _ _ _ h hI (lv_sub hl [0, 1, 2, 3, 4] rfl)
  exact L6 N 0 a1 a2 a3 _ _ _ _ h hI (lv_sub hl [0, 1, 2, 4, 5] rfl)
theorem kw_Mod_555 : kWv "FamilyKernelModel" 555 "FamilyKernelModel" y_Mod_of b_Mod_of 6 (some .int) 3 := ⟨vt_1668, vt_1669, vt_1670, vt_1349, vt_1671, by decide, by decide, by decide +kernel⟩
theorem kw_Mod_558 : kWv "FamilyKernelModel" 558 "FamilyKernelModel" y_Mod_chain b_Mod_chain 6 (some .int) 3 := ⟨vt_1672, vt_1673, vt_1674, vt_1349, vt_1675, by decide, by decide, by decide +kernel⟩
theorem kw_Mod_571 : kWv "FamilyKernelModel" 571 "FamilyKernelModel" y_Mod_ended b_Mod_ended 4 (some .int) 1 := ⟨vt_1693, vt_1694, vt_1695, vt_1349, vt_1696, by decide, by decide, by decide +kernel⟩
theorem kw_Mod_574 : kWv "FamilyKernelModel" 574 "FamilyKernelModel" y_Mod_applied2 b_Mod_applied2 4 (some .int) 1 := ⟨vt_1697, vt_1698, vt_1699, vt_1349, vt_1700, by decide, by decide, by decide +kernel⟩
def f_Mod_minor_298 (N : Nat)  : Nat → Int32 → Int32 → Int32 → Int32 → Int32 → mS → Option (kO × mS)
  | 0, _, _, _, _, _, _ => none
  | n + 1, x10_298, x9_298, x8_298, x7_298, x6_298, β298 => if x7_298 ≤ x10_298 then (mBi (f_Mod_apply N x8_298 x9_298 β298) fun v15 α13 => (mBi (f_Mod_chain N 6 0 v15 α13) fun v18 α16 => (some (some (some v18), α16)))) else (if (x6_298 + x10_298) < 0 ∨ 4000 ≤ ((x6_298 + x10_298) : Int32).toNatClampNeg then none else (mBi (f_Mod_free N (β298.2 38 ((x6_298 + x10_298) : Int32).toNatClampNeg) β298) fun v22 α20 => (mBi (f_Mod_apply N x9_298 v22 α20) fun v25 α23 => (f_Mod_minor_298 N n (x10_298 + 1) v25 x8_298 x7_298 x6_298 α23))))
def f_Mod_minor_236 (N : Nat)  : Nat → Int32 → Int32 → Int32 → Int32 → Int32 → Int32 → Int32 → Int32 → mS → Option (kO × mS)
  | 0, _, _, _, _, _, _, _, _, _ => none
  | n + 1, x9_236, x8_236, x7_236, x6_236, x1_236, x2_236, x3_236, x4_236, β236 => if (x3_236 + x4_236) ≤ x9_236 then (mBi (f_Mod_node N 1 ((x1_236 + 1) + x2_236) 0 0 β236) fun v8 α6 => (mBi (f_Mod_of N v8 0 x3_236 α6) fun v11 α9 => (f_Mod_minor_298 N N 0 v11 x8_236 x7_236 x6_236 α9))) else (if x2_236 < 0 ∨ 301 ≤ (x2_236 : Int32).toNatClampNeg then none else (((f_Mod_nth N (β236.2 37 (x2_236 : Int32).toNatClampNeg) (x3_236 + x4_236) x9_236 β236)).bind fun v27 => (mBi (f_Mod_apply N x8_236 v27 β236) fun v31 α29 => (f_Mod_minor_236 N n (x9_236 + 1) v31 x7_236 x6_236 x1_236 x2_236 x3_236 x4_236 α29))))
def f_Mod_minor_127 (N : Nat)  (k70 : Int32 → Int32 → Int32 → Int32 → Int32 → Int32 → Int32 → Int32 → mS → Option (kO × mS)) : Nat → Int32 → Int32 → Int32 → Int32 → Int32 → Int32 → Int32 → Int32 → Int32 → Int32 → Int32 → Int32 → mS → Option (kO × mS)
  | 0, _, _, _, _, _, _, _, _, _, _, _, _, _ => none
  | n + 1, x12_127, x11_127, x10_127, x9_127, x8_127, x7_127, x6_127, x1_127, x2_127, x3_127, x4_127, x5_127, β127 => if (x3_127 + x4_127) ≤ x12_127 then (if (x6_127 + x8_127) < 0 ∨ 4000 ≤ ((x6_127 + x8_127) : Int32).toNatClampNeg then none else (mBi (f_Mod_applied2 N (β127.2 38 ((x6_127 + x8_127) : Int32).toNatClampNeg) β127) fun v43 α41 => (mBi (f_Mod_apply N x11_127 v43 α41) fun v46 α44 => (mBi (f_Mod_chain N 6 x9_127 v46 α44) fun v49 α47 => (mBi (f_Mod_fresh N v49 α47) fun v52 α50 => (if v52 < 0 ∨ 400000 ≤ (v52 : Int32).toNatClampNeg then none else (if (α50.1 30) < 0 ∨ 9000 ≤ ((α50.1 30) : Int32).toNatClampNeg then none else (k70 (x8_127 + 1) x7_127 x6_127 x1_127 x2_127 x3_127 x4_127 x5_127 (mSA (mSi α50 30 ((α50.1 30) + 1)) 41 (upd ((mSi α50 30 ((α50.1 30) + 1)).2 41) ((α50.1 30) : Int32).toNatClampNeg (α50.2 3 (v52 : Int32).toNatClampNeg))))))))))) else (((f_Mod_nth N x10_127 (x3_127 + x4_127) x12_127 β127)).bind fun v55 => (mBi (f_Mod_apply N x11_127 v55 β127) fun v59 α57 => (f_Mod_minor_127 N k70 n (x12_127 + 1) v59 x10_127 x9_127 x8_127 x7_127 x6_127 x1_127 x2_127 x3_127 x4_127 x5_127 α57)))
def f_Mod_minor_70 (N : Nat)  : Nat → Int32 → Int32 → Int32 → Int32 → Int32 → Int32 → Int32 → Int32 → mS → Option (kO × mS)
  | 0, _, _, _, _, _, _, _, _, _ => none
  | n + 1, x8_70, x7_70, x6_70, x1_70, x2_70, x3_70, x4_70, x5_70, β70 => if x7_70 ≤ x8_70 then (f_Mod_minor_236 N N x3_70 x5_70 x7_70 x6_70 x1_70 x2_70 x3_70 x4_70 β70) else (if (x6_70 + x8_70) < 0 ∨ 4000 ≤ ((x6_70 + x8_70) : Int32).toNatClampNeg then none else (if (β70.2 39 ((x6_70 + x8_70) : Int32).toNatClampNeg) = 0 then (f_Mod_minor_70 N n (x8_70 + 1) x7_70 x6_70 x1_70 x2_70 x3_70 x4_70 x5_70 β70) else (if (x6_70 + x8_70) < 0 ∨ 4000 ≤ ((x6_70 + x8_70) : Int32).toNatClampNeg then none else (if (β70.2 38 ((x6_70 + x8_70) : Int32).toNatClampNeg) < 0 ∨ 66000 ≤ ((β70.2 38 ((x6_70 + x8_70) : Int32).toNatClampNeg) : Int32).toNatClampNeg then none else (mBi (f_Mod_ended N (β70.2 32 ((β70.2 38 ((x6_70 + x8_70) : Int32).toNatClampNeg) : Int32).toNatClampNeg) β70) fun v38 α36 => (f_Mod_minor_127 N (f_Mod_minor_70 N n) N x3_70 x5_70 v38 (β70.1 30) x8_70 x7_70 x6_70 x1_70 x2_70 x3_70 x4_70 x5_70 α36))))))
def f_Mod_minor_28 (N : Nat)  : Nat → Int32 → Int32 → Int32 → Int32 → Int32 → Int32 → Int32 → Int32 → mS → Option (kO × mS)
  | 0, _, _, _, _, _, _, _, _, _ => none
  | n + 1, x8_28, x7_28, x6_28, x1_28, x2_28, x3_28, x4_28, x5_28, β28 => if x7_28 ≤ x8_28 then (f_Mod_minor_70 N N 0 x7_28 x6_28 x1_28 x2_28 x3_28 x4_28 x5_28 β28) else (if (x6_28 + x8_28) < 0 ∨ 4000 ≤ ((x6_28 + x8_28) : Int32).toNatClampNeg then none else (if (β28.1 30) < 0 ∨ 9000 ≤ ((β28.1 30) : Int32).toNatClampNeg then none else (f_Mod_minor_28 N n (x8_28 + 1) x7_28 x6_28 x1_28 x2_28 x3_28 x4_28 x5_28 (mSA (mSi β28 30 ((β28.1 30) + 1)) 41 (upd ((mSi β28 30 ((β28.1 30) + 1)).2 41) ((β28.1 30) : Int32).toNatClampNeg ((mSi β28 30 ((β28.1 30) + 1)).2 38 ((x6_28 + x8_28) : Int32).toNatClampNeg))))))
def f_Mod_minor (N : Nat) (a1 : Int32) (a2 : Int32) (a3 : Int32) (a4 : Int32) (a5 : Int32) (α : mS) : Option (kO × mS) := if a2 < 0 ∨ 301 ≤ (a2 : Int32).toNatClampNeg then none else (if ((a1 + 1) + a2) < 0 ∨ 301 ≤ (((a1 + 1) + a2) : Int32).toNatClampNeg then none else (f_Mod_minor_28 N N 0 ((mSi α 30 0).2 18 (((a1 + 1) + a2) : Int32).toNatClampNeg) ((mSi α 30 0).2 36 (a2 : Int32).toNatClampNeg) a1 a2 a3 a4 a5 (mSi α 30 0)))
set_option maxHeartbeats 4000000 in
set_option maxRecDepth 100000 in
theorem k_Mod_minor {l : Launch} {g : mG} {α : mS} (N : Nat) (a1 : Int32) (a2 : Int32) (a3 : Int32) (a4 : Int32) (a5 : Int32)  : ∀ x, f_Mod_minor N a1 a2 a3 a4 a5 α = some x → mC l g y_Mod_minor b_Mod_minor 13 (some .int) (850) (23830) [.ref (mad g 0), .int a1, .int a2, .int a3, .int a4, .int a5] α (mQr x) := by
  intro x h
  unfold f_Mod_minor at h
  refine mc_ofW (by decide) (fun A p e s m args below meth c S hr hlocks hno hargs E hI => ?_)
  have hx := S.1
  have hb := S.2.1
  have hown := S.2.2.2.1
  have hT := S.2.2.2.2
  subst hargs
  have hl := lv_entry ([.ref (mad g 0), .int a1, .int a2, .int a3, .int a4, .int a5]) (n := 13) (Nat.le_of_ble_eq_true rfl)
  rw [lg_entry_eq]
  generalize (lg_sl ([.ref (mad g 0), .int a1, .int a2, .int a3, .int a4, .int a5]) ++ List.replicate (13 - (lg_sl ([.ref (mad g 0), .int a1, .int a2, .int a3, .int a4, .int a5])).length) Slot.unset).toArray = ls at hl ⊢
  have hl : lv_has ls 13 [(0, .ref (mad g 0)), (1, .int a1), (2, .int a2), (3, .int a3), (4, .int a4), (5, .int a5)] := hl
  refine lv_aload_n hx hb d_Mod_minor_0 rfl (lv_at hl 0 rfl) ?_
  refine lv_iconst (v := 0) hx hb d_Mod_minor_1 (by decide) ?_
  refine mp_listed S E hI vt_1341 d_Mod_minor_2 (fun H locs hI => ?_)
  refine lv_aload_n hx hb d_Mod_minor_5 rfl (lv_at hl 0 rfl) ?_
  refine mf_firstArgument S E hI vt_1334 d_Mod_minor_6 ?_
  refine lv_iload_n hx hb d_Mod_minor_9 rfl (lv_at hl 2 rfl) ?_
  by_cases c1 : a2 < 0 ∨ 301 ≤ (a2 : Int32).toNatClampNeg
  · replace h := Eq.trans (if_pos c1).symm h
    cases h
  · replace h := Eq.trans (if_neg c1).symm h
    refine ml_firstArgument S E hI c1 d_Mod_minor_10 ?_
    refine lv_istore (lv' := [(6, .int ((mSi α 30 0).2 36 (a2 : Int32).toNatClampNeg)), (0, .ref (mad g 0)), (1, .int a1), (2, .int a2), (3, .int a3), (4, .int a4), (5, .int a5)]) hx hb d_Mod_minor_11 hl (by decide) rfl (fun ls hl => ?_)
    refine lv_aload_n hx hb d_Mod_minor_13 rfl (lv_at hl 1 rfl) ?_
    refine mf_arguments S E hI vt_1302 d_Mod_minor_14 ?_
    refine lv_iload_n hx hb d_Mod_minor_17 rfl (lv_at hl 2 rfl) ?_
    refine lv_iconst (v := 1) hx hb d_Mod_minor_18 (by decide) ?_
    refine lv_iadd hx hb d_Mod_minor_19 ?_
    refine lv_iload_n hx hb d_Mod_minor_20 rfl (lv_at hl 3 rfl) ?_
    refine lv_iadd hx hb d_Mod_minor_21 ?_
    by_cases c2 : ((a1 + 1) + a2) < 0 ∨ 301 ≤ (((a1 + 1) + a2) : Int32).toNatClampNeg
    · replace h := Eq.trans (if_pos c2).symm h
      cases h
    · replace h := Eq.trans (if_neg c2).symm h
      refine ml_arguments S E hI c2 d_Mod_minor_22 ?_
      refine lv_istore (lv' := [(7, .int ((mSi α 30 0).2 18 (((a1 + 1) + a2) : Int32).toNatClampNeg)), (6, .int ((mSi α 30 0).2 36 (a2 : Int32).toNatClampNeg)), (0, .ref (mad g 0)), (1, .int a1), (2, .int a2), (3, .int a3), (4, .int a4), (5, .int a5)]) hx hb d_Mod_minor_23 hl (by decide) rfl (fun ls hl => ?_)
      refine lv_iconst (v := 0) hx hb d_Mod_minor_25 (by decide) ?_
      refine lv_istore (lv' := [(8, .int 0), (7, .int ((mSi α 30 0).2 18 (((a1 + 1) + a2) : Int32).toNatClampNeg)), (6, .int ((mSi α 30 0).2 36 (a2 : Int32).toNatClampNeg)), (0, .ref (mad g 0)), (1, .int a1), (2, .int a2), (3, .int a3), (4, .int a4), (5, .int a5)]) hx hb d_Mod_minor_26 hl (by decide) rfl (fun ls hl => ?_)
      have L28 : ∀ (n28 : Nat) (x8_28 : Int32) (x7_28 : Int32) (x6_28 : Int32) (x1_28 : Int32) (x2_28 : Int32) (x3_28 : Int32) (x4_28 : Int32) (x5_28 : Int32) (β28 : mS) (H : Heap) (locs : List Loc) (ls : Array Slot), f_Mod_minor_28 N n28 x8_28 x7_28 x6_28 x1_28 x2_28 x3_28 x4_28 x5_28 β28 = some x → mI g A s β28 H locs → lv_has ls 13 [(8, .int x8_28), (7, .int x7_28), (6, .int x6_28), (0, .ref (mad g 0)), (1, .int x1_28), (2, .int x2_28), (3, .int x3_28), (4, .int x4_28), (5, .int x5_28)] → W p l e (mR (850) (23830)) s m ([.ref (mad g 0), .int a1, .int a2, .int a3, .int a4, .int a5]).toArray below meth c H locs 0 0 (vEQ below (mQ g A (mQr x)) ([.ref (mad g 0), .int a1, .int a2, .int a3, .int a4, .int a5]).toArray s A) (F0 m 28 ls []) := by
        intro n28
        induction n28 with
        | zero => intro x8_28 x7_28 x6_28 x1_28 x2_28 x3_28 x4_28 x5_28 β28 H locs ls h hI hl; rw [f_Mod_minor_28] at h; cases h
        | succ n28 ih28 =>
          intro x8_28 x7_28 x6_28 x1_28 x2_28 x3_28 x4_28 x5_28 β28 H locs ls h hI hl
          rw [f_Mod_minor_28] at h
          refine lv_iload hx hb d_Mod_minor_28 (lv_at hl 0 rfl) ?_
          refine lv_iload hx hb d_Mod_minor_30 (lv_at hl 1 rfl) ?_
          refine lv_icmp_ge (tgt := 67) hx hb d_Mod_minor_32 (by decide) (fun c3 => ?_) (fun c3 => ?_)
          · replace h := Eq.trans (if_pos c3).symm h
            refine lv_iconst (v := 0) hx hb d_Mod_minor_67 (by decide) ?_
            refine lv_istore (lv' := [(8, .int 0), (7, .int x7_28), (6, .int x6_28), (0, .ref (mad g 0)), (1, .int x1_28), (2, .int x2_28), (3, .int x3_28), (4, .int x4_28), (5, .int x5_28)]) hx hb d_Mod_minor_68 hl (by decide) rfl (fun ls hl => ?_)
            have L70 : ∀ (n70 : Nat) (x8_70 : Int32) (x7_70 : Int32) (x6_70 : Int32) (x1_70 : Int32) (x2_70 : Int32) (x3_70 : Int32) (x4_70 : Int32) (x5_70 : Int32) (β70 : mS) (H : Heap) (locs : List Loc) (ls : Array Slot), f_Mod_minor_70 N n70 x8_70 x7_70 x6_70 x1_70 x2_70 x3_70 x4_70 x5_70 β70 = some x → mI g A s β70 H locs → lv_has ls 13 [(8, .int x8_70), (7, .int x7_70), (6, .int x6_70), (0, .ref (mad g 0)), (1, .int x1_70), (2, .int x2_70), (3, .int x3_70), (4, .int x4_70), (5, .int x5_70)] → W p l e (mR (850) (23830)) s m ([.ref (mad g 0), .int a1, .int a2, .int a3, .int a4, .int a5]).toArray below meth c H locs 0 0 (vEQ below (mQ g A (mQr x)) ([.ref (mad g 0), .int a1, .int a2, .int a3, .int a4, .int a5]).toArray s A) (F0 m 70 ls []) := by
              intro n70
              induction n70 with
              | zero => intro x8_70 x7_70 x6_70 x1_70 x2_70 x3_70 x4_70 x5_70 β70 H locs ls h hI hl; rw [f_Mod_minor_70] at h; cases h
              | succ n70 ih70 =>
                intro x8_70 x7_70 x6_70 x1_70 x2_70 x3_70 x4_70 x5_70 β70 H locs ls h hI hl
                rw [f_Mod_minor_70] at h
                refine lv_iload hx hb d_Mod_minor_70 (lv_at hl 0 rfl) ?_
                refine lv_iload hx hb d_Mod_minor_72 (lv_at hl 1 rfl) ?_
                refine lv_icmp_ge (tgt := 229) hx hb d_Mod_minor_74 (by decide) (fun c4 => ?_) (fun c4 => ?_)
                · replace h := Eq.trans (if_pos c4).symm h
                  refine lv_iload hx hb d_Mod_minor_229 (lv_at hl 8 rfl) ?_
                  refine lv_istore (lv' := [(8, .int x5_70), (7, .int x7_70), (6, .int x6_70), (0, .ref (mad g 0)), (1, .int x1_70), (2, .int x2_70), (3, .int x3_70), (4, .int x4_70), (5, .int x5_70)]) hx hb d_Mod_minor_231 hl (by decide) rfl (fun ls hl => ?_)
                  refine lv_iload_n hx hb d_Mod_minor_233 rfl (lv_at hl 6 rfl) ?_
                  refine lv_istore (lv' := [(9, .int x3_70), (8, .int x5_70), (7, .int x7_70), (6, .int x6_70), (0, .ref (mad g 0)), (1, .int x1_70), (2, .int x2_70), (3, .int x3_70), (4, .int x4_70), (5, .int x5_70)]) hx hb d_Mod_minor_234 hl (by decide) rfl (fun ls hl => ?_)
                  have L236 : ∀ (n236 : Nat) (x9_236 : Int32) (x8_236 : Int32) (x7_236 : Int32) (x6_236 : Int32) (x1_236 : Int32) (x2_236 : Int32) (x3_236 : Int32) (x4_236 : Int32) (β236 : mS) (H : Heap) (locs : List Loc) (ls : Array Slot), f_Mod_minor_236 N n236 x9_236 x8_236 x7_236 x6_236 x1_236 x2_236 x3_236 x4_236 β236 = some x → mI g A s β236 H locs → lv_has ls 13 [(9, .int x9_236), (8, .int x8_236), (7, .int x7_236), (6, .int x6_236), (0, .ref (mad g 0)), (1, .int x1_236), (2, .int x2_236), (3, .int x3_236), (4, .int x4_236)] → W p l e (mR (850) (23830)) s m ([.ref (mad g 0), .int a1, .int a2, .int a3, .int a4, .int a5]).toArray below meth c H locs 0 0 (vEQ below (mQ g A (mQr x)) ([.ref (mad g 0), .int a1, .int a2, .int a3, .int a4, .int a5]).toArray s A) (F0 m 236 ls []) := by
                    intro n236
                    induction n236 with
                    | zero => intro x9_236 x8_236 x7_236 x6_236 x1_236 x2_236 x3_236 x4_236 β236 H locs ls h hI hl; rw [f_Mod_minor_236] at h; cases h
                    | succ n236 ih236 =>
                      intro x9_236 x8_236 x7_236 x6_236 x1_236 x2_236 x3_236 x4_236 β236 H locs ls h hI hl
                      rw [f_Mod_minor_236] at h
                      refine lv_iload hx hb d_Mod_minor_236 (lv_at hl 0 rfl) ?_
                      refine lv_iload_n hx hb d_Mod_minor_238 rfl (lv_at hl 7 rfl) ?_
                      refine lv_iload hx hb d_Mod_minor_239 (lv_at hl 8 rfl) ?_
                      refine lv_iadd hx hb d_Mod_minor_241 ?_
                      refine lv_icmp_ge (tgt := 275) hx hb d_Mod_minor_242 (by decide) (fun c5 => ?_) (fun c5 => ?_)
                      · replace h := Eq.trans (if_pos c5).symm h
                        refine lv_aload_n hx hb d_Mod_minor_275 rfl (lv_at hl 4 rfl) ?_
                        refine lv_aload_n hx hb d_Mod_minor_276 rfl (lv_at hl 4 rfl) ?_
                        refine lv_iconst (v := 1) hx hb d_Mod_minor_277 (by decide) ?_
                        refine lv_iload_n hx hb d_Mod_minor_278 rfl (lv_at hl 5 rfl) ?_
                        refine lv_iconst (v := 1) hx hb d_Mod_minor_279 (by decide) ?_
                        refine lv_iadd hx hb d_Mod_minor_280 ?_
                        refine lv_iload_n hx hb d_Mod_minor_281 rfl (lv_at hl 6 rfl) ?_
                        refine lv_iadd hx hb d_Mod_minor_282 ?_
                        refine lv_iconst (v := 0) hx hb d_Mod_minor_283 (by decide) ?_
                        refine lv_iconst (v := 0) hx hb d_Mod_minor_284 (by decide) ?_
                        refine mg_cI (As := [.int 1, .int ((x1_236 + 1) + x2_236), .int 0, .int 0]) (rest := [.ref (mad g 0)]) h (k_Mod_node (l := l) (g := g) (α := β236) N 1 ((x1_236 + 1) + x2_236) 0 0) S hlocks hno E hI kw_Mod_336 ⟨Nat.le_of_ble_eq_true rfl, Nat.le_of_ble_eq_true rfl⟩ (mv_Mod E hI) rfl hl.1 rfl (Nat.le_of_ble_eq_true rfl) d_Mod_minor_285 (fun v8 α6 H locs e7 h hI => ?_)
                        refine lv_iconst (v := 0) hx hb d_Mod_minor_288 (by decide) ?_
                        refine lv_iload_n hx hb d_Mod_minor_289 rfl (lv_at hl 7 rfl) ?_
                        refine mg_cI (As := [.int v8, .int 0, .int x3_236]) (rest := []) h (k_Mod_of (l := l) (g := g) (α := α6) N v8 0 x3_236) S hlocks hno E hI kw_Mod_555 ⟨Nat.le_of_ble_eq_true rfl, Nat.le_of_ble_eq_true rfl⟩ (mv_Mod E hI) rfl hl.1 rfl (Nat.le_of_ble_eq_true rfl) d_Mod_minor_290 (fun v11 α9 H locs e10 h hI => ?_)
                        refine lv_istore (lv' := [(9, .int v11), (8, .int x8_236), (7, .int x7_236), (6, .int x6_236), (0, .ref (mad g 0)), (1, .int x1_236), (2, .int x2_236), (3, .int x3_236), (4, .int x4_236)]) hx hb d_Mod_minor_293 hl (by decide) rfl (fun ls hl => ?_)
                        refine lv_iconst (v := 0) hx hb d_Mod_minor_295 (by decide) ?_
                        refine lv_istore (lv' := [(10, .int 0), (9, .int v11), (8, .int x8_236), (7, .int x7_236), (6, .int x6_236), (0, .ref (mad g 0)), (1, .int x1_236), (2, .int x2_236), (3, .int x3_236), (4, .int x4_236)]) hx hb d_Mod_minor_296 hl (by decide) rfl (fun ls hl => ?_)
                        have L298 : ∀ (n298 : Nat) (x10_298 : Int32) (x9_298 : Int32) (x8_298 : Int32) (x7_298 : Int32) (x6_298 : Int32) (β298 : mS) (H : Heap) (locs : List Loc) (ls : Array Slot), f_Mod_minor_298 N n298 x10_298 x9_298 x8_298 x7_298 x6_298 β298 = some x → mI g A s β298 H locs → lv_has ls 13 [(10, .int x10_298), (9, .int x9_298), (8, .int x8_298), (7, .int x7_298), (6, .int x6_298), (0, .ref (mad g 0))] → W p l e (mR (850) (23830)) s m ([.ref (mad g 0), .int a1, .int a2, .int a3, .int a4, .int a5]).toArray below meth c H locs 0 0 (vEQ below (mQ g A (mQr x)) ([.ref (mad g 0), .int a1, .int a2, .int a3, .int a4, .int a5]).toArray s A) (F0 m 298 ls []) := by
                          intro n298
                          induction n298 with
                          | zero => intro x10_298 x9_298 x8_298 x7_298 x6_298 β298 H locs ls h hI hl; rw [f_Mod_minor_298] at h; cases h
                          | succ n298 ih298 =>
                            intro x10_298 x9_298 x8_298 x7_298 x6_298 β298 H locs ls h hI hl
                            rw [f_Mod_minor_298] at h
                            refine lv_iload hx hb d_Mod_minor_298 (lv_at hl 0 rfl) ?_
                            refine lv_iload hx hb d_Mod_minor_300 (lv_at hl 3 rfl) ?_
                            refine lv_icmp_ge (tgt := 333) hx hb d_Mod_minor_302 (by decide) (fun c12 => ?_) (fun c12 => ?_)
                            · replace h := Eq.trans (if_pos c12).symm h
                              refine lv_aload_n hx hb d_Mod_minor_333 rfl (lv_at hl 5 rfl) ?_
                              refine lv_bipush (v := 6) hx hb d_Mod_minor_334 (by decide) ?_
                              refine lv_iconst (v := 0) hx hb d_Mod_minor_336 (by decide) ?_
                              refine lv_aload_n hx hb d_Mod_minor_337 rfl (lv_at hl 5 rfl) ?_
                              refine lv_iload hx hb d_Mod_minor_338 (lv_at hl 2 rfl) ?_
                              refine lv_iload hx hb d_Mod_minor_340 (lv_at hl 1 rfl) ?_
                              refine mg_cI (As := [.int x8_298, .int x9_298]) (rest := [.int 0, .int 6, .ref (mad g 0)]) h (k_Mod_apply (l := l) (g := g) (α := β298) N x8_298 x9_298) S hlocks hno E hI kw_Mod_350 ⟨Nat.le_of_ble_eq_true rfl, Nat.le_of_ble_eq_true rfl⟩ (mv_Mod E hI) rfl hl.1 rfl (Nat.le_of_ble_eq_true rfl) d_Mod_minor_342 (fun v15 α13 H locs e14 h hI => ?_)
                              refine mg_cI (As := [.int 6, .int 0, .int v15]) (rest := []) h (k_Mod_chain (l := l) (g := g) (α := α13) N 6 0 v15) S hlocks hno E hI kw_Mod_558 ⟨Nat.le_of_ble_eq_true rfl, Nat.le_of_ble_eq_true rfl⟩ (mv_Mod E hI) rfl hl.1 rfl (Nat.le_of_ble_eq_true rfl) d_Mod_minor_345 (fun v18 α16 H locs e17 h hI => ?_)
                              exact mc_iret (w := v18) hx hb hr rfl hlocks E hI h d_Mod_minor_348
                            · replace h := Eq.trans (if_neg c12).symm h
                              refine lv_aload_n hx hb d_Mod_minor_305 rfl (lv_at hl 5 rfl) ?_
                              refine lv_iload hx hb d_Mod_minor_306 (lv_at hl 1 rfl) ?_
                              refine lv_aload_n hx hb d_Mod_minor_308 rfl (lv_at hl 5 rfl) ?_
                              refine lv_aload_n hx hb d_Mod_minor_309 rfl (lv_at hl 5 rfl) ?_
                              refine mf_argument S E hI vt_1336 d_Mod_minor_310 ?_
                              refine lv_iload hx hb d_Mod_minor_313 (lv_at hl 4 rfl) ?_
                              refine lv_iload hx hb d_Mod_minor_315 (lv_at hl 0 rfl) ?_
                              refine lv_iadd hx hb d_Mod_minor_317 ?_
                              by_cases c19 : (x6_298 + x10_298) < 0 ∨ 4000 ≤ ((x6_298 + x10_298) : Int32).toNatClampNeg
                              · replace h := Eq.trans (if_pos c19).symm h
                                cases h
                              · replace h := Eq.trans (if_neg c19).symm h
                                refine ml_argument S E hI c19 d_Mod_minor_318 ?_
                                refine mg_cI (As := [.int (β298.2 38 ((x6_298 + x10_298) : Int32).toNatClampNeg)]) (rest := [.int x9_298, .ref (mad g 0)]) h (k_Mod_free (l := l) (g := g) (α := β298) N (β298.2 38 ((x6_298 + x10_298) : Int32).toNatClampNeg)) S hlocks hno E hI kw_Mod_353 ⟨Nat.le_of_ble_eq_true rfl, Nat.le_of_ble_eq_true rfl⟩ (mv_Mod E hI) rfl hl.1 rfl (Nat.le_of_ble_eq_true rfl) d_Mod_minor_319 (fun v22 α20 H locs e21 h hI => ?_)
                                refine mg_cI (As := [.int x9_298, .int v22]) (rest := []) h (k_Mod_apply (l := l) (g := g) (α := α20) N x9_298 v22) S hlocks hno E hI kw_Mod_350 ⟨Nat.le_of_ble_eq_true rfl, Nat.le_of_ble_eq_true rfl⟩ (mv_Mod E hI) rfl hl.1 rfl (Nat.le_of_ble_eq_true rfl) d_Mod_minor_322 (fun v25 α23 H locs e24 h hI => ?_)
                                refine lv_istore (lv' := [(9, .int v25), (10, .int x10_298), (8, .int x8_298), (7, .int x7_298), (6, .int x6_298), (0, .ref (mad g 0))]) hx hb d_Mod_minor_325 hl (by decide) rfl (fun ls hl => ?_)
                                refine lv_iinc (v := (x10_298 + 1)) (lv' := [(10, .int (x10_298 + 1)), (9, .int v25), (8, .int x8_298), (7, .int x7_298), (6, .int x6_298), (0, .ref (mad g 0))]) hx hb d_Mod_minor_327 hl (k := 1) rfl rfl (by decide) rfl (fun ls hl => ?_)
                                refine lv_goto (tgt := 298) hx hb d_Mod_minor_330 (by decide) ?_
                                exact ih298 (x10_298 + 1) v25 x8_298 x7_298 x6_298 _ _ _ _ h hI (lv_sub hl [0, 1, 2, 3, 4, 5] rfl)
                        exact L298 N 0 v11 x8_236 x7_236 x6_236 _ _ _ _ h hI (lv_sub hl [0, 1, 2, 3, 4, 5] rfl)
                      · replace h := Eq.trans (if_neg c5).symm h
                        refine lv_aload_n hx hb d_Mod_minor_245 rfl (lv_at hl 4 rfl) ?_
                        refine lv_iload hx hb d_Mod_minor_246 (lv_at hl 1 rfl) ?_
                        refine lv_aload_n hx hb d_Mod_minor_248 rfl (lv_at hl 4 rfl) ?_
                        refine lv_aload_n hx hb d_Mod_minor_249 rfl (lv_at hl 4 rfl) ?_
                        refine mf_endAt S E hI vt_1335 d_Mod_minor_250 ?_
                        refine lv_iload_n hx hb d_Mod_minor_253 rfl (lv_at hl 6 rfl) ?_
                        by_cases c26 : x2_236 < 0 ∨ 301 ≤ (x2_236 : Int32).toNatClampNeg
                        · replace h := Eq.trans (if_pos c26).symm h
                          cases h
                        · replace h := Eq.trans (if_neg c26).symm h
                          refine ml_endAt S E hI c26 d_Mod_minor_254 ?_
                          refine lv_iload_n hx hb d_Mod_minor_255 rfl (lv_at hl 7 rfl) ?_
                          refine lv_iload hx hb d_Mod_minor_256 (lv_at hl 8 rfl) ?_
                          refine lv_iadd hx hb d_Mod_minor_258 ?_
                          refine lv_iload hx hb d_Mod_minor_259 (lv_at hl 0 rfl) ?_
                          obtain ⟨v27, e28, h⟩ := Option.bind_eq_some_iff.mp h
                          refine mg_p (As := [.int (β236.2 37 (x2_236 : Int32).toNatClampNeg), .int (x3_236 + x4_236), .int x9_236]) (rest := [.int x8_236, .ref (mad g 0)]) ((k_Mod_nth (l := l) (g := g) (α := β236) N (β236.2 37 (x2_236 : Int32).toNatClampNeg) (x3_236 + x4_236) x9_236) _ e28) S E hI kw_Mod_440 (Or.inl rfl) ⟨Nat.le_of_ble_eq_true rfl, Nat.le_of_ble_eq_true rfl⟩ (mv_Mod E hI) rfl hl.1 rfl (Nat.le_of_ble_eq_true rfl) d_Mod_minor_261 rfl ?_
                          refine mg_cI (As := [.int x8_236, .int v27]) (rest := []) h (k_Mod_apply (l := l) (g := g) (α := β236) N x8_236 v27) S hlocks hno E hI kw_Mod_350 ⟨Nat.le_of_ble_eq_true rfl, Nat.le_of_ble_eq_true rfl⟩ (mv_Mod E hI) rfl hl.1 rfl (Nat.le_of_ble_eq_true rfl) d_Mod_minor_264 (fun v31 α29 H locs e30 h hI => ?_)
                          refine lv_istore (lv' := [(8, .int v31), (9, .int x9_236), (7, .int x7_236), (6, .int x6_236), (0, .ref (mad g 0)), (1, .int x1_236), (2, .int x2_236), (3, .int x3_236), (4, .int x4_236)]) hx hb d_Mod_minor_267 hl (by decide) rfl (fun ls hl => ?_)
                          refine lv_iinc (v := (x9_236 + 1)) (lv' := [(9, .int (x9_236 + 1)), (8, .int v31), (7, .int x7_236), (6, .int x6_236), (0, .ref (mad g 0)), (1, .int x1_236), (2, .int x2_236), (3, .int x3_236), (4, .int x4_236)]) hx hb d_Mod_minor_269 hl (k := 1) rfl rfl (by decide) rfl (fun ls hl => ?_)
                          refine lv_goto (tgt := 236) hx hb d_Mod_minor_272 (by decide) ?_
                          exact ih236 (x9_236 + 1) v31 x7_236 x6_236 x1_236 x2_236 x3_236 x4_236 _ _ _ _ h hI (lv_sub hl [0, 1, 2, 3, 4, 5, 6, 7, 8] rfl)
                  exact L236 N x3_70 x5_70 x7_70 x6_70 x1_70 x2_70 x3_70 x4_70 _ _ _ _ h hI (lv_sub hl [0, 1, 2, 3, 4, 5, 6, 7, 8] rfl)
                · replace h := Eq.trans (if_neg c4).symm h
                  refine lv_aload_n hx hb d_Mod_minor_77 rfl (lv_at hl 3 rfl) ?_
                  refine mf_isRecursive S E hI vt_1337 d_Mod_minor_78 ?_
                  refine lv_iload hx hb d_Mod_minor_81 (lv_at hl 2 rfl) ?_
                  refine lv_iload hx hb d_Mod_minor_83 (lv_at hl 0 rfl) ?_
                  refine lv_iadd hx hb d_Mod_minor_85 ?_
                  by_cases c32 : (x6_70 + x8_70) < 0 ∨ 4000 ≤ ((x6_70 + x8_70) : Int32).toNatClampNeg
                  · replace h := Eq.trans (if_pos c32).symm h
                    cases h
                  · replace h := Eq.trans (if_neg c32).symm h
                    refine ml_isRecursive S E hI c32 d_Mod_minor_86 ?_
                    refine lv_if_ne (tgt := 93) hx hb d_Mod_minor_87 (by decide) (fun c33 => ?_) (fun c33 => ?_)
                    · replace h := Eq.trans (if_neg c33).symm h
                      refine lv_aload_n hx hb d_Mod_minor_93 rfl (lv_at hl 3 rfl) ?_
                      refine mf_listed S E hI vt_1341 d_Mod_minor_94 ?_
                      refine lv_istore (lv' := [(9, .int (β70.1 30)), (8, .int x8_70), (7, .int x7_70), (6, .int x6_70), (0, .ref (mad g 0)), (1, .int x1_70), (2, .int x2_70), (3, .int x3_70), (4, .int x4_70), (5, .int x5_70)]) hx hb d_Mod_minor_97 hl (by decide) rfl (fun ls hl => ?_)
                      refine lv_aload_n hx hb d_Mod_minor_99 rfl (lv_at hl 4 rfl) ?_
                      refine lv_aload_n hx hb d_Mod_minor_100 rfl (lv_at hl 4 rfl) ?_
                      refine mf_typeOfVariable S E hI vt_1325 d_Mod_minor_101 ?_
                      refine lv_aload_n hx hb d_Mod_minor_104 rfl (lv_at hl 4 rfl) ?_
                      refine mf_argument S E hI vt_1336 d_Mod_minor_105 ?_
                      refine lv_iload hx hb d_Mod_minor_108 (lv_at hl 3 rfl) ?_
                      refine lv_iload hx hb d_Mod_minor_110 (lv_at hl 1 rfl) ?_
                      refine lv_iadd hx hb d_Mod_minor_112 ?_
                      by_cases c34 : (x6_70 + x8_70) < 0 ∨ 4000 ≤ ((x6_70 + x8_70) : Int32).toNatClampNeg
                      · replace h := Eq.trans (if_pos c34).symm h
                        cases h
                      · replace h := Eq.trans (if_neg c34).symm h
                        refine ml_argument S E hI c34 d_Mod_minor_113 ?_
                        by_cases c35 : (β70.2 38 ((x6_70 + x8_70) : Int32).toNatClampNeg) < 0 ∨ 66000 ≤ ((β70.2 38 ((x6_70 + x8_70) : Int32).toNatClampNeg) : Int32).toNatClampNeg
                        · replace h := Eq.trans (if_pos c35).symm h
                          cases h
                        · replace h := Eq.trans (if_neg c35).symm h
                          refine ml_typeOfVariable S E hI c35 d_Mod_minor_114 ?_
                          refine mg_cI (As := [.int (β70.2 32 ((β70.2 38 ((x6_70 + x8_70) : Int32).toNatClampNeg) : Int32).toNatClampNeg)]) (rest := []) h (k_Mod_ended (l := l) (g := g) (α := β70) N (β70.2 32 ((β70.2 38 ((x6_70 + x8_70) : Int32).toNatClampNeg) : Int32).toNatClampNeg)) S hlocks hno E hI kw_Mod_571 ⟨Nat.le_of_ble_eq_true rfl, Nat.le_of_ble_eq_true rfl⟩ (mv_Mod E hI) rfl hl.1 rfl (Nat.le_of_ble_eq_true rfl) d_Mod_minor_115 (fun v38 α36 H locs e37 h hI => ?_)
                          refine lv_istore (lv' := [(10, .int v38), (9, .int (β70.1 30)), (8, .int x8_70), (7, .int x7_70), (6, .int x6_70), (0, .ref (mad g 0)), (1, .int x1_70), (2, .int x2_70), (3, .int x3_70), (4, .int x4_70), (5, .int x5_70)]) hx hb d_Mod_minor_118 hl (by decide) rfl (fun ls hl => ?_)
                          refine lv_iload hx hb d_Mod_minor_120 (lv_at hl 10 rfl) ?_
                          refine lv_istore (lv' := [(11, .int x5_70), (10, .int v38), (9, .int (β70.1 30)), (8, .int x8_70), (7, .int x7_70), (6, .int x6_70), (0, .ref (mad g 0)), (1, .int x1_70), (2, .int x2_70), (3, .int x3_70), (4, .int x4_70), (5, .int x5_70)]) hx hb d_Mod_minor_122 hl (by decide) rfl (fun ls hl => ?_)
                          refine lv_iload_n hx hb d_Mod_minor_124 rfl (lv_at hl 9 rfl) ?_
                          refine lv_istore (lv' := [(12, .int x3_70), (11, .int x5_70), (10, .int v38), (9, .int (β70.1 30)), (8, .int x8_70), (7, .int x7_70), (6, .int x6_70), (0, .ref (mad g 0)), (1, .int x1_70), (2, .int x2_70), (3, .int x3_70), (4, .int x4_70), (5, .int x5_70)]) hx hb d_Mod_minor_125 hl (by decide) rfl (fun ls hl => ?_)
                          have L127 : ∀ (n127 : Nat) (x12_127 : Int32) (x11_127 : Int32) (x10_127 : Int32) (x9_127 : Int32) (x8_127 : Int32) (x7_127 : Int32) (x6_127 : Int32) (x1_127 : Int32) (x2_127 : Int32) (x3_127 : Int32) (x4_127 : Int32) (x5_127 : Int32) (β127 : mS) (H : Heap) (locs : List Loc) (ls : Array Slot), f_Mod_minor_127 N (f_Mod_minor_70 N n70) n127 x12_127 x11_127 x10_127 x9_127 x8_127 x7_127 x6_127 x1_127 x2_127 x3_127 x4_127 x5_127 β127 = some x → mI g A s β127 H locs → lv_has ls 13 [(12, .int x12_127), (11, .int x11_127), (10, .int x10_127), (9, .int x9_127), (8, .int x8_127), (7, .int x7_127), (6, .int x6_127), (0, .ref (mad g 0)), (1, .int x1_127), (2, .int x2_127), (3, .int x3_127), (4, .int x4_127), (5, .int x5_127)] → W p l e (mR (850) (23830)) s m ([.ref (mad g 0), .int a1, .int a2, .int a3, .int a4, .int a5]).toArray below meth c H locs 0 0 (vEQ below (mQ g A (mQr x)) ([.ref (mad g 0), .int a1, .int a2, .int a3, .int a4, .int a5]).toArray s A) (F0 m 127 ls []) := by
                            intro n127
                            induction n127 with
                            | zero => intro x12_127 x11_127 x10_127 x9_127 x8_127 x7_127 x6_127 x1_127 x2_127 x3_127 x4_127 x5_127 β127 H locs ls h hI hl; rw [f_Mod_minor_127] at h; cases h
                            | succ n127 ih127 =>
                              intro x12_127 x11_127 x10_127 x9_127 x8_127 x7_127 x6_127 x1_127 x2_127 x3_127 x4_127 x5_127 β127 H locs ls h hI hl
                              rw [f_Mod_minor_127] at h
                              refine lv_iload hx hb d_Mod_minor_127 (lv_at hl 0 rfl) ?_
                              refine lv_iload_n hx hb d_Mod_minor_129 rfl (lv_at hl 10 rfl) ?_
                              refine lv_iload hx hb d_Mod_minor_130 (lv_at hl 11 rfl) ?_
                              refine lv_iadd hx hb d_Mod_minor_132 ?_
                              refine lv_icmp_ge (tgt := 162) hx hb d_Mod_minor_133 (by decide) (fun c39 => ?_) (fun c39 => ?_)
                              · replace h := Eq.trans (if_pos c39).symm h
                                refine lv_aload_n hx hb d_Mod_minor_162 rfl (lv_at hl 7 rfl) ?_
                                refine lv_iload hx hb d_Mod_minor_163 (lv_at hl 1 rfl) ?_
                                refine lv_aload_n hx hb d_Mod_minor_165 rfl (lv_at hl 7 rfl) ?_
                                refine lv_aload_n hx hb d_Mod_minor_166 rfl (lv_at hl 7 rfl) ?_
                                refine mf_argument S E hI vt_1336 d_Mod_minor_167 ?_
                                refine lv_iload hx hb d_Mod_minor_170 (lv_at hl 6 rfl) ?_
                                refine lv_iload hx hb d_Mod_minor_172 (lv_at hl 4 rfl) ?_
                                refine lv_iadd hx hb d_Mod_minor_174 ?_
                                by_cases c40 : (x6_127 + x8_127) < 0 ∨ 4000 ≤ ((x6_127 + x8_127) : Int32).toNatClampNeg
                                · replace h := Eq.trans (if_pos c40).symm h
                                  cases h
                                · replace h := Eq.trans (if_neg c40).symm h
                                  refine ml_argument S E hI c40 d_Mod_minor_175 ?_
                                  refine mg_cI (As := [.int (β127.2 38 ((x6_127 + x8_127) : Int32).toNatClampNeg)]) (rest := [.int x11_127, .ref (mad g 0)]) h (k_Mod_applied2 (l := l) (g := g) (α := β127) N (β127.2 38 ((x6_127 + x8_127) : Int32).toNatClampNeg)) S hlocks hno E hI kw_Mod_574 ⟨Nat.le_of_ble_eq_true rfl, Nat.le_of_ble_eq_true rfl⟩ (mv_Mod E hI) rfl hl.1 rfl (Nat.le_of_ble_eq_true rfl) d_Mod_minor_176 (fun v43 α41 H locs e42 h hI => ?_)
                                  refine mg_cI (As := [.int x11_127, .int v43]) (rest := []) h (k_Mod_apply (l := l) (g := g) (α := α41) N x11_127 v43) S hlocks hno E hI kw_Mod_350 ⟨Nat.le_of_ble_eq_true rfl, Nat.le_of_ble_eq_true rfl⟩ (mv_Mod E hI) rfl hl.1 rfl (Nat.le_of_ble_eq_true rfl) d_Mod_minor_179 (fun v46 α44 H locs e45 h hI => ?_)
                                  refine lv_istore (lv' := [(11, .int v46), (12, .int x12_127), (10, .int x10_127), (9, .int x9_127), (8, .int x8_127), (7, .int x7_127), (6, .int x6_127), (0, .ref (mad g 0)), (1, .int x1_127), (2, .int x2_127), (3, .int x3_127), (4, .int x4_127), (5, .int x5_127)]) hx hb d_Mod_minor_182 hl (by decide) rfl (fun ls hl => ?_)
                                  refine lv_aload_n hx hb d_Mod_minor_184 rfl (lv_at hl 7 rfl) ?_
                                  refine mf_one S E hI vt_1280 d_Mod_minor_185 ?_
                                  refine lv_aload_n hx hb d_Mod_minor_188 rfl (lv_at hl 7 rfl) ?_
                                  refine lv_aload_n hx hb d_Mod_minor_189 rfl (lv_at hl 7 rfl) ?_
                                  refine lv_bipush (v := 6) hx hb d_Mod_minor_190 (by decide) ?_
                                  refine lv_iload hx hb d_Mod_minor_192 (lv_at hl 3 rfl) ?_
                                  refine lv_iload hx hb d_Mod_minor_194 (lv_at hl 0 rfl) ?_
                                  refine mg_cI (As := [.int 6, .int x9_127, .int v46]) (rest := [.ref (mad g 0), .ref (mad g 4)]) h (k_Mod_chain (l := l) (g := g) (α := α44) N 6 x9_127 v46) S hlocks hno E hI kw_Mod_558 ⟨Nat.le_of_ble_eq_true rfl, Nat.le_of_ble_eq_true rfl⟩ (mv_Mod E hI) rfl hl.1 rfl (Nat.le_of_ble_eq_true rfl) d_Mod_minor_196 (fun v49 α47 H locs e48 h hI => ?_)
                                  refine mg_cI (As := [.int v49]) (rest := [.ref (mad g 4)]) h (k_Mod_fresh (l := l) (g := g) (α := α47) N v49) S hlocks hno E hI kw_Mod_468 ⟨Nat.le_of_ble_eq_true rfl, Nat.le_of_ble_eq_true rfl⟩ (mv_Mod E hI) rfl hl.1 rfl (Nat.le_of_ble_eq_true rfl) d_Mod_minor_199 (fun v52 α50 H locs e51 h hI => ?_)
                                  by_cases c53 : v52 < 0 ∨ 400000 ≤ (v52 : Int32).toNatClampNeg
                                  · replace h := Eq.trans (if_pos c53).symm h
                                    cases h
                                  · replace h := Eq.trans (if_neg c53).symm h
                                    refine ml_one S E hI c53 d_Mod_minor_202 ?_
                                    refine lv_istore (lv' := [(12, .int (α50.2 3 (v52 : Int32).toNatClampNeg)), (11, .int v46), (10, .int x10_127), (9, .int x9_127), (8, .int x8_127), (7, .int x7_127), (6, .int x6_127), (0, .ref (mad g 0)), (1, .int x1_127), (2, .int x2_127), (3, .int x3_127), (4, .int x4_127), (5, .int x5_127)]) hx hb d_Mod_minor_203 hl (by decide) rfl (fun ls hl => ?_)
                                    refine lv_aload_n hx hb d_Mod_minor_205 rfl (lv_at hl 7 rfl) ?_
                                    refine mf_list S E hI vt_1340 d_Mod_minor_206 ?_
                                    refine lv_aload_n hx hb d_Mod_minor_209 rfl (lv_at hl 7 rfl) ?_
                                    refine lv_dup hx hb d_Mod_minor_210 rfl ?_
                                    refine mf_listed S E hI vt_1341 d_Mod_minor_211 ?_
                                    refine lv_dup_x1 hx hb d_Mod_minor_214 rfl rfl ?_
                                    refine lv_iconst (v := 1) hx hb d_Mod_minor_215 (by decide) ?_
                                    refine lv_iadd hx hb d_Mod_minor_216 ?_
                                    refine mp_listed S E hI vt_1341 d_Mod_minor_217 (fun H locs hI => ?_)
                                    refine lv_iload hx hb d_Mod_minor_220 (lv_at hl 0 rfl) ?_
                                    by_cases c54 : (α50.1 30) < 0 ∨ 9000 ≤ ((α50.1 30) : Int32).toNatClampNeg
                                    · replace h := Eq.trans (if_pos c54).symm h
                                      cases h
                                    · replace h := Eq.trans (if_neg c54).symm h
                                      refine ms_list S E hI c54 d_Mod_minor_222 (fun H locs hI => ?_)
                                      refine lv_iinc (v := (x8_127 + 1)) (lv' := [(8, .int (x8_127 + 1)), (12, .int (α50.2 3 (v52 : Int32).toNatClampNeg)), (11, .int v46), (10, .int x10_127), (9, .int x9_127), (7, .int x7_127), (6, .int x6_127), (0, .ref (mad g 0)), (1, .int x1_127), (2, .int x2_127), (3, .int x3_127), (4, .int x4_127), (5, .int x5_127)]) hx hb d_Mod_minor_223 hl (k := 4) rfl rfl (by decide) rfl (fun ls hl => ?_)
                                      refine lv_goto (tgt := 70) hx hb d_Mod_minor_226 (by decide) ?_
                                      exact ih70 (x8_127 + 1) x7_127 x6_127 x1_127 x2_127 x3_127 x4_127 x5_127 _ _ _ _ h hI (lv_sub hl [0, 5, 6, 7, 8, 9, 10, 11, 12] rfl)
                              · replace h := Eq.trans (if_neg c39).symm h
                                refine lv_aload_n hx hb d_Mod_minor_136 rfl (lv_at hl 7 rfl) ?_
                                refine lv_iload hx hb d_Mod_minor_137 (lv_at hl 1 rfl) ?_
                                refine lv_aload_n hx hb d_Mod_minor_139 rfl (lv_at hl 7 rfl) ?_
                                refine lv_iload hx hb d_Mod_minor_140 (lv_at hl 2 rfl) ?_
                                refine lv_iload_n hx hb d_Mod_minor_142 rfl (lv_at hl 10 rfl) ?_
                                refine lv_iload hx hb d_Mod_minor_143 (lv_at hl 11 rfl) ?_
                                refine lv_iadd hx hb d_Mod_minor_145 ?_
                                refine lv_iload hx hb d_Mod_minor_146 (lv_at hl 0 rfl) ?_
                                obtain ⟨v55, e56, h⟩ := Option.bind_eq_some_iff.mp h
                                refine mg_p (As := [.int x10_127, .int (x3_127 + x4_127), .int x12_127]) (rest := [.int x11_127, .ref (mad g 0)]) ((k_Mod_nth (l := l) (g := g) (α := β127) N x10_127 (x3_127 + x4_127) x12_127) _ e56) S E hI kw_Mod_440 (Or.inl rfl) ⟨Nat.le_of_ble_eq_true rfl, Nat.le_of_ble_eq_true rfl⟩ (mv_Mod E hI) rfl hl.1 rfl (Nat.le_of_ble_eq_true rfl) d_Mod_minor_148 rfl ?_
                                refine mg_cI (As := [.int x11_127, .int v55]) (rest := []) h (k_Mod_apply (l := l) (g := g) (α := β127) N x11_127 v55) S hlocks hno E hI kw_Mod_350 ⟨Nat.le_of_ble_eq_true rfl, Nat.le_of_ble_eq_true rfl⟩ (mv_Mod E hI) rfl hl.1 rfl (Nat.le_of_ble_eq_true rfl) d_Mod_minor_151 (fun v59 α57 H locs e58 h hI => ?_)
                                refine lv_istore (lv' := [(11, .int v59), (12, .int x12_127), (10, .int x10_127), (9, .int x9_127), (8, .int x8_127), (7, .int x7_127), (6, .int x6_127), (0, .ref (mad g 0)), (1, .int x1_127), (2, .int x2_127), (3, .int x3_127), (4, .int x4_127), (5, .int x5_127)]) hx hb d_Mod_minor_154 hl (by decide) rfl (fun ls hl => ?_)
                                refine lv_iinc (v := (x12_127 + 1)) (lv' := [(12, .int (x12_127 + 1)), (11, .int v59), (10, .int x10_127), (9, .int x9_127), (8, .int x8_127), (7, .int x7_127), (6, .int x6_127), (0, .ref (mad g 0)), (1, .int x1_127), (2, .int x2_127), (3, .int x3_127), (4, .int x4_127), (5, .int x5_127)]) hx hb d_Mod_minor_156 hl (k := 1) rfl rfl (by decide) rfl (fun ls hl => ?_)
                                refine lv_goto (tgt := 127) hx hb d_Mod_minor_159 (by decide) ?_
                                exact ih127 (x12_127 + 1) v59 x10_127 x9_127 x8_127 x7_127 x6_127 x1_127 x2_127 x3_127 x4_127 x5_127 _ _ _ _ h hI (lv_sub hl [0, 1, 2, 3, 4, 5, 6, 7, 8, 9, 10, 11, 12] rfl)
                          exact L127 N x3_70 x5_70 v38 (β70.1 30) x8_70 x7_70 x6_70 x1_70 x2_70 x3_70 x4_70 x5_70 _ _ _ _ h hI (lv_sub hl [0, 1, 2, 3, 4, 5, 6, 7, 8, 9, 10, 11, 12] rfl)
                    · replace h := Eq.trans (if_pos c33).symm h
                      refine lv_goto (tgt := 223) hx hb d_Mod_minor_90 (by decide) ?_
                      refine lv_iinc (v := (x8_70 + 1)) (lv' := [(8, .int (x8_70 + 1)), (7, .int x7_70), (6, .int x6_70), (0, .ref (mad g 0)), (1, .int x1_70), (2, .int x2_70), (3, .int x3_70), (4, .int x4_70), (5, .int x5_70)]) hx hb d_Mod_minor_223 hl (k := 0) rfl rfl (by decide) rfl (fun ls hl => ?_)
                      refine lv_goto (tgt := 70) hx hb d_Mod_minor_226 (by decide) ?_
                      exact ih70 (x8_70 + 1) x7_70 x6_70 x1_70 x2_70 x3_70 x4_70 x5_70 _ _ _ _ h hI (lv_sub hl [0, 1, 2, 3, 4, 5, 6, 7, 8] rfl)
            exact L70 N 0 x7_28 x6_28 x1_28 x2_28 x3_28 x4_28 x5_28 _ _ _ _ h hI (lv_sub hl [0, 1, 2, 3, 4, 5, 6, 7, 8] rfl)
          · replace h := Eq.trans (if_neg c3).symm h
            refine lv_aload_n hx hb d_Mod_minor_35 rfl (lv_at hl 3 rfl) ?_
            refine mf_list S E hI vt_1340 d_Mod_minor_36 ?_
            refine lv_aload_n hx hb d_Mod_minor_39 rfl (lv_at hl 3 rfl) ?_
            refine lv_dup hx hb d_Mod_minor_40 rfl ?_
            refine mf_listed S E hI vt_1341 d_Mod_minor_41 ?_
            refine lv_dup_x1 hx hb d_Mod_minor_44 rfl rfl ?_
            refine lv_iconst (v := 1) hx hb d_Mod_minor_45 (by decide) ?_
            refine lv_iadd hx hb d_Mod_minor_46 ?_
            refine mp_listed S E hI vt_1341 d_Mod_minor_47 (fun H locs hI => ?_)
            refine lv_aload_n hx hb d_Mod_minor_50 rfl (lv_at hl 3 rfl) ?_
            refine mf_argument S E hI vt_1336 d_Mod_minor_51 ?_
            refine lv_iload hx hb d_Mod_minor_54 (lv_at hl 2 rfl) ?_
            refine lv_iload hx hb d_Mod_minor_56 (lv_at hl 0 rfl) ?_
            refine lv_iadd hx hb d_Mod_minor_58 ?_
            by_cases c60 : (x6_28 + x8_28) < 0 ∨ 4000 ≤ ((x6_28 + x8_28) : Int32).toNatClampNeg
            · replace h := Eq.trans (if_pos c60).symm h
              cases h
            · replace h := Eq.trans (if_neg c60).symm h
              refine ml_argument S E hI c60 d_Mod_minor_59 ?_
              by_cases c61 : (β28.1 30) < 0 ∨ 9000 ≤ ((β28.1 30) : Int32).toNatClampNeg
              · replace h := Eq.trans (if_pos c61).symm h
                cases h
              · replace h := Eq.trans (if_neg c61).symm h
                refine ms_list S E hI c61 d_Mod_minor_60 (fun H locs hI => ?_)
                refine lv_iinc (v := (x8_28 + 1)) (lv' := [(8, .int (x8_28 + 1)), (7, .int x7_28), (6, .int x6_28), (0, .ref (mad g 0)), (1, .int x1_28), (2, .int x2_28), (3, .int x3_28), (4, .int x4_28), (5, .int x5_28)]) hx hb d_Mod_minor_61 hl (k := 0) rfl rfl (by decide) rfl (fun ls hl => ?_)
                refine lv_goto (tgt := 28) hx hb d_Mod_minor_64 (by decide) ?_
                exact ih28 (x8_28 + 1) x7_28 x6_28 x1_28 x2_28 x3_28 x4_28 x5_28 _ _ _ _ h hI (lv_sub hl [0, 1, 2, 3, 4, 5, 6, 7, 8] rfl)
      exact L28 N 0 ((mSi α 30 0).2 18 (((a1 + 1) + a2) : Int32).toNatClampNeg) ((mSi α 30 0).2 36 (a2 : Int32).toNatClampNeg) a1 a2 a3 a4 a5 _ _ _ _ h hI (lv_sub hl [0, 1, 2, 3, 4, 5, 6, 7, 8] rfl)
def f_Mod_together (N : Nat) (a1 : Int32) (α : mS) : Option (kO × mS) := if a1 ≤ 6000 then (some (some none, α)) else (some (none, α))
set_option maxHeartbeats 4000000 in
set_option maxRecDepth 100000 in
theorem k_Mod_together {l : Launch} {g : mG} {α : mS} (N : Nat) (a1 : Int32)  : ∀ x, f_Mod_together N a1 α = some x → mC l g y_Mod_together b_Mod_together 2 none (43) (1260) [.ref (mad g 0), .int a1] α (mQr x) := by
  intro x h
  unfold f_Mod_together at h
  refine mc_ofW (by decide) (fun A p e s m args below meth c S hr hlocks hno hargs E hI => ?_)
  have hx := S.1
  have hb := S.2.1
  have hown := S.2.2.2.1
  have hT := S.2.2.2.2
  subst hargs
  have hl := lv_entry ([.ref (mad g 0), .int a1]) (n := 2) (Nat.le_of_ble_eq_true rfl)
  rw [lg_entry_eq]
  generalize (lg_sl ([.ref (mad g 0), .int a1]) ++ List.replicate (2 - (lg_sl ([.ref (mad g 0), .int a1])).length) Slot.unset).toArray = ls at hl ⊢
  have hl : lv_has ls 2 [(0, .ref (mad g 0)), (1, .int a1)] := hl
  refine lv_iload_n hx hb d_Mod_together_0 rfl (lv_at hl 1 rfl) ?_
  refine lv_sipush (v := 6000) hx hb d_Mod_together_1 (by decide) ?_
  refine lv_icmp_le (tgt := 13) hx hb d_Mod_together_4 (by decide) (fun c1 => ?_) (fun c1 => ?_)
  · replace h := Eq.trans (if_pos c1).symm h
    exact mc_vret hx hb hr hlocks E hI h d_Mod_together_13
  · replace h := Eq.trans (if_neg c1).symm h
    refine lv_bipush (v := 10) hx hb d_Mod_together_7 (by decide) ?_
    refine mg_fails S E hI kw_Mod_323 hl.1 ⟨Nat.le_of_ble_eq_true rfl, Nat.le_of_ble_eq_true rfl⟩ (Nat.le_of_ble_eq_true rfl) d_Mod_together_9 (fun q H locs hN => ?_)
    exact mg_athrow S hlocks hno E hN h d_Mod_together_12
def f_Mod_thrown  (α : mS) : Int32 := (α.1 2)
set_option maxHeartbeats 4000000 in
set_option maxRecDepth 100000 in
theorem k_Mod_thrown {l : Launch} {g : mG} {α : mS}   : mV l g y_Mod_thrown b_Mod_thrown 1 (some .int) (1) (1) [.ref (mad g 0)] α (f_Mod_thrown α) := by
  generalize h : f_Mod_thrown α = x
  unfold f_Mod_thrown at h
  refine mv_ofW (by decide) (fun A p e s m args below meth c S hr hlocks hargs E hI => ?_)
  have hx := S.1
  have hb := S.2.1
  have hown := S.2.2.2.1
  have hT := S.2.2.2.2
  subst hargs
  have hl := lv_entry ([.ref (mad g 0)]) (n := 1) (Nat.le_of_ble_eq_true rfl)
  rw [lg_entry_eq]
  generalize (lg_sl ([.ref (mad g 0)]) ++ List.replicate (1 - (lg_sl ([.ref (mad g 0)])).length) Slot.unset).toArray = ls at hl ⊢
  have hl : lv_has ls 1 [(0, .ref (mad g 0))] := hl
  refine lv_aload_n hx hb d_Mod_thrown_0 rfl (lv_at hl 0 rfl) ?_
  refine mf_thrown S E hI vt_1270 d_Mod_thrown_1 ?_
  exact kv_iret (w := (α.1 2)) hx hb hr rfl hlocks h d_Mod_thrown_4
theorem kw_Mod_580 : kWv "FamilyKernelModel" 580 "FamilyKernelModel" y_Mod_say_0 b_Mod_say_0 2 none 1 := ⟨vt_1721, vt_1722, vt_1723, vt_1349, vt_1724, by decide, by decide, by decide +kernel⟩
def f_Mod_say_2_2 (N : Nat) (r1 : Nat) : Nat → Int32 → mS → Option (kO × mS)
  | 0, _, _ => none
  | n + 1, x2_2, β2 => if (sLn r1) ≤ x2_2 then (some (some none, β2)) else (((sCh r1 x2_2)).bind fun v2 => (mBv (f_Mod_say_0 N v2 β2) fun α4 => (f_Mod_say_2_2 N r1 n (x2_2 + 1) α4)))
def f_Mod_say_2 (N : Nat) (r1 : Nat) (α : mS) : Option (kO × mS) := f_Mod_say_2_2 N r1 N 0 α
set_option maxHeartbeats 4000000 in
set_option maxRecDepth 100000 in
theorem k_Mod_say_2 {l : Launch} {g : mG} {α : mS} (N : Nat) (r1 : Nat) (hr1 : r1 < 51) : ∀ x, f_Mod_say_2 N r1 α = some x → mC l g y_Mod_say_2 b_Mod_say_2 3 none (5) (111) [.ref (mad g 0), .ref (kst g.1 r1)] α (mQr x) := by
  intro x h
  unfold f_Mod_say_2 at h
  refine mc_ofW (by decide) (fun A p e s m args below meth c S hr hlocks hno hargs E hI => ?_)
  have hx := S.1
  have hb := S.2.1
  have hown := S.2.2.2.1
  have hT := S.2.2.2.2
  subst hargs
  have hl := lv_entry ([.ref (mad g 0), .ref (kst g.1 r1)]) (n := 3) (Nat.le_of_ble_eq_true rfl)
  rw [lg_entry_eq]
  generalize (lg_sl ([.ref (mad g 0), .ref (kst g.1 r1)]) ++ List.replicate (3 - (lg_sl ([.ref (mad g 0), .ref (kst g.1 r1)])).length) Slot.unset).toArray = ls at hl ⊢
  have hl : lv_has ls 3 [(0, .ref (mad g 0)), (1, .ref (kst g.1 r1))] := hl
  refine lv_iconst (v := 0) hx hb d_Mod_say_2_0 (by decide) ?_
  refine lv_istore_n (lv' := [(2, .int 0), (0, .ref (mad g 0)), (1, .ref (kst g.1 r1))]) hx hb d_Mod_say_2_1 rfl hl (by decide) rfl (fun ls hl => ?_)
  have L2 : ∀ (n2 : Nat) (x2_2 : Int32) (β2 : mS) (H : Heap) (locs : List Loc) (ls : Array Slot), f_Mod_say_2_2 N r1 n2 x2_2 β2 = some x → mI g A s β2 H locs → lv_has ls 3 [(2, .int x2_2), (0, .ref (mad g 0)), (1, .ref (kst g.1 r1))] → W p l e (mR (5) (111)) s m ([.ref (mad g 0), .ref (kst g.1 r1)]).toArray below meth c H locs 0 0 (vEQ below (mQ g A (mQr x)) ([.ref (mad g 0), .ref (kst g.1 r1)]).toArray s A) (F0 m 2 ls []) := by
    intro n2
    induction n2 with
    | zero => intro x2_2 β2 H locs ls h hI hl; rw [f_Mod_say_2_2] at h; cases h
    | succ n2 ih2 =>
      intro x2_2 β2 H locs ls h hI hl
      rw [f_Mod_say_2_2] at h
      refine lv_iload_n hx hb d_Mod_say_2_2 rfl (lv_at hl 0 rfl) ?_
      refine lv_aload_n hx hb d_Mod_say_2_3 rfl (lv_at hl 2 rfl) ?_
      refine mg_p (As := []) (rest := [.int x2_2]) (m_Str_length (l := l) (g := g) (α := β2) hr1) S E hI kw_Mod_284 (Or.inl rfl) ⟨Nat.le_of_ble_eq_true rfl, Nat.le_of_ble_eq_true rfl⟩ (mv_Str hr1 E hI) rfl hl.1 rfl (Nat.le_of_ble_eq_true rfl) d_Mod_say_2_4 rfl ?_
      refine lv_icmp_ge (tgt := 25) hx hb d_Mod_say_2_7 (by decide) (fun c1 => ?_) (fun c1 => ?_)
      · replace h := Eq.trans (if_pos c1).symm h
        exact mc_vret hx hb hr hlocks E hI h d_Mod_say_2_25
      · replace h := Eq.trans (if_neg c1).symm h
        refine lv_aload_n hx hb d_Mod_say_2_10 rfl (lv_at hl 1 rfl) ?_
        refine lv_aload_n hx hb d_Mod_say_2_11 rfl (lv_at hl 2 rfl) ?_
        refine lv_iload_n hx hb d_Mod_say_2_12 rfl (lv_at hl 0 rfl) ?_
        obtain ⟨v2, e3, h⟩ := Option.bind_eq_some_iff.mp h
        refine mg_p (As := [.int x2_2]) (rest := [.ref (mad g 0)]) ((m_Str_charAt (l := l) (g := g) (α := β2) hr1 x2_2) _ e3) S E hI kw_Mod_289 (Or.inl rfl) ⟨Nat.le_of_ble_eq_true rfl, Nat.le_of_ble_eq_true rfl⟩ (mv_Str hr1 E hI) rfl hl.1 rfl (Nat.le_of_ble_eq_true rfl) d_Mod_say_2_13 rfl ?_
        refine mg_cV (As := [.int v2]) (rest := []) h (k_Mod_say_0 (l := l) (g := g) (α := β2) N v2) S hlocks hno E hI kw_Mod_580 ⟨Nat.le_of_ble_eq_true rfl, Nat.le_of_ble_eq_true rfl⟩ (mv_Mod E hI) rfl hl.1 rfl (Nat.le_of_ble_eq_true rfl) d_Mod_say_2_16 (fun α4 H locs e5 h hI => ?_)
        refine lv_iinc (v := (x2_2 + 1)) (lv' := [(2, .int (x2_2 + 1)), (0, .ref (mad g 0)), (1, .ref (kst g.1 r1))]) hx hb d_Mod_say_2_19 hl (k := 0) rfl rfl (by decide) rfl (fun ls hl => ?_)
        refine lv_goto (tgt := 2) hx hb d_Mod_say_2_22 (by decide) ?_
        exact ih2 (x2_2 + 1) _ _ _ _ h hI (lv_sub hl [0, 1, 2] rfl)
  exact L2 N 0 _ _ _ _ h hI (lv_sub hl [0, 1, 2] rfl)
