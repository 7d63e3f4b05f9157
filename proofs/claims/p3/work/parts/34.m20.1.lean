def f_Mod_heads_63 (N : Nat)  : Nat → Int32 → Int32 → mS → Option (kO × mS)
  | 0, _, _, _ => none
  | n + 1, x4_63, x3_63, β63 => if x3_63 ≤ x4_63 then (some (some none, β63)) else (if x4_63 < 0 ∨ 301 ≤ (x4_63 : Int32).toNatClampNeg then none else (if (β63.1 30) < 0 ∨ 9000 ≤ ((β63.1 30) : Int32).toNatClampNeg then none else (f_Mod_heads_63 N n (x4_63 + 1) x3_63 (mSA (mSi β63 30 ((β63.1 30) + 1)) 41 (upd ((mSi β63 30 ((β63.1 30) + 1)).2 41) ((β63.1 30) : Int32).toNatClampNeg ((mSi β63 30 ((β63.1 30) + 1)).2 42 (x4_63 : Int32).toNatClampNeg))))))
def f_Mod_heads_3 (N : Nat)  : Nat → Int32 → Int32 → Int32 → Int32 → mS → Option (kO × mS)
  | 0, _, _, _, _, _ => none
  | n + 1, x4_3, x1_3, x2_3, x3_3, β3 => if x1_3 ≤ x4_3 then (if x2_3 < 0 ∨ 400000 ≤ (x2_3 : Int32).toNatClampNeg then none else (if (β3.1 30) < 0 ∨ 9000 ≤ ((β3.1 30) : Int32).toNatClampNeg then none else (f_Mod_heads_63 N N 0 x3_3 (mSA (mSi β3 30 ((β3.1 30) + 1)) 41 (upd ((mSi β3 30 ((β3.1 30) + 1)).2 41) ((β3.1 30) : Int32).toNatClampNeg ((mSi β3 30 ((β3.1 30) + 1)).2 3 (x2_3 : Int32).toNatClampNeg)))))) else (if x4_3 < 0 ∨ 5000 ≤ (x4_3 : Int32).toNatClampNeg then none else (if (β3.1 30) < 0 ∨ 9000 ≤ ((β3.1 30) : Int32).toNatClampNeg then none else (f_Mod_heads_3 N n (x4_3 + 1) x1_3 x2_3 x3_3 (mSA (mSi β3 30 ((β3.1 30) + 1)) 41 (upd ((mSi β3 30 ((β3.1 30) + 1)).2 41) ((β3.1 30) : Int32).toNatClampNeg ((mSi β3 30 ((β3.1 30) + 1)).2 33 (x4_3 : Int32).toNatClampNeg))))))
def f_Mod_heads (N : Nat) (a1 : Int32) (a2 : Int32) (a3 : Int32) (α : mS) : Option (kO × mS) := f_Mod_heads_3 N N 0 a1 a2 a3 α
set_option maxHeartbeats 4000000 in
set_option maxRecDepth 100000 in
theorem k_Mod_heads {l : Launch} {g : mG} {α : mS} (N : Nat) (a1 : Int32) (a2 : Int32) (a3 : Int32)  : ∀ x, f_Mod_heads N a1 a2 a3 α = some x → mC l g y_Mod_heads b_Mod_heads 5 none (1) (1) [.ref (mad g 0), .int a1, .int a2, .int a3] α (mQr x) := by
  intro x h
  unfold f_Mod_heads at h
  refine mc_ofW (by decide) (fun A p e s m args below meth c S hr hlocks hno hargs E hI => ?_)
  have hx := S.1
  have hb := S.2.1
  have hown := S.2.2.2.1
  have hT := S.2.2.2.2
  subst hargs
  have hl := lv_entry ([.ref (mad g 0), .int a1, .int a2, .int a3]) (n := 5) (Nat.le_of_ble_eq_true rfl)
  rw [lg_entry_eq]
  generalize (lg_sl ([.ref (mad g 0), .int a1, .int a2, .int a3]) ++ List.replicate (5 - (lg_sl ([.ref (mad g 0), .int a1, .int a2, .int a3])).length) Slot.unset).toArray = ls at hl ⊢
  have hl : lv_has ls 5 [(0, .ref (mad g 0)), (1, .int a1), (2, .int a2), (3, .int a3)] := hl
  refine lv_iconst (v := 0) hx hb d_Mod_heads_0 (by decide) ?_
  refine lv_istore (lv' := [(4, .int 0), (0, .ref (mad g 0)), (1, .int a1), (2, .int a2), (3, .int a3)]) hx hb d_Mod_heads_1 hl (by decide) rfl (fun ls hl => ?_)
  have L3 : ∀ (n3 : Nat) (x4_3 : Int32) (x1_3 : Int32) (x2_3 : Int32) (x3_3 : Int32) (β3 : mS) (H : Heap) (locs : List Loc) (ls : Array Slot), f_Mod_heads_3 N n3 x4_3 x1_3 x2_3 x3_3 β3 = some x → mI g A s β3 H locs → lv_has ls 5 [(4, .int x4_3), (0, .ref (mad g 0)), (1, .int x1_3), (2, .int x2_3), (3, .int x3_3)] → W p l e (mR (1) (1)) s m ([.ref (mad g 0), .int a1, .int a2, .int a3]).toArray below meth c H locs 0 0 (vEQ below (mQ g A (mQr x)) ([.ref (mad g 0), .int a1, .int a2, .int a3]).toArray s A) (F0 m 3 ls []) := by
    intro n3
    induction n3 with
    | zero => intro x4_3 x1_3 x2_3 x3_3 β3 H locs ls h hI hl; rw [f_Mod_heads_3] at h; cases h
    | succ n3 ih3 =>
      intro x4_3 x1_3 x2_3 x3_3 β3 H locs ls h hI hl
      rw [f_Mod_heads_3] at h
      refine lv_iload hx hb d_Mod_heads_3 (lv_at hl 0 rfl) ?_
      refine lv_iload_n hx hb d_Mod_heads_5 rfl (lv_at hl 2 rfl) ?_
      refine lv_icmp_ge (tgt := 38) hx hb d_Mod_heads_6 (by decide) (fun c1 => ?_) (fun c1 => ?_)
      · replace h := Eq.trans (if_pos c1).symm h
        refine lv_aload_n hx hb d_Mod_heads_38 rfl (lv_at hl 1 rfl) ?_
        refine mf_list S E hI vt_1340 d_Mod_heads_39 ?_
        refine lv_aload_n hx hb d_Mod_heads_42 rfl (lv_at hl 1 rfl) ?_
        refine lv_dup hx hb d_Mod_heads_43 rfl ?_
        refine mf_listed S E hI vt_1341 d_Mod_heads_44 ?_
        refine lv_dup_x1 hx hb d_Mod_heads_47 rfl rfl ?_
        refine lv_iconst (v := 1) hx hb d_Mod_heads_48 (by decide) ?_
        refine lv_iadd hx hb d_Mod_heads_49 ?_
        refine mp_listed S E hI vt_1341 d_Mod_heads_50 (fun H locs hI => ?_)
        refine lv_aload_n hx hb d_Mod_heads_53 rfl (lv_at hl 1 rfl) ?_
        refine mf_one S E hI vt_1280 d_Mod_heads_54 ?_
        refine lv_iload_n hx hb d_Mod_heads_57 rfl (lv_at hl 3 rfl) ?_
        by_cases c2 : x2_3 < 0 ∨ 400000 ≤ (x2_3 : Int32).toNatClampNeg
        · replace h := Eq.trans (if_pos c2).symm h
          cases h
        · replace h := Eq.trans (if_neg c2).symm h
          refine ml_one S E hI c2 d_Mod_heads_58 ?_
          by_cases c3 : (β3.1 30) < 0 ∨ 9000 ≤ ((β3.1 30) : Int32).toNatClampNeg
          · replace h := Eq.trans (if_pos c3).symm h
            cases h
          · replace h := Eq.trans (if_neg c3).symm h
            refine ms_list S E hI c3 d_Mod_heads_59 (fun H locs hI => ?_)
            refine lv_iconst (v := 0) hx hb d_Mod_heads_60 (by decide) ?_
            refine lv_istore (lv' := [(4, .int 0), (0, .ref (mad g 0)), (1, .int x1_3), (2, .int x2_3), (3, .int x3_3)]) hx hb d_Mod_heads_61 hl (by decide) rfl (fun ls hl => ?_)
            have L63 : ∀ (n63 : Nat) (x4_63 : Int32) (x3_63 : Int32) (β63 : mS) (H : Heap) (locs : List Loc) (ls : Array Slot), f_Mod_heads_63 N n63 x4_63 x3_63 β63 = some x → mI g A s β63 H locs → lv_has ls 5 [(4, .int x4_63), (0, .ref (mad g 0)), (3, .int x3_63)] → W p l e (mR (1) (1)) s m ([.ref (mad g 0), .int a1, .int a2, .int a3]).toArray below meth c H locs 0 0 (vEQ below (mQ g A (mQr x)) ([.ref (mad g 0), .int a1, .int a2, .int a3]).toArray s A) (F0 m 63 ls []) := by
              intro n63
              induction n63 with
              | zero => intro x4_63 x3_63 β63 H locs ls h hI hl; rw [f_Mod_heads_63] at h; cases h
              | succ n63 ih63 =>
                intro x4_63 x3_63 β63 H locs ls h hI hl
                rw [f_Mod_heads_63] at h
                refine lv_iload hx hb d_Mod_heads_63 (lv_at hl 0 rfl) ?_
                refine lv_iload_n hx hb d_Mod_heads_65 rfl (lv_at hl 2 rfl) ?_
                refine lv_icmp_ge (tgt := 98) hx hb d_Mod_heads_66 (by decide) (fun c4 => ?_) (fun c4 => ?_)
                · replace h := Eq.trans (if_pos c4).symm h
                  exact mc_vret hx hb hr hlocks E hI h d_Mod_heads_98
                · replace h := Eq.trans (if_neg c4).symm h
                  refine lv_aload_n hx hb d_Mod_heads_69 rfl (lv_at hl 1 rfl) ?_
                  refine mf_list S E hI vt_1340 d_Mod_heads_70 ?_
                  refine lv_aload_n hx hb d_Mod_heads_73 rfl (lv_at hl 1 rfl) ?_
                  refine lv_dup hx hb d_Mod_heads_74 rfl ?_
                  refine mf_listed S E hI vt_1341 d_Mod_heads_75 ?_
                  refine lv_dup_x1 hx hb d_Mod_heads_78 rfl rfl ?_
                  refine lv_iconst (v := 1) hx hb d_Mod_heads_79 (by decide) ?_
                  refine lv_iadd hx hb d_Mod_heads_80 ?_
                  refine mp_listed S E hI vt_1341 d_Mod_heads_81 (fun H locs hI => ?_)
                  refine lv_aload_n hx hb d_Mod_heads_84 rfl (lv_at hl 1 rfl) ?_
                  refine mf_minors S E hI vt_1342 d_Mod_heads_85 ?_
                  refine lv_iload hx hb d_Mod_heads_88 (lv_at hl 0 rfl) ?_
                  by_cases c5 : x4_63 < 0 ∨ 301 ≤ (x4_63 : Int32).toNatClampNeg
                  · replace h := Eq.trans (if_pos c5).symm h
                    cases h
                  · replace h := Eq.trans (if_neg c5).symm h
                    refine ml_minors S E hI c5 d_Mod_heads_90 ?_
                    by_cases c6 : (β63.1 30) < 0 ∨ 9000 ≤ ((β63.1 30) : Int32).toNatClampNeg
                    · replace h := Eq.trans (if_pos c6).symm h
                      cases h
                    · replace h := Eq.trans (if_neg c6).symm h
                      refine ms_list S E hI c6 d_Mod_heads_91 (fun H locs hI => ?_)
                      refine lv_iinc (v := (x4_63 + 1)) (lv' := [(4, .int (x4_63 + 1)), (0, .ref (mad g 0)), (3, .int x3_63)]) hx hb d_Mod_heads_92 hl (k := 0) rfl rfl (by decide) rfl (fun ls hl => ?_)
                      refine lv_goto (tgt := 63) hx hb d_Mod_heads_95 (by decide) ?_
                      exact ih63 (x4_63 + 1) x3_63 _ _ _ _ h hI (lv_sub hl [0, 1, 2] rfl)
            exact L63 N 0 x3_3 _ _ _ _ h hI (lv_sub hl [0, 1, 4] rfl)
      · replace h := Eq.trans (if_neg c1).symm h
        refine lv_aload_n hx hb d_Mod_heads_9 rfl (lv_at hl 1 rfl) ?_
        refine mf_list S E hI vt_1340 d_Mod_heads_10 ?_
        refine lv_aload_n hx hb d_Mod_heads_13 rfl (lv_at hl 1 rfl) ?_
        refine lv_dup hx hb d_Mod_heads_14 rfl ?_
        refine mf_listed S E hI vt_1341 d_Mod_heads_15 ?_
        refine lv_dup_x1 hx hb d_Mod_heads_18 rfl rfl ?_
        refine lv_iconst (v := 1) hx hb d_Mod_heads_19 (by decide) ?_
        refine lv_iadd hx hb d_Mod_heads_20 ?_
        refine mp_listed S E hI vt_1341 d_Mod_heads_21 (fun H locs hI => ?_)
        refine lv_aload_n hx hb d_Mod_heads_24 rfl (lv_at hl 1 rfl) ?_
        refine mf_are S E hI vt_1331 d_Mod_heads_25 ?_
        refine lv_iload hx hb d_Mod_heads_28 (lv_at hl 0 rfl) ?_
        by_cases c7 : x4_3 < 0 ∨ 5000 ≤ (x4_3 : Int32).toNatClampNeg
        · replace h := Eq.trans (if_pos c7).symm h
          cases h
        · replace h := Eq.trans (if_neg c7).symm h
          refine ml_are S E hI c7 d_Mod_heads_30 ?_
          by_cases c8 : (β3.1 30) < 0 ∨ 9000 ≤ ((β3.1 30) : Int32).toNatClampNeg
          · replace h := Eq.trans (if_pos c8).symm h
            cases h
          · replace h := Eq.trans (if_neg c8).symm h
            refine ms_list S E hI c8 d_Mod_heads_31 (fun H locs hI => ?_)
            refine lv_iinc (v := (x4_3 + 1)) (lv' := [(4, .int (x4_3 + 1)), (0, .ref (mad g 0)), (1, .int x1_3), (2, .int x2_3), (3, .int x3_3)]) hx hb d_Mod_heads_32 hl (k := 0) rfl rfl (by decide) rfl (fun ls hl => ?_)
            refine lv_goto (tgt := 3) hx hb d_Mod_heads_35 (by decide) ?_
            exact ih3 (x4_3 + 1) x1_3 x2_3 x3_3 _ _ _ _ h hI (lv_sub hl [0, 1, 2, 3, 4] rfl)
  exact L3 N 0 a1 a2 a3 _ _ _ _ h hI (lv_sub hl [0, 1, 2, 3, 4] rfl)
theorem kw_Mod_564 : kWv "FamilyKernelModel" 564 "FamilyKernelModel" y_Mod_heads b_Mod_heads 5 none 3 := ⟨vt_1680, vt_1681, vt_1682, vt_1349, vt_1683, by decide, by decide, by decide +kernel⟩
def f_Mod_ruleOf_239 (N : Nat)  (k129 : Int32 → Int32 → Int32 → Int32 → Int32 → Int32 → Int32 → Int32 → Int32 → mS → Option (kO × mS)) (k204 : Int32 → Int32 → Int32 → Int32 → Int32 → Int32 → Int32 → Int32 → Int32 → Int32 → Int32 → Int32 → Int32 → mS → Option (kO × mS)) : Nat → Int32 → Int32 → Int32 → Int32 → Int32 → Int32 → Int32 → Int32 → Int32 → Int32 → Int32 → Int32 → Int32 → mS → Option (kO × mS)
  | 0, _, _, _, _, _, _, _, _, _, _, _, _, _, _ => none
  | n + 1, x14_239, x13_239, x12_239, x11_239, x10_239, x9_239, x8_239, x7_239, x1_239, x3_239, x4_239, x5_239, x6_239, β239 => if (x3_239 + x4_239) ≤ x14_239 then (if (x7_239 + x10_239) < 0 ∨ 4000 ≤ ((x7_239 + x10_239) : Int32).toNatClampNeg then none else (mBi (f_Mod_applied2 N (β239.2 38 ((x7_239 + x10_239) : Int32).toNatClampNeg) β239) fun v36 α34 => (mBi (f_Mod_apply N x13_239 v36 α34) fun v39 α37 => (mBi (f_Mod_chain N 7 x11_239 v39 α37) fun v42 α40 => (mBi (f_Mod_apply N x9_239 v42 α40) fun v45 α43 => (k129 (x10_239 + 1) v45 x8_239 x7_239 x1_239 x3_239 x4_239 x5_239 x6_239 α43)))))) else (((f_Mod_nth N x12_239 (x3_239 + x4_239) x14_239 β239)).bind fun v46 => (mBi (f_Mod_apply N x13_239 v46 β239) fun v50 α48 => (f_Mod_ruleOf_239 N k129 k204 n (x14_239 + 1) v50 x12_239 x11_239 x10_239 x9_239 x8_239 x7_239 x1_239 x3_239 x4_239 x5_239 x6_239 α48)))
def f_Mod_ruleOf_204 (N : Nat)  (k129 : Int32 → Int32 → Int32 → Int32 → Int32 → Int32 → Int32 → Int32 → Int32 → mS → Option (kO × mS)) : Nat → Int32 → Int32 → Int32 → Int32 → Int32 → Int32 → Int32 → Int32 → Int32 → Int32 → Int32 → Int32 → Int32 → mS → Option (kO × mS)
  | 0, _, _, _, _, _, _, _, _, _, _, _, _, _, _ => none
  | n + 1, x14_204, x13_204, x12_204, x11_204, x10_204, x9_204, x8_204, x7_204, x1_204, x3_204, x4_204, x5_204, x6_204, β204 => if x6_204 ≤ x14_204 then (f_Mod_ruleOf_239 N k129 (f_Mod_ruleOf_204 N k129 n) N x3_204 x13_204 x12_204 x11_204 x10_204 x9_204 x8_204 x7_204 x1_204 x3_204 x4_204 x5_204 x6_204 β204) else (if x14_204 < 0 ∨ 301 ≤ (x14_204 : Int32).toNatClampNeg then none else (mBi (f_Mod_free N (β204.2 42 (x14_204 : Int32).toNatClampNeg) β204) fun v54 α52 => (mBi (f_Mod_apply N x13_204 v54 α52) fun v57 α55 => (f_Mod_ruleOf_204 N k129 n (x14_204 + 1) v57 x12_204 x11_204 x10_204 x9_204 x8_204 x7_204 x1_204 x3_204 x4_204 x5_204 x6_204 α55))))
def f_Mod_ruleOf_129 (N : Nat)  : Nat → Int32 → Int32 → Int32 → Int32 → Int32 → Int32 → Int32 → Int32 → Int32 → mS → Option (kO × mS)
  | 0, _, _, _, _, _, _, _, _, _, _ => none
  | n + 1, x10_129, x9_129, x8_129, x7_129, x1_129, x3_129, x4_129, x5_129, x6_129, β129 => if x8_129 ≤ x10_129 then (mBi (f_Mod_chain N 7 0 x9_129 β129) fun v14 α12 => (some (some (some v14), α12))) else (if (x7_129 + x10_129) < 0 ∨ 4000 ≤ ((x7_129 + x10_129) : Int32).toNatClampNeg then none else (if (β129.2 39 ((x7_129 + x10_129) : Int32).toNatClampNeg) = 0 then (f_Mod_ruleOf_129 N n (x10_129 + 1) x9_129 x8_129 x7_129 x1_129 x3_129 x4_129 x5_129 x6_129 β129) else (if (x7_129 + x10_129) < 0 ∨ 4000 ≤ ((x7_129 + x10_129) : Int32).toNatClampNeg then none else (if (β129.2 38 ((x7_129 + x10_129) : Int32).toNatClampNeg) < 0 ∨ 66000 ≤ ((β129.2 38 ((x7_129 + x10_129) : Int32).toNatClampNeg) : Int32).toNatClampNeg then none else (mBi (f_Mod_ended N (β129.2 32 ((β129.2 38 ((x7_129 + x10_129) : Int32).toNatClampNeg) : Int32).toNatClampNeg) β129) fun v21 α19 => (mBi (f_Mod_node N 2 x1_129 (-1) 0 α19) fun v24 α22 => (mBi (f_Mod_of N v24 0 x3_129 α22) fun v27 α25 => (mBi (f_Mod_apply N v27 x5_129 α25) fun v30 α28 => (f_Mod_ruleOf_204 N (f_Mod_ruleOf_129 N n) N 0 v30 v21 (β129.1 30) x10_129 x9_129 x8_129 x7_129 x1_129 x3_129 x4_129 x5_129 x6_129 α28)))))))))
def f_Mod_ruleOf_91 (N : Nat)  : Nat → Int32 → Int32 → Int32 → Int32 → Int32 → Int32 → Int32 → Int32 → Int32 → mS → Option (kO × mS)
  | 0, _, _, _, _, _, _, _, _, _, _ => none
  | n + 1, x10_91, x9_91, x8_91, x7_91, x1_91, x3_91, x4_91, x5_91, x6_91, β91 => if x8_91 ≤ x10_91 then (f_Mod_ruleOf_129 N N 0 x9_91 x8_91 x7_91 x1_91 x3_91 x4_91 x5_91 x6_91 β91) else (if (x7_91 + x10_91) < 0 ∨ 4000 ≤ ((x7_91 + x10_91) : Int32).toNatClampNeg then none else (mBi (f_Mod_free N (β91.2 38 ((x7_91 + x10_91) : Int32).toNatClampNeg) β91) fun v61 α59 => (mBi (f_Mod_apply N x9_91 v61 α59) fun v64 α62 => (f_Mod_ruleOf_91 N n (x10_91 + 1) v64 x8_91 x7_91 x1_91 x3_91 x4_91 x5_91 x6_91 α62))))
def f_Mod_ruleOf_37 (N : Nat)  : Nat → Int32 → Int32 → Int32 → Int32 → Int32 → Int32 → Int32 → Int32 → Int32 → mS → Option (kO × mS)
  | 0, _, _, _, _, _, _, _, _, _, _ => none
  | n + 1, x9_37, x8_37, x7_37, x1_37, x2_37, x3_37, x4_37, x5_37, x6_37, β37 => if x8_37 ≤ x9_37 then (if x2_37 < 0 ∨ 301 ≤ (x2_37 : Int32).toNatClampNeg then none else (mBi (f_Mod_free N (β37.2 42 (x2_37 : Int32).toNatClampNeg) β37) fun v9 α7 => (f_Mod_ruleOf_91 N N 0 v9 x8_37 x7_37 x1_37 x3_37 x4_37 x5_37 x6_37 α7))) else (if (x7_37 + x9_37) < 0 ∨ 4000 ≤ ((x7_37 + x9_37) : Int32).toNatClampNeg then none else (if (β37.1 30) < 0 ∨ 9000 ≤ ((β37.1 30) : Int32).toNatClampNeg then none else (f_Mod_ruleOf_37 N n (x9_37 + 1) x8_37 x7_37 x1_37 x2_37 x3_37 x4_37 x5_37 x6_37 (mSA (mSi β37 30 ((β37.1 30) + 1)) 41 (upd ((mSi β37 30 ((β37.1 30) + 1)).2 41) ((β37.1 30) : Int32).toNatClampNeg ((mSi β37 30 ((β37.1 30) + 1)).2 38 ((x7_37 + x9_37) : Int32).toNatClampNeg))))))
def f_Mod_ruleOf (N : Nat) (a1 : Int32) (a2 : Int32) (a3 : Int32) (a4 : Int32) (a5 : Int32) (a6 : Int32) (α : mS) : Option (kO × mS) := mBv (f_Mod_heads N a3 a5 a6 (mSi α 30 0)) fun α1 => (if a2 < 0 ∨ 301 ≤ (a2 : Int32).toNatClampNeg then none else (if ((a1 + 1) + a2) < 0 ∨ 301 ≤ (((a1 + 1) + a2) : Int32).toNatClampNeg then none else (f_Mod_ruleOf_37 N N 0 (α1.2 18 (((a1 + 1) + a2) : Int32).toNatClampNeg) (α1.2 36 (a2 : Int32).toNatClampNeg) a1 a2 a3 a4 a5 a6 α1)))
set_option maxHeartbeats 4000000 in
set_option maxRecDepth 100000 in
theorem k_Mod_ruleOf {l : Launch} {g : mG} {α : mS} (N : Nat) (a1 : Int32) (a2 : Int32) (a3 : Int32) (a4 : Int32) (a5 : Int32) (a6 : Int32)  : ∀ x, f_Mod_ruleOf N a1 a2 a3 a4 a5 a6 α = some x → mC l g y_Mod_ruleOf b_Mod_ruleOf 15 (some .int) (850) (23830) [.ref (mad g 0), .int a1, .int a2, .int a3, .int a4, .int a5, .int a6] α (mQr x) := by
  intro x h
  unfold f_Mod_ruleOf at h
  refine mc_ofW (by decide) (fun A p e s m args below meth c S hr hlocks hno hargs E hI => ?_)
  have hx := S.1
  have hb := S.2.1
  have hown := S.2.2.2.1
  have hT := S.2.2.2.2
  subst hargs
  have hl := lv_entry ([.ref (mad g 0), .int a1, .int a2, .int a3, .int a4, .int a5, .int a6]) (n := 15) (Nat.le_of_ble_eq_true rfl)
  rw [lg_entry_eq]
  generalize (lg_sl ([.ref (mad g 0), .int a1, .int a2, .int a3, .int a4, .int a5, .int a6]) ++ List.replicate (15 - (lg_sl ([.ref (mad g 0), .int a1, .int a2, .int a3, .int a4, .int a5, .int a6])).length) Slot.unset).toArray = ls at hl ⊢
  have hl : lv_has ls 15 [(0, .ref (mad g 0)), (1, .int a1), (2, .int a2), (3, .int a3), (4, .int a4), (5, .int a5), (6, .int a6)] := hl
  refine lv_aload_n hx hb d_Mod_ruleOf_0 rfl (lv_at hl 0 rfl) ?_
  refine lv_iconst (v := 0) hx hb d_Mod_ruleOf_1 (by decide) ?_
  refine mp_listed S E hI vt_1341 d_Mod_ruleOf_2 (fun H locs hI => ?_)
  refine lv_aload_n hx hb d_Mod_ruleOf_5 rfl (lv_at hl 0 rfl) ?_
  refine lv_iload_n hx hb d_Mod_ruleOf_6 rfl (lv_at hl 3 rfl) ?_
  refine lv_iload hx hb d_Mod_ruleOf_7 (lv_at hl 5 rfl) ?_
  refine lv_iload hx hb d_Mod_ruleOf_9 (lv_at hl 6 rfl) ?_
  refine mg_cV (As := [.int a3, .int a5, .int a6]) (rest := []) h (k_Mod_heads (l := l) (g := g) (α := (mSi α 30 0)) N a3 a5 a6) S hlocks hno E hI kw_Mod_564 ⟨Nat.le_of_ble_eq_true rfl, Nat.le_of_ble_eq_true rfl⟩ (mv_Mod E hI) rfl hl.1 rfl (Nat.le_of_ble_eq_true rfl) d_Mod_ruleOf_11 (fun α1 H locs e2 h hI => ?_)
  refine lv_aload_n hx hb d_Mod_ruleOf_14 rfl (lv_at hl 0 rfl) ?_
  refine mf_firstArgument S E hI vt_1334 d_Mod_ruleOf_15 ?_
  refine lv_iload_n hx hb d_Mod_ruleOf_18 rfl (lv_at hl 2 rfl) ?_
  by_cases c3 : a2 < 0 ∨ 301 ≤ (a2 : Int32).toNatClampNeg
  · replace h := Eq.trans (if_pos c3).symm h
    cases h
  · replace h := Eq.trans (if_neg c3).symm h
    refine ml_firstArgument S E hI c3 d_Mod_ruleOf_19 ?_
    refine lv_istore (lv' := [(7, .int (α1.2 36 (a2 : Int32).toNatClampNeg)), (0, .ref (mad g 0)), (1, .int a1), (2, .int a2), (3, .int a3), (4, .int a4), (5, .int a5), (6, .int a6)]) hx hb d_Mod_ruleOf_20 hl (by decide) rfl (fun ls hl => ?_)
    refine lv_aload_n hx hb d_Mod_ruleOf_22 rfl (lv_at hl 1 rfl) ?_
    refine mf_arguments S E hI vt_1302 d_Mod_ruleOf_23 ?_
    refine lv_iload_n hx hb d_Mod_ruleOf_26 rfl (lv_at hl 2 rfl) ?_
    refine lv_iconst (v := 1) hx hb d_Mod_ruleOf_27 (by decide) ?_
    refine lv_iadd hx hb d_Mod_ruleOf_28 ?_
    refine lv_iload_n hx hb d_Mod_ruleOf_29 rfl (lv_at hl 3 rfl) ?_
    refine lv_iadd hx hb d_Mod_ruleOf_30 ?_
    by_cases c4 : ((a1 + 1) + a2) < 0 ∨ 301 ≤ (((a1 + 1) + a2) : Int32).toNatClampNeg
    · replace h := Eq.trans (if_pos c4).symm h
      cases h
    · replace h := Eq.trans (if_neg c4).symm h
      refine ml_arguments S E hI c4 d_Mod_ruleOf_31 ?_
      refine lv_istore (lv' := [(8, .int (α1.2 18 (((a1 + 1) + a2) : Int32).toNatClampNeg)), (7, .int (α1.2 36 (a2 : Int32).toNatClampNeg)), (0, .ref (mad g 0)), (1, .int a1), (2, .int a2), (3, .int a3), (4, .int a4), (5, .int a5), (6, .int a6)]) hx hb d_Mod_ruleOf_32 hl (by decide) rfl (fun ls hl => ?_)
      refine lv_iconst (v := 0) hx hb d_Mod_ruleOf_34 (by decide) ?_
      refine lv_istore (lv' := [(9, .int 0), (8, .int (α1.2 18 (((a1 + 1) + a2) : Int32).toNatClampNeg)), (7, .int (α1.2 36 (a2 : Int32).toNatClampNeg)), (0, .ref (mad g 0)), (1, .int a1), (2, .int a2), (3, .int a3), (4, .int a4), (5, .int a5), (6, .int a6)]) hx hb d_Mod_ruleOf_35 hl (by decide) rfl (fun ls hl => ?_)
      have L37 : ∀ (n37 : Nat) (x9_37 : Int32) (x8_37 : Int32) (x7_37 : Int32) (x1_37 : Int32) (x2_37 : Int32) (x3_37 : Int32) (x4_37 : Int32) (x5_37 : Int32) (x6_37 : Int32) (β37 : mS) (H : Heap) (locs : List Loc) (ls : Array Slot), f_Mod_ruleOf_37 N n37 x9_37 x8_37 x7_37 x1_37 x2_37 x3_37 x4_37 x5_37 x6_37 β37 = some x → mI g A s β37 H locs → lv_has ls 15 [(9, .int x9_37), (8, .int x8_37), (7, .int x7_37), (0, .ref (mad g 0)), (1, .int x1_37), (2, .int x2_37), (3, .int x3_37), (4, .int x4_37), (5, .int x5_37), (6, .int x6_37)] → W p l e (mR (850) (23830)) s m ([.ref (mad g 0), .int a1, .int a2, .int a3, .int a4, .int a5, .int a6]).toArray below meth c H locs 0 0 (vEQ below (mQ g A (mQr x)) ([.ref (mad g 0), .int a1, .int a2, .int a3, .int a4, .int a5, .int a6]).toArray s A) (F0 m 37 ls []) := by
        intro n37
        induction n37 with
        | zero => intro x9_37 x8_37 x7_37 x1_37 x2_37 x3_37 x4_37 x5_37 x6_37 β37 H locs ls h hI hl; rw [f_Mod_ruleOf_37] at h; cases h
        | succ n37 ih37 =>
          intro x9_37 x8_37 x7_37 x1_37 x2_37 x3_37 x4_37 x5_37 x6_37 β37 H locs ls h hI hl
          rw [f_Mod_ruleOf_37] at h
          refine lv_iload hx hb d_Mod_ruleOf_37 (lv_at hl 0 rfl) ?_
          refine lv_iload hx hb d_Mod_ruleOf_39 (lv_at hl 1 rfl) ?_
          refine lv_icmp_ge (tgt := 76) hx hb d_Mod_ruleOf_41 (by decide) (fun c5 => ?_) (fun c5 => ?_)
          · replace h := Eq.trans (if_pos c5).symm h
            refine lv_aload_n hx hb d_Mod_ruleOf_76 rfl (lv_at hl 3 rfl) ?_
            refine lv_aload_n hx hb d_Mod_ruleOf_77 rfl (lv_at hl 3 rfl) ?_
            refine mf_minors S E hI vt_1342 d_Mod_ruleOf_78 ?_
            refine lv_iload_n hx hb d_Mod_ruleOf_81 rfl (lv_at hl 5 rfl) ?_
            by_cases c6 : x2_37 < 0 ∨ 301 ≤ (x2_37 : Int32).toNatClampNeg
            · replace h := Eq.trans (if_pos c6).symm h
              cases h
            · replace h := Eq.trans (if_neg c6).symm h
              refine ml_minors S E hI c6 d_Mod_ruleOf_82 ?_
              refine mg_cI (As := [.int (β37.2 42 (x2_37 : Int32).toNatClampNeg)]) (rest := []) h (k_Mod_free (l := l) (g := g) (α := β37) N (β37.2 42 (x2_37 : Int32).toNatClampNeg)) S hlocks hno E hI kw_Mod_353 ⟨Nat.le_of_ble_eq_true rfl, Nat.le_of_ble_eq_true rfl⟩ (mv_Mod E hI) rfl hl.1 rfl (Nat.le_of_ble_eq_true rfl) d_Mod_ruleOf_83 (fun v9 α7 H locs e8 h hI => ?_)
              refine lv_istore (lv' := [(9, .int v9), (8, .int x8_37), (7, .int x7_37), (0, .ref (mad g 0)), (1, .int x1_37), (2, .int x2_37), (3, .int x3_37), (4, .int x4_37), (5, .int x5_37), (6, .int x6_37)]) hx hb d_Mod_ruleOf_86 hl (by decide) rfl (fun ls hl => ?_)
              refine lv_iconst (v := 0) hx hb d_Mod_ruleOf_88 (by decide) ?_
              refine lv_istore (lv' := [(10, .int 0), (9, .int v9), (8, .int x8_37), (7, .int x7_37), (0, .ref (mad g 0)), (1, .int x1_37), (2, .int x2_37), (3, .int x3_37), (4, .int x4_37), (5, .int x5_37), (6, .int x6_37)]) hx hb d_Mod_ruleOf_89 hl (by decide) rfl (fun ls hl => ?_)
              have L91 : ∀ (n91 : Nat) (x10_91 : Int32) (x9_91 : Int32) (x8_91 : Int32) (x7_91 : Int32) (x1_91 : Int32) (x3_91 : Int32) (x4_91 : Int32) (x5_91 : Int32) (x6_91 : Int32) (β91 : mS) (H : Heap) (locs : List Loc) (ls : Array Slot), f_Mod_ruleOf_91 N n91 x10_91 x9_91 x8_91 x7_91 x1_91 x3_91 x4_91 x5_91 x6_91 β91 = some x → mI g A s β91 H locs → lv_has ls 15 [(10, .int x10_91), (9, .int x9_91), (8, .int x8_91), (7, .int x7_91), (0, .ref (mad g 0)), (1, .int x1_91), (3, .int x3_91), (4, .int x4_91), (5, .int x5_91), (6, .int x6_91)] → W p l e (mR (850) (23830)) s m ([.ref (mad g 0), .int a1, .int a2, .int a3, .int a4, .int a5, .int a6]).toArray below meth c H locs 0 0 (vEQ below (mQ g A (mQr x)) ([.ref (mad g 0), .int a1, .int a2, .int a3, .int a4, .int a5, .int a6]).toArray s A) (F0 m 91 ls []) := by
                intro n91
                induction n91 with
                | zero => intro x10_91 x9_91 x8_91 x7_91 x1_91 x3_91 x4_91 x5_91 x6_91 β91 H locs ls h hI hl; rw [f_Mod_ruleOf_91] at h; cases h
                | succ n91 ih91 =>
                  intro x10_91 x9_91 x8_91 x7_91 x1_91 x3_91 x4_91 x5_91 x6_91 β91 H locs ls h hI hl
                  rw [f_Mod_ruleOf_91] at h
                  refine lv_iload hx hb d_Mod_ruleOf_91 (lv_at hl 0 rfl) ?_
                  refine lv_iload hx hb d_Mod_ruleOf_93 (lv_at hl 2 rfl) ?_
                  refine lv_icmp_ge (tgt := 126) hx hb d_Mod_ruleOf_95 (by decide) (fun c10 => ?_) (fun c10 => ?_)
                  · replace h := Eq.trans (if_pos c10).symm h
                    refine lv_iconst (v := 0) hx hb d_Mod_ruleOf_126 (by decide) ?_
                    refine lv_istore (lv' := [(10, .int 0), (9, .int x9_91), (8, .int x8_91), (7, .int x7_91), (0, .ref (mad g 0)), (1, .int x1_91), (3, .int x3_91), (4, .int x4_91), (5, .int x5_91), (6, .int x6_91)]) hx hb d_Mod_ruleOf_127 hl (by decide) rfl (fun ls hl => ?_)
                    have L129 : ∀ (n129 : Nat) (x10_129 : Int32) (x9_129 : Int32) (x8_129 : Int32) (x7_129 : Int32) (x1_129 : Int32) (x3_129 : Int32) (x4_129 : Int32) (x5_129 : Int32) (x6_129 : Int32) (β129 : mS) (H : Heap) (locs : List Loc) (ls : Array Slot), f_Mod_ruleOf_129 N n129 x10_129 x9_129 x8_129 x7_129 x1_129 x3_129 x4_129 x5_129 x6_129 β129 = some x → mI g A s β129 H locs → lv_has ls 15 [(10, .int x10_129), (9, .int x9_129), (8, .int x8_129), (7, .int x7_129), (0, .ref (mad g 0)), (1, .int x1_129), (3, .int x3_129), (4, .int x4_129), (5, .int x5_129), (6, .int x6_129)] → W p l e (mR (850) (23830)) s m ([.ref (mad g 0), .int a1, .int a2, .int a3, .int a4, .int a5, .int a6]).toArray below meth c H locs 0 0 (vEQ below (mQ g A (mQr x)) ([.ref (mad g 0), .int a1, .int a2, .int a3, .int a4, .int a5, .int a6]).toArray s A) (F0 m 129 ls []) := by
                      intro n129
                      induction n129 with
                      | zero => intro x10_129 x9_129 x8_129 x7_129 x1_129 x3_129 x4_129 x5_129 x6_129 β129 H locs ls h hI hl; rw [f_Mod_ruleOf_129] at h; cases h
                      | succ n129 ih129 =>
                        intro x10_129 x9_129 x8_129 x7_129 x1_129 x3_129 x4_129 x5_129 x6_129 β129 H locs ls h hI hl
                        rw [f_Mod_ruleOf_129] at h
                        refine lv_iload hx hb d_Mod_ruleOf_129 (lv_at hl 0 rfl) ?_
                        refine lv_iload hx hb d_Mod_ruleOf_131 (lv_at hl 2 rfl) ?_
                        refine lv_icmp_ge (tgt := 316) hx hb d_Mod_ruleOf_133 (by decide) (fun c11 => ?_) (fun c11 => ?_)
                        · replace h := Eq.trans (if_pos c11).symm h
                          refine lv_aload_n hx hb d_Mod_ruleOf_316 rfl (lv_at hl 4 rfl) ?_
                          refine lv_bipush (v := 7) hx hb d_Mod_ruleOf_317 (by decide) ?_
                          refine lv_iconst (v := 0) hx hb d_Mod_ruleOf_319 (by decide) ?_
                          refine lv_iload hx hb d_Mod_ruleOf_320 (lv_at hl 1 rfl) ?_
                          refine mg_cI (As := [.int 7, .int 0, .int x9_129]) (rest := []) h (k_Mod_chain (l := l) (g := g) (α := β129) N 7 0 x9_129) S hlocks hno E hI kw_Mod_558 ⟨Nat.le_of_ble_eq_true rfl, Nat.le_of_ble_eq_true rfl⟩ (mv_Mod E hI) rfl hl.1 rfl (Nat.le_of_ble_eq_true rfl) d_Mod_ruleOf_322 (fun v14 α12 H locs e13 h hI => ?_)
                          exact mc_iret (w := v14) hx hb hr rfl hlocks E hI h d_Mod_ruleOf_325
                        · replace h := Eq.trans (if_neg c11).symm h
                          refine lv_aload_n hx hb d_Mod_ruleOf_136 rfl (lv_at hl 4 rfl) ?_
                          refine mf_isRecursive S E hI vt_1337 d_Mod_ruleOf_137 ?_
                          refine lv_iload hx hb d_Mod_ruleOf_140 (lv_at hl 3 rfl) ?_
                          refine lv_iload hx hb d_Mod_ruleOf_142 (lv_at hl 0 rfl) ?_
                          refine lv_iadd hx hb d_Mod_ruleOf_144 ?_
                          by_cases c15 : (x7_129 + x10_129) < 0 ∨ 4000 ≤ ((x7_129 + x10_129) : Int32).toNatClampNeg
                          · replace h := Eq.trans (if_pos c15).symm h
                            cases h
                          · replace h := Eq.trans (if_neg c15).symm h
                            refine ml_isRecursive S E hI c15 d_Mod_ruleOf_145 ?_
                            refine lv_if_ne (tgt := 152) hx hb d_Mod_ruleOf_146 (by decide) (fun c16 => ?_) (fun c16 => ?_)
                            · replace h := Eq.trans (if_neg c16).symm h
                              refine lv_aload_n hx hb d_Mod_ruleOf_152 rfl (lv_at hl 4 rfl) ?_
                              refine mf_listed S E hI vt_1341 d_Mod_ruleOf_153 ?_
                              refine lv_istore (lv' := [(11, .int (β129.1 30)), (10, .int x10_129), (9, .int x9_129), (8, .int x8_129), (7, .int x7_129), (0, .ref (mad g 0)), (1, .int x1_129), (3, .int x3_129), (4, .int x4_129), (5, .int x5_129), (6, .int x6_129)]) hx hb d_Mod_ruleOf_156 hl (by decide) rfl (fun ls hl => ?_)
                              refine lv_aload_n hx hb d_Mod_ruleOf_158 rfl (lv_at hl 5 rfl) ?_
                              refine lv_aload_n hx hb d_Mod_ruleOf_159 rfl (lv_at hl 5 rfl) ?_
                              refine mf_typeOfVariable S E hI vt_1325 d_Mod_ruleOf_160 ?_
                              refine lv_aload_n hx hb d_Mod_ruleOf_163 rfl (lv_at hl 5 rfl) ?_
                              refine mf_argument S E hI vt_1336 d_Mod_ruleOf_164 ?_
                              refine lv_iload hx hb d_Mod_ruleOf_167 (lv_at hl 4 rfl) ?_
                              refine lv_iload hx hb d_Mod_ruleOf_169 (lv_at hl 1 rfl) ?_
                              refine lv_iadd hx hb d_Mod_ruleOf_171 ?_
                              by_cases c17 : (x7_129 + x10_129) < 0 ∨ 4000 ≤ ((x7_129 + x10_129) : Int32).toNatClampNeg
                              · replace h := Eq.trans (if_pos c17).symm h
                                cases h
                              · replace h := Eq.trans (if_neg c17).symm h
                                refine ml_argument S E hI c17 d_Mod_ruleOf_172 ?_
                                by_cases c18 : (β129.2 38 ((x7_129 + x10_129) : Int32).toNatClampNeg) < 0 ∨ 66000 ≤ ((β129.2 38 ((x7_129 + x10_129) : Int32).toNatClampNeg) : Int32).toNatClampNeg
                                · replace h := Eq.trans (if_pos c18).symm h
                                  cases h
                                · replace h := Eq.trans (if_neg c18).symm h
                                  refine ml_typeOfVariable S E hI c18 d_Mod_ruleOf_173 ?_
                                  refine mg_cI (As := [.int (β129.2 32 ((β129.2 38 ((x7_129 + x10_129) : Int32).toNatClampNeg) : Int32).toNatClampNeg)]) (rest := []) h (k_Mod_ended (l := l) (g := g) (α := β129) N (β129.2 32 ((β129.2 38 ((x7_129 + x10_129) : Int32).toNatClampNeg) : Int32).toNatClampNeg)) S hlocks hno E hI kw_Mod_571 ⟨Nat.le_of_ble_eq_true rfl, Nat.le_of_ble_eq_true rfl⟩ (mv_Mod E hI) rfl hl.1 rfl (Nat.le_of_ble_eq_true rfl) d_Mod_ruleOf_174 (fun v21 α19 H locs e20 h hI => ?_)
                                  refine lv_istore (lv' := [(12, .int v21), (11, .int (β129.1 30)), (10, .int x10_129), (9, .int x9_129), (8, .int x8_129), (7, .int x7_129), (0, .ref (mad g 0)), (1, .int x1_129), (3, .int x3_129), (4, .int x4_129), (5, .int x5_129), (6, .int x6_129)]) hx hb d_Mod_ruleOf_177 hl (by decide) rfl (fun ls hl => ?_)
                                  refine lv_aload_n hx hb d_Mod_ruleOf_179 rfl (lv_at hl 6 rfl) ?_
                                  refine lv_aload_n hx hb d_Mod_ruleOf_180 rfl (lv_at hl 6 rfl) ?_
                                  refine lv_aload_n hx hb d_Mod_ruleOf_181 rfl (lv_at hl 6 rfl) ?_
                                  refine lv_iconst (v := 2) hx hb d_Mod_ruleOf_182 (by decide) ?_
                                  refine lv_iload_n hx hb d_Mod_ruleOf_183 rfl (lv_at hl 7 rfl) ?_
                                  refine lv_iconst (v := (-1)) hx hb d_Mod_ruleOf_184 (by decide) ?_
                                  refine lv_iconst (v := 0) hx hb d_Mod_ruleOf_185 (by decide) ?_
                                  refine mg_cI (As := [.int 2, .int x1_129, .int (-1), .int 0]) (rest := [.ref (mad g 0), .ref (mad g 0)]) h (k_Mod_node (l := l) (g := g) (α := α19) N 2 x1_129 (-1) 0) S hlocks hno E hI kw_Mod_336 ⟨Nat.le_of_ble_eq_true rfl, Nat.le_of_ble_eq_true rfl⟩ (mv_Mod E hI) rfl hl.1 rfl (Nat.le_of_ble_eq_true rfl) d_Mod_ruleOf_186 (fun v24 α22 H locs e23 h hI => ?_)
                                  refine lv_iconst (v := 0) hx hb d_Mod_ruleOf_189 (by decide) ?_
                                  refine lv_iload_n hx hb d_Mod_ruleOf_190 rfl (lv_at hl 8 rfl) ?_
                                  refine mg_cI (As := [.int v24, .int 0, .int x3_129]) (rest := [.ref (mad g 0)]) h (k_Mod_of (l := l) (g := g) (α := α22) N v24 0 x3_129) S hlocks hno E hI kw_Mod_555 ⟨Nat.le_of_ble_eq_true rfl, Nat.le_of_ble_eq_true rfl⟩ (mv_Mod E hI) rfl hl.1 rfl (Nat.le_of_ble_eq_true rfl) d_Mod_ruleOf_191 (fun v27 α25 H locs e26 h hI => ?_)
                                  refine lv_iload hx hb d_Mod_ruleOf_194 (lv_at hl 10 rfl) ?_
                                  refine mg_cI (As := [.int v27, .int x5_129]) (rest := []) h (k_Mod_apply (l := l) (g := g) (α := α25) N v27 x5_129) S hlocks hno E hI kw_Mod_350 ⟨Nat.le_of_ble_eq_true rfl, Nat.le_of_ble_eq_true rfl⟩ (mv_Mod E hI) rfl hl.1 rfl (Nat.le_of_ble_eq_true rfl) d_Mod_ruleOf_196 (fun v30 α28 H locs e29 h hI => ?_)
                                  refine lv_istore (lv' := [(13, .int v30), (12, .int v21), (11, .int (β129.1 30)), (10, .int x10_129), (9, .int x9_129), (8, .int x8_129), (7, .int x7_129), (0, .ref (mad g 0)), (1, .int x1_129), (3, .int x3_129), (4, .int x4_129), (5, .int x5_129), (6, .int x6_129)]) hx hb d_Mod_ruleOf_199 hl (by decide) rfl (fun ls hl => ?_)
                                  refine lv_iconst (v := 0) hx hb d_Mod_ruleOf_201 (by decide) ?_
                                  refine lv_istore (lv' := [(14, .int 0), (13, .int v30), (12, .int v21), (11, .int (β129.1 30)), (10, .int x10_129), (9, .int x9_129), (8, .int x8_129), (7, .int x7_129), (0, .ref (mad g 0)), (1, .int x1_129), (3, .int x3_129), (4, .int x4_129), (5, .int x5_129), (6, .int x6_129)]) hx hb d_Mod_ruleOf_202 hl (by decide) rfl (fun ls hl => ?_)
                                  have L204 : ∀ (n204 : Nat) (x14_204 : Int32) (x13_204 : Int32) (x12_204 : Int32) (x11_204 : Int32) (x10_204 : Int32) (x9_204 : Int32) (x8_204 : Int32) (x7_204 : Int32) (x1_204 : Int32) (x3_204 : Int32) (x4_204 : Int32) (x5_204 : Int32) (x6_204 : Int32) (β204 : mS) (H : Heap) (locs : List Loc) (ls : Array Slot), f_Mod_ruleOf_204 N (f_Mod_ruleOf_129 N n129) n204 x14_204 x13_204 x12_204 x11_204 x10_204 x9_204 x8_204 x7_204 x1_204 x3_204 x4_204 x5_204 x6_204 β204 = some x → mI g A s β204 H locs → lv_has ls 15 [(14, .int x14_204), (13, .int x13_204), (12, .int x12_204), (11, .int x11_204), (10, .int x10_204), (9, .int x9_204), (8, .int x8_204), (7, .int x7_204), (0, .ref (mad g 0)), (1, .int x1_204), (3, .int x3_204), (4, .int x4_204), (5, .int x5_204), (6, .int x6_204)] → W p l e (mR (850) (23830)) s m ([.ref (mad g 0), .int a1, .int a2, .int a3, .int a4, .int a5, .int a6]).toArray below meth c H locs 0 0 (vEQ below (mQ g A (mQr x)) ([.ref (mad g 0), .int a1, .int a2, .int a3, .int a4, .int a5, .int a6]).toArray s A) (F0 m 204 ls []) := by
                                    intro n204
                                    induction n204 with
                                    | zero => intro x14_204 x13_204 x12_204 x11_204 x10_204 x9_204 x8_204 x7_204 x1_204 x3_204 x4_204 x5_204 x6_204 β204 H locs ls h hI hl; rw [f_Mod_ruleOf_204] at h; cases h
                                    | succ n204 ih204 =>
                                      intro x14_204 x13_204 x12_204 x11_204 x10_204 x9_204 x8_204 x7_204 x1_204 x3_204 x4_204 x5_204 x6_204 β204 H locs ls h hI hl
                                      rw [f_Mod_ruleOf_204] at h
                                      refine lv_iload hx hb d_Mod_ruleOf_204 (lv_at hl 0 rfl) ?_
                                      refine lv_iload hx hb d_Mod_ruleOf_206 (lv_at hl 13 rfl) ?_
                                      refine lv_icmp_ge (tgt := 236) hx hb d_Mod_ruleOf_208 (by decide) (fun c31 => ?_) (fun c31 => ?_)
                                      · replace h := Eq.trans (if_pos c31).symm h
                                        refine lv_iload_n hx hb d_Mod_ruleOf_236 rfl (lv_at hl 10 rfl) ?_
                                        refine lv_istore (lv' := [(14, .int x3_204), (13, .int x13_204), (12, .int x12_204), (11, .int x11_204), (10, .int x10_204), (9, .int x9_204), (8, .int x8_204), (7, .int x7_204), (0, .ref (mad g 0)), (1, .int x1_204), (3, .int x3_204), (4, .int x4_204), (5, .int x5_204), (6, .int x6_204)]) hx hb d_Mod_ruleOf_237 hl (by decide) rfl (fun ls hl => ?_)
                                        have L239 : ∀ (n239 : Nat) (x14_239 : Int32) (x13_239 : Int32) (x12_239 : Int32) (x11_239 : Int32) (x10_239 : Int32) (x9_239 : Int32) (x8_239 : Int32) (x7_239 : Int32) (x1_239 : Int32) (x3_239 : Int32) (x4_239 : Int32) (x5_239 : Int32) (x6_239 : Int32) (β239 : mS) (H : Heap) (locs : List Loc) (ls : Array Slot), f_Mod_ruleOf_239 N (f_Mod_ruleOf_129 N n129) (f_Mod_ruleOf_204 N (f_Mod_ruleOf_129 N n129) n204) n239 x14_239 x13_239 x12_239 x11_239 x10_239 x9_239 x8_239 x7_239 x1_239 x3_239 x4_239 x5_239 x6_239 β239 = some x → mI g A s β239 H locs → lv_has ls 15 [(14, .int x14_239), (13, .int x13_239), (12, .int x12_239), (11, .int x11_239), (10, .int x10_239), (9, .int x9_239), (8, .int x8_239), (7, .int x7_239), (0, .ref (mad g 0)), (1, .int x1_239), (3, .int x3_239), (4, .int x4_239), (5, .int x5_239), (6, .int x6_239)] → W p l e (mR (850) (23830)) s m ([.ref (mad g 0), .int a1, .int a2, .int a3, .int a4, .int a5, .int a6]).toArray below meth c H locs 0 0 (vEQ below (mQ g A (mQr x)) ([.ref (mad g 0), .int a1, .int a2, .int a3, .int a4, .int a5, .int a6]).toArray s A) (F0 m 239 ls []) := by
                                          intro n239
                                          induction n239 with
                                          | zero => intro x14_239 x13_239 x12_239 x11_239 x10_239 x9_239 x8_239 x7_239 x1_239 x3_239 x4_239 x5_239 x6_239 β239 H locs ls h hI hl; rw [f_Mod_ruleOf_239] at h; cases h
                                          | succ n239 ih239 =>
                                            intro x14_239 x13_239 x12_239 x11_239 x10_239 x9_239 x8_239 x7_239 x1_239 x3_239 x4_239 x5_239 x6_239 β239 H locs ls h hI hl
                                            rw [f_Mod_ruleOf_239] at h
                                            refine lv_iload hx hb d_Mod_ruleOf_239 (lv_at hl 0 rfl) ?_
                                            refine lv_iload_n hx hb d_Mod_ruleOf_241 rfl (lv_at hl 10 rfl) ?_
                                            refine lv_iload hx hb d_Mod_ruleOf_242 (lv_at hl 11 rfl) ?_
                                            refine lv_iadd hx hb d_Mod_ruleOf_244 ?_
                                            refine lv_icmp_ge (tgt := 274) hx hb d_Mod_ruleOf_245 (by decide) (fun c32 => ?_) (fun c32 => ?_)
                                            · replace h := Eq.trans (if_pos c32).symm h
                                              refine lv_aload_n hx hb d_Mod_ruleOf_274 rfl (lv_at hl 8 rfl) ?_
                                              refine lv_iload hx hb d_Mod_ruleOf_275 (lv_at hl 5 rfl) ?_
                                              refine lv_aload_n hx hb d_Mod_ruleOf_277 rfl (lv_at hl 8 rfl) ?_
                                              refine lv_bipush (v := 7) hx hb d_Mod_ruleOf_278 (by decide) ?_
                                              refine lv_iload hx hb d_Mod_ruleOf_280 (lv_at hl 3 rfl) ?_
                                              refine lv_aload_n hx hb d_Mod_ruleOf_282 rfl (lv_at hl 8 rfl) ?_
                                              refine lv_iload hx hb d_Mod_ruleOf_283 (lv_at hl 1 rfl) ?_
                                              refine lv_aload_n hx hb d_Mod_ruleOf_285 rfl (lv_at hl 8 rfl) ?_
                                              refine lv_aload_n hx hb d_Mod_ruleOf_286 rfl (lv_at hl 8 rfl) ?_
                                              refine mf_argument S E hI vt_1336 d_Mod_ruleOf_287 ?_
                                              refine lv_iload hx hb d_Mod_ruleOf_290 (lv_at hl 7 rfl) ?_
                                              refine lv_iload hx hb d_Mod_ruleOf_292 (lv_at hl 4 rfl) ?_
                                              refine lv_iadd hx hb d_Mod_ruleOf_294 ?_
                                              by_cases c33 : (x7_239 + x10_239) < 0 ∨ 4000 ≤ ((x7_239 + x10_239) : Int32).toNatClampNeg
                                              · replace h := Eq.trans (if_pos c33).symm h
                                                cases h
                                              · replace h := Eq.trans (if_neg c33).symm h
                                                refine ml_argument S E hI c33 d_Mod_ruleOf_295 ?_
                                                refine mg_cI (As := [.int (β239.2 38 ((x7_239 + x10_239) : Int32).toNatClampNeg)]) (rest := [.int x13_239, .ref (mad g 0), .int x11_239, .int 7, .ref (mad g 0), .int x9_239, .ref (mad g 0)]) h (k_Mod_applied2 (l := l) (g := g) (α := β239) N (β239.2 38 ((x7_239 + x10_239) : Int32).toNatClampNeg)) S hlocks hno E hI kw_Mod_574 ⟨Nat.le_of_ble_eq_true rfl, Nat.le_of_ble_eq_true rfl⟩ (mv_Mod E hI) rfl hl.1 rfl (Nat.le_of_ble_eq_true rfl) d_Mod_ruleOf_296 (fun v36 α34 H locs e35 h hI => ?_)
                                                refine mg_cI (As := [.int x13_239, .int v36]) (rest := [.int x11_239, .int 7, .ref (mad g 0), .int x9_239, .ref (mad g 0)]) h (k_Mod_apply (l := l) (g := g) (α := α34) N x13_239 v36) S hlocks hno E hI kw_Mod_350 ⟨Nat.le_of_ble_eq_true rfl, Nat.le_of_ble_eq_true rfl⟩ (mv_Mod E hI) rfl hl.1 rfl (Nat.le_of_ble_eq_true rfl) d_Mod_ruleOf_299 (fun v39 α37 H locs e38 h hI => ?_)
                                                refine mg_cI (As := [.int 7, .int x11_239, .int v39]) (rest := [.int x9_239, .ref (mad g 0)]) h (k_Mod_chain (l := l) (g := g) (α := α37) N 7 x11_239 v39) S hlocks hno E hI kw_Mod_558 ⟨Nat.le_of_ble_eq_true rfl, Nat.le_of_ble_eq_true rfl⟩ (mv_Mod E hI) rfl hl.1 rfl (Nat.le_of_ble_eq_true rfl) d_Mod_ruleOf_302 (fun v42 α40 H locs e41 h hI => ?_)
                                                refine mg_cI (As := [.int x9_239, .int v42]) (rest := []) h (k_Mod_apply (l := l) (g := g) (α := α40) N x9_239 v42) S hlocks hno E hI kw_Mod_350 ⟨Nat.le_of_ble_eq_true rfl, Nat.le_of_ble_eq_true rfl⟩ (mv_Mod E hI) rfl hl.1 rfl (Nat.le_of_ble_eq_true rfl) d_Mod_ruleOf_305 (fun v45 α43 H locs e44 h hI => ?_)
                                                refine lv_istore (lv' := [(9, .int v45), (14, .int x14_239), (13, .int x13_239), (12, .int x12_239), (11, .int x11_239), (10, .int x10_239), (8, .int x8_239), (7, .int x7_239), (0, .ref (mad g 0)), (1, .int x1_239), (3, .int x3_239), (4, .int x4_239), (5, .int x5_239), (6, .int x6_239)]) hx hb d_Mod_ruleOf_308 hl (by decide) rfl (fun ls hl => ?_)
                                                refine lv_iinc (v := (x10_239 + 1)) (lv' := [(10, .int (x10_239 + 1)), (9, .int v45), (14, .int x14_239), (13, .int x13_239), (12, .int x12_239), (11, .int x11_239), (8, .int x8_239), (7, .int x7_239), (0, .ref (mad g 0)), (1, .int x1_239), (3, .int x3_239), (4, .int x4_239), (5, .int x5_239), (6, .int x6_239)]) hx hb d_Mod_ruleOf_310 hl (k := 5) rfl rfl (by decide) rfl (fun ls hl => ?_)
                                                refine lv_goto (tgt := 129) hx hb d_Mod_ruleOf_313 (by decide) ?_
                                                exact ih129 (x10_239 + 1) v45 x8_239 x7_239 x1_239 x3_239 x4_239 x5_239 x6_239 _ _ _ _ h hI (lv_sub hl [0, 1, 6, 7, 8, 9, 10, 11, 12, 13] rfl)
                                            · replace h := Eq.trans (if_neg c32).symm h
                                              refine lv_aload_n hx hb d_Mod_ruleOf_248 rfl (lv_at hl 8 rfl) ?_
                                              refine lv_iload hx hb d_Mod_ruleOf_249 (lv_at hl 1 rfl) ?_
                                              refine lv_aload_n hx hb d_Mod_ruleOf_251 rfl (lv_at hl 8 rfl) ?_
                                              refine lv_iload hx hb d_Mod_ruleOf_252 (lv_at hl 2 rfl) ?_
                                              refine lv_iload_n hx hb d_Mod_ruleOf_254 rfl (lv_at hl 10 rfl) ?_
                                              refine lv_iload hx hb d_Mod_ruleOf_255 (lv_at hl 11 rfl) ?_
                                              refine lv_iadd hx hb d_Mod_ruleOf_257 ?_
                                              refine lv_iload hx hb d_Mod_ruleOf_258 (lv_at hl 0 rfl) ?_
                                              obtain ⟨v46, e47, h⟩ := Option.bind_eq_some_iff.mp h
                                              refine mg_p (As := [.int x12_239, .int (x3_239 + x4_239), .int x14_239]) (rest := [.int x13_239, .ref (mad g 0)]) ((k_Mod_nth (l := l) (g := g) (α := β239) N x12_239 (x3_239 + x4_239) x14_239) _ e47) S E hI kw_Mod_440 (Or.inl rfl) ⟨Nat.le_of_ble_eq_true rfl, Nat.le_of_ble_eq_true rfl⟩ (mv_Mod E hI) rfl hl.1 rfl (Nat.le_of_ble_eq_true rfl) d_Mod_ruleOf_260 rfl ?_
                                              refine mg_cI (As := [.int x13_239, .int v46]) (rest := []) h (k_Mod_apply (l := l) (g := g) (α := β239) N x13_239 v46) S hlocks hno E hI kw_Mod_350 ⟨Nat.le_of_ble_eq_true rfl, Nat.le_of_ble_eq_true rfl⟩ (mv_Mod E hI) rfl hl.1 rfl (Nat.le_of_ble_eq_true rfl) d_Mod_ruleOf_263 (fun v50 α48 H locs e49 h hI => ?_)
                                              refine lv_istore (lv' := [(13, .int v50), (14, .int x14_239), (12, .int x12_239), (11, .int x11_239), (10, .int x10_239), (9, .int x9_239), (8, .int x8_239), (7, .int x7_239), (0, .ref (mad g 0)), (1, .int x1_239), (3, .int x3_239), (4, .int x4_239), (5, .int x5_239), (6, .int x6_239)]) hx hb d_Mod_ruleOf_266 hl (by decide) rfl (fun ls hl => ?_)
                                              refine lv_iinc (v := (x14_239 + 1)) (lv' := [(14, .int (x14_239 + 1)), (13, .int v50), (12, .int x12_239), (11, .int x11_239), (10, .int x10_239), (9, .int x9_239), (8, .int x8_239), (7, .int x7_239), (0, .ref (mad g 0)), (1, .int x1_239), (3, .int x3_239), (4, .int x4_239), (5, .int x5_239), (6, .int x6_239)]) hx hb d_Mod_ruleOf_268 hl (k := 1) rfl rfl (by decide) rfl (fun ls hl => ?_)
                                              refine lv_goto (tgt := 239) hx hb d_Mod_ruleOf_271 (by decide) ?_
                                              exact ih239 (x14_239 + 1) v50 x12_239 x11_239 x10_239 x9_239 x8_239 x7_239 x1_239 x3_239 x4_239 x5_239 x6_239 _ _ _ _ h hI (lv_sub hl [0, 1, 2, 3, 4, 5, 6, 7, 8, 9, 10, 11, 12, 13] rfl)
                                        exact L239 N x3_204 x13_204 x12_204 x11_204 x10_204 x9_204 x8_204 x7_204 x1_204 x3_204 x4_204 x5_204 x6_204 _ _ _ _ h hI (lv_sub hl [0, 1, 2, 3, 4, 5, 6, 7, 8, 9, 10, 11, 12, 13] rfl)
                                      · replace h := Eq.trans (if_neg c31).symm h
                                        refine lv_aload_n hx hb d_Mod_ruleOf_211 rfl (lv_at hl 8 rfl) ?_
                                        refine lv_iload hx hb d_Mod_ruleOf_212 (lv_at hl 1 rfl) ?_
                                        refine lv_aload_n hx hb d_Mod_ruleOf_214 rfl (lv_at hl 8 rfl) ?_
                                        refine lv_aload_n hx hb d_Mod_ruleOf_215 rfl (lv_at hl 8 rfl) ?_
                                        refine mf_minors S E hI vt_1342 d_Mod_ruleOf_216 ?_
                                        refine lv_iload hx hb d_Mod_ruleOf_219 (lv_at hl 0 rfl) ?_
                                        by_cases c51 : x14_204 < 0 ∨ 301 ≤ (x14_204 : Int32).toNatClampNeg
                                        · replace h := Eq.trans (if_pos c51).symm h
                                          cases h
                                        · replace h := Eq.trans (if_neg c51).symm h
                                          refine ml_minors S E hI c51 d_Mod_ruleOf_221 ?_
                                          refine mg_cI (As := [.int (β204.2 42 (x14_204 : Int32).toNatClampNeg)]) (rest := [.int x13_204, .ref (mad g 0)]) h (k_Mod_free (l := l) (g := g) (α := β204) N (β204.2 42 (x14_204 : Int32).toNatClampNeg)) S hlocks hno E hI kw_Mod_353 ⟨Nat.le_of_ble_eq_true rfl, Nat.le_of_ble_eq_true rfl⟩ (mv_Mod E hI) rfl hl.1 rfl (Nat.le_of_ble_eq_true rfl) d_Mod_ruleOf_222 (fun v54 α52 H locs e53 h hI => ?_)
                                          refine mg_cI (As := [.int x13_204, .int v54]) (rest := []) h (k_Mod_apply (l := l) (g := g) (α := α52) N x13_204 v54) S hlocks hno E hI kw_Mod_350 ⟨Nat.le_of_ble_eq_true rfl, Nat.le_of_ble_eq_true rfl⟩ (mv_Mod E hI) rfl hl.1 rfl (Nat.le_of_ble_eq_true rfl) d_Mod_ruleOf_225 (fun v57 α55 H locs e56 h hI => ?_)
                                          refine lv_istore (lv' := [(13, .int v57), (14, .int x14_204), (12, .int x12_204), (11, .int x11_204), (10, .int x10_204), (9, .int x9_204), (8, .int x8_204), (7, .int x7_204), (0, .ref (mad g 0)), (1, .int x1_204), (3, .int x3_204), (4, .int x4_204), (5, .int x5_204), (6, .int x6_204)]) hx hb d_Mod_ruleOf_228 hl (by decide) rfl (fun ls hl => ?_)
                                          refine lv_iinc (v := (x14_204 + 1)) (lv' := [(14, .int (x14_204 + 1)), (13, .int v57), (12, .int x12_204), (11, .int x11_204), (10, .int x10_204), (9, .int x9_204), (8, .int x8_204), (7, .int x7_204), (0, .ref (mad g 0)), (1, .int x1_204), (3, .int x3_204), (4, .int x4_204), (5, .int x5_204), (6, .int x6_204)]) hx hb d_Mod_ruleOf_230 hl (k := 1) rfl rfl (by decide) rfl (fun ls hl => ?_)
                                          refine lv_goto (tgt := 204) hx hb d_Mod_ruleOf_233 (by decide) ?_
                                          exact ih204 (x14_204 + 1) v57 x12_204 x11_204 x10_204 x9_204 x8_204 x7_204 x1_204 x3_204 x4_204 x5_204 x6_204 _ _ _ _ h hI (lv_sub hl [0, 1, 2, 3, 4, 5, 6, 7, 8, 9, 10, 11, 12, 13] rfl)
                                  exact L204 N 0 v30 v21 (β129.1 30) x10_129 x9_129 x8_129 x7_129 x1_129 x3_129 x4_129 x5_129 x6_129 _ _ _ _ h hI (lv_sub hl [0, 1, 2, 3, 4, 5, 6, 7, 8, 9, 10, 11, 12, 13] rfl)
                            · replace h := Eq.trans (if_pos c16).symm h
                              refine lv_goto (tgt := 310) hx hb d_Mod_ruleOf_149 (by decide) ?_
                              refine lv_iinc (v := (x10_129 + 1)) (lv' := [(10, .int (x10_129 + 1)), (9, .int x9_129), (8, .int x8_129), (7, .int x7_129), (0, .ref (mad g 0)), (1, .int x1_129), (3, .int x3_129), (4, .int x4_129), (5, .int x5_129), (6, .int x6_129)]) hx hb d_Mod_ruleOf_310 hl (k := 0) rfl rfl (by decide) rfl (fun ls hl => ?_)
                              refine lv_goto (tgt := 129) hx hb d_Mod_ruleOf_313 (by decide) ?_
                              exact ih129 (x10_129 + 1) x9_129 x8_129 x7_129 x1_129 x3_129 x4_129 x5_129 x6_129 _ _ _ _ h hI (lv_sub hl [0, 1, 2, 3, 4, 5, 6, 7, 8, 9] rfl)
                    exact L129 N 0 x9_91 x8_91 x7_91 x1_91 x3_91 x4_91 x5_91 x6_91 _ _ _ _ h hI (lv_sub hl [0, 1, 2, 3, 4, 5, 6, 7, 8, 9] rfl)
                  · replace h := Eq.trans (if_neg c10).symm h
                    refine lv_aload_n hx hb d_Mod_ruleOf_98 rfl (lv_at hl 4 rfl) ?_
                    refine lv_iload hx hb d_Mod_ruleOf_99 (lv_at hl 1 rfl) ?_
                    refine lv_aload_n hx hb d_Mod_ruleOf_101 rfl (lv_at hl 4 rfl) ?_
                    refine lv_aload_n hx hb d_Mod_ruleOf_102 rfl (lv_at hl 4 rfl) ?_
                    refine mf_argument S E hI vt_1336 d_Mod_ruleOf_103 ?_
                    refine lv_iload hx hb d_Mod_ruleOf_106 (lv_at hl 3 rfl) ?_
                    refine lv_iload hx hb d_Mod_ruleOf_108 (lv_at hl 0 rfl) ?_
                    refine lv_iadd hx hb d_Mod_ruleOf_110 ?_
                    by_cases c58 : (x7_91 + x10_91) < 0 ∨ 4000 ≤ ((x7_91 + x10_91) : Int32).toNatClampNeg
                    · replace h := Eq.trans (if_pos c58).symm h
                      cases h
                    · replace h := Eq.trans (if_neg c58).symm h
                      refine ml_argument S E hI c58 d_Mod_ruleOf_111 ?_
                      refine mg_cI (As := [.int (β91.2 38 ((x7_91 + x10_91) : Int32).toNatClampNeg)]) (rest := [.int x9_91, .ref (mad g 0)]) h (k_Mod_free (l := l) (g := g) (α := β91) N (β91.2 38 ((x7_91 + x10_91) : Int32).toNatClampNeg)) S hlocks hno E hI kw_Mod_353 ⟨Nat.le_of_ble_eq_true rfl, Nat.le_of_ble_eq_true rfl⟩ (mv_Mod E hI) rfl hl.1 rfl (Nat.le_of_ble_eq_true rfl) d_Mod_ruleOf_112 (fun v61 α59 H locs e60 h hI => ?_)
                      refine mg_cI (As := [.int x9_91, .int v61]) (rest := []) h (k_Mod_apply (l := l) (g := g) (α := α59) N x9_91 v61) S hlocks hno E hI kw_Mod_350 ⟨Nat.le_of_ble_eq_true rfl, Nat.le_of_ble_eq_true rfl⟩ (mv_Mod E hI) rfl hl.1 rfl (Nat.le_of_ble_eq_true rfl) d_Mod_ruleOf_115 (fun v64 α62 H locs e63 h hI => ?_)
                      refine lv_istore (lv' := [(9, .int v64), (10, .int x10_91), (8, .int x8_91), (7, .int x7_91), (0, .ref (mad g 0)), (1, .int x1_91), (3, .int x3_91), (4, .int x4_91), (5, .int x5_91), (6, .int x6_91)]) hx hb d_Mod_ruleOf_118 hl (by decide) rfl (fun ls hl => ?_)
                      refine lv_iinc (v := (x10_91 + 1)) (lv' := [(10, .int (x10_91 + 1)), (9, .int v64), (8, .int x8_91), (7, .int x7_91), (0, .ref (mad g 0)), (1, .int x1_91), (3, .int x3_91), (4, .int x4_91), (5, .int x5_91), (6, .int x6_91)]) hx hb d_Mod_ruleOf_120 hl (k := 1) rfl rfl (by decide) rfl (fun ls hl => ?_)
                      refine lv_goto (tgt := 91) hx hb d_Mod_ruleOf_123 (by decide) ?_
                      exact ih91 (x10_91 + 1) v64 x8_91 x7_91 x1_91 x3_91 x4_91 x5_91 x6_91 _ _ _ _ h hI (lv_sub hl [0, 1, 2, 3, 4, 5, 6, 7, 8, 9] rfl)
              exact L91 N 0 v9 x8_37 x7_37 x1_37 x3_37 x4_37 x5_37 x6_37 _ _ _ _ h hI (lv_sub hl [0, 1, 2, 3, 4, 5, 7, 8, 9, 10] rfl)
          · replace h := Eq.trans (if_neg c5).symm h
            refine lv_aload_n hx hb d_Mod_ruleOf_44 rfl (lv_at hl 3 rfl) ?_
            refine mf_list S E hI vt_1340 d_Mod_ruleOf_45 ?_
            refine lv_aload_n hx hb d_Mod_ruleOf_48 rfl (lv_at hl 3 rfl) ?_
            refine lv_dup hx hb d_Mod_ruleOf_49 rfl ?_
            refine mf_listed S E hI vt_1341 d_Mod_ruleOf_50 ?_
            refine lv_dup_x1 hx hb d_Mod_ruleOf_53 rfl rfl ?_
            refine lv_iconst (v := 1) hx hb d_Mod_ruleOf_54 (by decide) ?_
            refine lv_iadd hx hb d_Mod_ruleOf_55 ?_
            refine mp_listed S E hI vt_1341 d_Mod_ruleOf_56 (fun H locs hI => ?_)
            refine lv_aload_n hx hb d_Mod_ruleOf_59 rfl (lv_at hl 3 rfl) ?_
            refine mf_argument S E hI vt_1336 d_Mod_ruleOf_60 ?_
            refine lv_iload hx hb d_Mod_ruleOf_63 (lv_at hl 2 rfl) ?_
            refine lv_iload hx hb d_Mod_ruleOf_65 (lv_at hl 0 rfl) ?_
            refine lv_iadd hx hb d_Mod_ruleOf_67 ?_
            by_cases c65 : (x7_37 + x9_37) < 0 ∨ 4000 ≤ ((x7_37 + x9_37) : Int32).toNatClampNeg
            · replace h := Eq.trans (if_pos c65).symm h
              cases h
            · replace h := Eq.trans (if_neg c65).symm h
              refine ml_argument S E hI c65 d_Mod_ruleOf_68 ?_
              by_cases c66 : (β37.1 30) < 0 ∨ 9000 ≤ ((β37.1 30) : Int32).toNatClampNeg
              · replace h := Eq.trans (if_pos c66).symm h
                cases h
              · replace h := Eq.trans (if_neg c66).symm h
                refine ms_list S E hI c66 d_Mod_ruleOf_69 (fun H locs hI => ?_)
                refine lv_iinc (v := (x9_37 + 1)) (lv' := [(9, .int (x9_37 + 1)), (8, .int x8_37), (7, .int x7_37), (0, .ref (mad g 0)), (1, .int x1_37), (2, .int x2_37), (3, .int x3_37), (4, .int x4_37), (5, .int x5_37), (6, .int x6_37)]) hx hb d_Mod_ruleOf_70 hl (k := 0) rfl rfl (by decide) rfl (fun ls hl => ?_)
                refine lv_goto (tgt := 37) hx hb d_Mod_ruleOf_73 (by decide) ?_
                exact ih37 (x9_37 + 1) x8_37 x7_37 x1_37 x2_37 x3_37 x4_37 x5_37 x6_37 _ _ _ _ h hI (lv_sub hl [0, 1, 2, 3, 4, 5, 6, 7, 8, 9] rfl)
      exact L37 N 0 (α1.2 18 (((a1 + 1) + a2) : Int32).toNatClampNeg) (α1.2 36 (a2 : Int32).toNatClampNeg) a1 a2 a3 a4 a5 a6 _ _ _ _ h hI (lv_sub hl [0, 1, 2, 3, 4, 5, 6, 7, 8, 9] rfl)
theorem kw_Mod_567 : kWv "FamilyKernelModel" 567 "FamilyKernelModel" y_Mod_ruleOf b_Mod_ruleOf 15 (some .int) 6 := ⟨vt_1684, vt_1685, vt_1686, vt_1349, vt_1687, by decide, by decide, by decide +kernel⟩
theorem kw_Mod_561 : kWv "FamilyKernelModel" 561 "FamilyKernelModel" y_Mod_minor b_Mod_minor 13 (some .int) 5 := ⟨vt_1676, vt_1677, vt_1678, vt_1349, vt_1679, by decide, by decide, by decide +kernel⟩
def f_Mod_made_459 (N : Nat)  : Nat → Int32 → Int32 → Int32 → Int32 → Int32 → Int32 → Int32 → mS → Option (kO × mS)
  | 0, _, _, _, _, _, _, _, _ => none
  | n + 1, x14_459, x13_459, x9_459, x1_459, x3_459, x4_459, x5_459, β459 => if x5_459 ≤ x14_459 then (some (some none, β459)) else (mBi (f_Mod_ruleOf N x1_459 x14_459 x3_459 x4_459 x9_459 x5_459 β459) fun v59 α57 => (mBi (f_Mod_fits N v59 α57) fun v62 α60 => (if v62 < 0 ∨ 400000 ≤ (v62 : Int32).toNatClampNeg then none else (mBv (f_Mod_room N (α60.2 6 (v62 : Int32).toNatClampNeg) α60) fun α64 => (mBi (f_Mod_keep N v62 α64) fun v68 α66 => (if ((x1_459 + 1) + x14_459) < 0 ∨ 301 ≤ (((x1_459 + 1) + x14_459) : Int32).toNatClampNeg then none else (f_Mod_made_459 N n (x14_459 + 1) x13_459 x9_459 x1_459 x3_459 x4_459 x5_459 (mSi (mSA α66 22 (upd (α66.2 22) (((x1_459 + 1) + x14_459) : Int32).toNatClampNeg v68)) 10 x13_459))))))))
def f_Mod_made_415 (N : Nat)  : Nat → Int32 → Int32 → Int32 → Int32 → Int32 → Int32 → mS → Option (kO × mS)
  | 0, _, _, _, _, _, _, _ => none
  | n + 1, x13_415, x9_415, x1_415, x3_415, x4_415, x5_415, β415 => if x5_415 ≤ x13_415 then (f_Mod_made_459 N N 0 (β415.1 10) x9_415 x1_415 x3_415 x4_415 x5_415 β415) else (if x13_415 < 0 ∨ 301 ≤ (x13_415 : Int32).toNatClampNeg then none else (mBi (f_Mod_keep N (β415.2 35 (x13_415 : Int32).toNatClampNeg) β415) fun v73 α71 => (if ((x1_415 + 1) + x13_415) < 0 ∨ 301 ≤ (((x1_415 + 1) + x13_415) : Int32).toNatClampNeg then none else (f_Mod_made_415 N n (x13_415 + 1) x9_415 x1_415 x3_415 x4_415 x5_415 (mSA α71 13 (upd (α71.2 13) (((x1_415 + 1) + x13_415) : Int32).toNatClampNeg v73))))))
def f_Mod_made_346 (N : Nat)  : Nat → Int32 → Int32 → Int32 → Int32 → Int32 → Int32 → Int32 → Int32 → Int32 → mS → Option (kO × mS)
  | 0, _, _, _, _, _, _, _, _, _, _ => none
  | n + 1, x13_346, x12_346, x11_346, x9_346, x1_346, x3_346, x4_346, x5_346, x6_346, β346 => if x5_346 ≤ x13_346 then (mBv (f_Mod_room N x12_346 β346) fun α45 => (mBi (f_Mod_keep N x6_346 α45) fun v49 α47 => (if x1_346 < 0 ∨ 301 ≤ (x1_346 : Int32).toNatClampNeg then none else (mBi (f_Mod_keep N x11_346 (mSA α47 13 (upd (α47.2 13) (x1_346 : Int32).toNatClampNeg v49))) fun v53 α51 => (if x1_346 < 0 ∨ 301 ≤ (x1_346 : Int32).toNatClampNeg then none else (f_Mod_made_415 N N 0 x9_346 x1_346 x3_346 x4_346 x5_346 (mSA α51 21 (upd (α51.2 21) (x1_346 : Int32).toNatClampNeg v53)))))))) else (if x13_346 < 0 ∨ 301 ≤ (x13_346 : Int32).toNatClampNeg then none else (if (β346.2 35 (x13_346 : Int32).toNatClampNeg) < 0 ∨ 400000 ≤ ((β346.2 35 (x13_346 : Int32).toNatClampNeg) : Int32).toNatClampNeg then none else (f_Mod_made_346 N n (x13_346 + 1) (if (x12_346 + (β346.2 6 ((β346.2 35 (x13_346 : Int32).toNatClampNeg) : Int32).toNatClampNeg)) < 1000000 then (x12_346 + (β346.2 6 ((β346.2 35 (x13_346 : Int32).toNatClampNeg) : Int32).toNatClampNeg)) else 1000000) x11_346 x9_346 x1_346 x3_346 x4_346 x5_346 x6_346 β346)))
def f_Mod_made_237 (N : Nat)  : Nat → Int32 → Int32 → Int32 → Int32 → Int32 → Int32 → Int32 → Int32 → mS → Option (kO × mS)
  | 0, _, _, _, _, _, _, _, _, _ => none
  | n + 1, x11_237, x10_237, x9_237, x1_237, x3_237, x4_237, x5_237, x6_237, β237 => if x4_237 ≤ x11_237 then (if x10_237 < 0 ∨ 400000 ≤ (x10_237 : Int32).toNatClampNeg then none else (if (β237.1 30) < 0 ∨ 9000 ≤ ((β237.1 30) : Int32).toNatClampNeg then none else (mBi (f_Mod_of N x9_237 x3_237 x4_237 (mSA (mSi β237 30 ((β237.1 30) + 1)) 41 (upd ((mSi β237 30 ((β237.1 30) + 1)).2 41) ((β237.1 30) : Int32).toNatClampNeg ((mSi β237 30 ((β237.1 30) + 1)).2 3 (x10_237 : Int32).toNatClampNeg)))) fun v32 α30 => (mBi (f_Mod_apply N v32 x10_237 α30) fun v35 α33 => (mBi (f_Mod_chain N 6 0 v35 α33) fun v38 α36 => (mBi (f_Mod_fits N v38 α36) fun v41 α39 => (if x6_237 < 0 ∨ 400000 ≤ (x6_237 : Int32).toNatClampNeg then none else (if v41 < 0 ∨ 400000 ≤ (v41 : Int32).toNatClampNeg then none else (f_Mod_made_346 N N 0 ((α39.2 6 (x6_237 : Int32).toNatClampNeg) + (α39.2 6 (v41 : Int32).toNatClampNeg)) v41 x9_237 x1_237 x3_237 x4_237 x5_237 x6_237 α39))))))))) else (if (x3_237 + x11_237) < 0 ∨ 5000 ≤ ((x3_237 + x11_237) : Int32).toNatClampNeg then none else (if (β237.1 30) < 0 ∨ 9000 ≤ ((β237.1 30) : Int32).toNatClampNeg then none else (f_Mod_made_237 N n (x11_237 + 1) x10_237 x9_237 x1_237 x3_237 x4_237 x5_237 x6_237 (mSA (mSi β237 30 ((β237.1 30) + 1)) 41 (upd ((mSi β237 30 ((β237.1 30) + 1)).2 41) ((β237.1 30) : Int32).toNatClampNeg ((mSi β237 30 ((β237.1 30) + 1)).2 33 ((x3_237 + x11_237) : Int32).toNatClampNeg))))))
def f_Mod_made_160 (N : Nat)  : Nat → Int32 → Int32 → Int32 → Int32 → Int32 → Int32 → Int32 → Int32 → mS → Option (kO × mS)
  | 0, _, _, _, _, _, _, _, _, _ => none
  | n + 1, x10_160, x9_160, x8_160, x1_160, x3_160, x4_160, x5_160, x6_160, β160 => if x5_160 ≤ x10_160 then (mBi (f_Mod_fresh N x8_160 β160) fun v24 α22 => (mBv (f_Mod_heads N x3_160 x9_160 x5_160 (mSi α22 30 0)) fun α25 => (f_Mod_made_237 N N 0 v24 x9_160 x1_160 x3_160 x4_160 x5_160 x6_160 α25))) else (if x10_160 < 0 ∨ 301 ≤ (x10_160 : Int32).toNatClampNeg then none else (mBv (f_Mod_costs N (β160.2 43 (x10_160 : Int32).toNatClampNeg) β160) fun α80 => (mBi (f_Mod_minor N x1_160 x10_160 x3_160 x4_160 x9_160 α80) fun v84 α82 => (mBi (f_Mod_fresh N v84 α82) fun v87 α85 => (if v87 < 0 ∨ 400000 ≤ (v87 : Int32).toNatClampNeg then none else (if x10_160 < 0 ∨ 301 ≤ (x10_160 : Int32).toNatClampNeg then none else (f_Mod_made_160 N n (x10_160 + 1) x9_160 x8_160 x1_160 x3_160 x4_160 x5_160 x6_160 (mSA α85 42 (upd (α85.2 42) (x10_160 : Int32).toNatClampNeg (α85.2 3 (v87 : Int32).toNatClampNeg))))))))))
def f_Mod_made_92 (N : Nat)  : Nat → Int32 → Int32 → Int32 → Int32 → Int32 → Int32 → Int32 → mS → Option (kO × mS)
  | 0, _, _, _, _, _, _, _, _ => none
  | n + 1, x9_92, x8_92, x1_92, x3_92, x4_92, x5_92, x6_92, β92 => if x4_92 ≤ x9_92 then (mBi (f_Mod_sort N (-1) β92) fun v11 α9 => (mBi (f_Mod_node N 6 x8_92 v11 0 α9) fun v14 α12 => (mBi (f_Mod_chain N 6 0 v14 α12) fun v17 α15 => (mBi (f_Mod_fresh N v17 α15) fun v20 α18 => (f_Mod_made_160 N N 0 v20 x8_92 x1_92 x3_92 x4_92 x5_92 x6_92 α18))))) else (if (x3_92 + x9_92) < 0 ∨ 5000 ≤ ((x3_92 + x9_92) : Int32).toNatClampNeg then none else (if (β92.1 30) < 0 ∨ 9000 ≤ ((β92.1 30) : Int32).toNatClampNeg then none else (f_Mod_made_92 N n (x9_92 + 1) x8_92 x1_92 x3_92 x4_92 x5_92 x6_92 (mSA (mSi β92 30 ((β92.1 30) + 1)) 41 (upd ((mSi β92 30 ((β92.1 30) + 1)).2 41) ((β92.1 30) : Int32).toNatClampNeg ((mSi β92 30 ((β92.1 30) + 1)).2 33 ((x3_92 + x9_92) : Int32).toNatClampNeg))))))
def f_Mod_made_6 (N : Nat)  : Nat → Int32 → Int32 → Int32 → Int32 → Int32 → Int32 → Int32 → mS → Option (kO × mS)
  | 0, _, _, _, _, _, _, _, _ => none
  | n + 1, x8_6, x7_6, x1_6, x3_6, x4_6, x5_6, x6_6, β6 => if x4_6 ≤ x8_6 then (mBi (f_Mod_node N 1 x1_6 0 0 β6) fun v4 α2 => (mBi (f_Mod_of N v4 0 (x3_6 + x4_6) α2) fun v7 α5 => (f_Mod_made_92 N N 0 v7 x1_6 x3_6 x4_6 x5_6 x6_6 (mSi α5 30 0)))) else (if x7_6 < 0 ∨ 400000 ≤ (x7_6 : Int32).toNatClampNeg then none else (mBi (f_Mod_whole N (β6.2 3 (x7_6 : Int32).toNatClampNeg) (x3_6 + x8_6) (x3_6 + x8_6) β6) fun v95 α93 => (mBi (f_Mod_fresh N v95 α93) fun v98 α96 => (if v98 < 0 ∨ 400000 ≤ (v98 : Int32).toNatClampNeg then none else (if (x3_6 + x8_6) < 0 ∨ 5000 ≤ ((x3_6 + x8_6) : Int32).toNatClampNeg then none else (if x7_6 < 0 ∨ 400000 ≤ (x7_6 : Int32).toNatClampNeg then none else (f_Mod_made_6 N n (x8_6 + 1) ((mSA α96 33 (upd (α96.2 33) ((x3_6 + x8_6) : Int32).toNatClampNeg (α96.2 3 (v98 : Int32).toNatClampNeg))).2 4 (x7_6 : Int32).toNatClampNeg) x1_6 x3_6 x4_6 x5_6 x6_6 (mSA α96 33 (upd (α96.2 33) ((x3_6 + x8_6) : Int32).toNatClampNeg (α96.2 3 (v98 : Int32).toNatClampNeg))))))))))
def f_Mod_made (N : Nat) (a1 : Int32) (a2 : Int32) (a3 : Int32) (a4 : Int32) (a5 : Int32) (a6 : Int32) (α : mS) : Option (kO × mS) := f_Mod_made_6 N N 0 a2 a1 a3 a4 a5 a6 α
set_option maxHeartbeats 4000000 in
set_option maxRecDepth 100000 in
theorem k_Mod_made {l : Launch} {g : mG} {α : mS} (N : Nat) (a1 : Int32) (a2 : Int32) (a3 : Int32) (a4 : Int32) (a5 : Int32) (a6 : Int32)  : ∀ x, f_Mod_made N a1 a2 a3 a4 a5 a6 α = some x → mC l g y_Mod_made b_Mod_made 16 none (851) (23864) [.ref (mad g 0), .int a1, .int a2, .int a3, .int a4, .int a5, .int a6] α (mQr x) := by
  intro x h
  unfold f_Mod_made at h
  refine mc_ofW (by decide) (fun A p e s m args below meth c S hr hlocks hno hargs E hI => ?_)
  have hx := S.1
  have hb := S.2.1
  have hown := S.2.2.2.1
  have hT := S.2.2.2.2
  subst hargs
  have hl := lv_entry ([.ref (mad g 0), .int a1, .int a2, .int a3, .int a4, .int a5, .int a6]) (n := 16) (Nat.le_of_ble_eq_true rfl)
  rw [lg_entry_eq]
  generalize (lg_sl ([.ref (mad g 0), .int a1, .int a2, .int a3, .int a4, .int a5, .int a6]) ++ List.replicate (16 - (lg_sl ([.ref (mad g 0), .int a1, .int a2, .int a3, .int a4, .int a5, .int a6])).length) Slot.unset).toArray = ls at hl ⊢
  have hl : lv_has ls 16 [(0, .ref (mad g 0)), (1, .int a1), (2, .int a2), (3, .int a3), (4, .int a4), (5, .int a5), (6, .int a6)] := hl
  refine lv_iload_n hx hb d_Mod_made_0 rfl (lv_at hl 2 rfl) ?_
  refine lv_istore (lv' := [(7, .int a2), (0, .ref (mad g 0)), (1, .int a1), (2, .int a2), (3, .int a3), (4, .int a4), (5, .int a5), (6, .int a6)]) hx hb d_Mod_made_1 hl (by decide) rfl (fun ls hl => ?_)
  refine lv_iconst (v := 0) hx hb d_Mod_made_3 (by decide) ?_
  refine lv_istore (lv' := [(8, .int 0), (7, .int a2), (0, .ref (mad g 0)), (1, .int a1), (2, .int a2), (3, .int a3), (4, .int a4), (5, .int a5), (6, .int a6)]) hx hb d_Mod_made_4 hl (by decide) rfl (fun ls hl => ?_)
  have L6 : ∀ (n6 : Nat) (x8_6 : Int32) (x7_6 : Int32) (x1_6 : Int32) (x3_6 : Int32) (x4_6 : Int32) (x5_6 : Int32) (x6_6 : Int32) (β6 : mS) (H : Heap) (locs : List Loc) (ls : Array Slot), f_Mod_made_6 N n6 x8_6 x7_6 x1_6 x3_6 x4_6 x5_6 x6_6 β6 = some x → mI g A s β6 H locs → lv_has ls 16 [(8, .int x8_6), (7, .int x7_6), (0, .ref (mad g 0)), (1, .int x1_6), (3, .int x3_6), (4, .int x4_6), (5, .int x5_6), (6, .int x6_6)] → W p l e (mR (851) (23864)) s m ([.ref (mad g 0), .int a1, .int a2, .int a3, .int a4, .int a5, .int a6]).toArray below meth c H locs 0 0 (vEQ below (mQ g A (mQr x)) ([.ref (mad g 0), .int a1, .int a2, .int a3, .int a4, .int a5, .int a6]).toArray s A) (F0 m 6 ls []) := by
    intro n6
    induction n6 with
    | zero => intro x8_6 x7_6 x1_6 x3_6 x4_6 x5_6 x6_6 β6 H locs ls h hI hl; rw [f_Mod_made_6] at h; cases h
    | succ n6 ih6 =>
      intro x8_6 x7_6 x1_6 x3_6 x4_6 x5_6 x6_6 β6 H locs ls h hI hl
      rw [f_Mod_made_6] at h
      refine lv_iload hx hb d_Mod_made_6 (lv_at hl 0 rfl) ?_
      refine lv_iload hx hb d_Mod_made_8 (lv_at hl 5 rfl) ?_
      refine lv_icmp_ge (tgt := 65) hx hb d_Mod_made_10 (by decide) (fun c1 => ?_) (fun c1 => ?_)
      · replace h := Eq.trans (if_pos c1).symm h
        refine lv_aload_n hx hb d_Mod_made_65 rfl (lv_at hl 2 rfl) ?_
        refine lv_aload_n hx hb d_Mod_made_66 rfl (lv_at hl 2 rfl) ?_
        refine lv_iconst (v := 1) hx hb d_Mod_made_67 (by decide) ?_
        refine lv_iload_n hx hb d_Mod_made_68 rfl (lv_at hl 3 rfl) ?_
        refine lv_iconst (v := 0) hx hb d_Mod_made_69 (by decide) ?_
        refine lv_iconst (v := 0) hx hb d_Mod_made_70 (by decide) ?_
        refine mg_cI (As := [.int 1, .int x1_6, .int 0, .int 0]) (rest := [.ref (mad g 0)]) h (k_Mod_node (l := l) (g := g) (α := β6) N 1 x1_6 0 0) S hlocks hno E hI kw_Mod_336 ⟨Nat.le_of_ble_eq_true rfl, Nat.le_of_ble_eq_true rfl⟩ (mv_Mod E hI) rfl hl.1 rfl (Nat.le_of_ble_eq_true rfl) d_Mod_made_71 (fun v4 α2 H locs e3 h hI => ?_)
        refine lv_iconst (v := 0) hx hb d_Mod_made_74 (by decide) ?_
        refine lv_iload_n hx hb d_Mod_made_75 rfl (lv_at hl 4 rfl) ?_
        refine lv_iload hx hb d_Mod_made_76 (lv_at hl 5 rfl) ?_
        refine lv_iadd hx hb d_Mod_made_78 ?_
        refine mg_cI (As := [.int v4, .int 0, .int (x3_6 + x4_6)]) (rest := []) h (k_Mod_of (l := l) (g := g) (α := α2) N v4 0 (x3_6 + x4_6)) S hlocks hno E hI kw_Mod_555 ⟨Nat.le_of_ble_eq_true rfl, Nat.le_of_ble_eq_true rfl⟩ (mv_Mod E hI) rfl hl.1 rfl (Nat.le_of_ble_eq_true rfl) d_Mod_made_79 (fun v7 α5 H locs e6 h hI => ?_)
        refine lv_istore (lv' := [(8, .int v7), (7, .int x7_6), (0, .ref (mad g 0)), (1, .int x1_6), (3, .int x3_6), (4, .int x4_6), (5, .int x5_6), (6, .int x6_6)]) hx hb d_Mod_made_82 hl (by decide) rfl (fun ls hl => ?_)
        refine lv_aload_n hx hb d_Mod_made_84 rfl (lv_at hl 2 rfl) ?_
        refine lv_iconst (v := 0) hx hb d_Mod_made_85 (by decide) ?_
        refine mp_listed S E hI vt_1341 d_Mod_made_86 (fun H locs hI => ?_)
        refine lv_iconst (v := 0) hx hb d_Mod_made_89 (by decide) ?_
        refine lv_istore (lv' := [(9, .int 0), (8, .int v7), (7, .int x7_6), (0, .ref (mad g 0)), (1, .int x1_6), (3, .int x3_6), (4, .int x4_6), (5, .int x5_6), (6, .int x6_6)]) hx hb d_Mod_made_90 hl (by decide) rfl (fun ls hl => ?_)
        have L92 : ∀ (n92 : Nat) (x9_92 : Int32) (x8_92 : Int32) (x1_92 : Int32) (x3_92 : Int32) (x4_92 : Int32) (x5_92 : Int32) (x6_92 : Int32) (β92 : mS) (H : Heap) (locs : List Loc) (ls : Array Slot), f_Mod_made_92 N n92 x9_92 x8_92 x1_92 x3_92 x4_92 x5_92 x6_92 β92 = some x → mI g A s β92 H locs → lv_has ls 16 [(9, .int x9_92), (8, .int x8_92), (0, .ref (mad g 0)), (1, .int x1_92), (3, .int x3_92), (4, .int x4_92), (5, .int x5_92), (6, .int x6_92)] → W p l e (mR (851) (23864)) s m ([.ref (mad g 0), .int a1, .int a2, .int a3, .int a4, .int a5, .int a6]).toArray below meth c H locs 0 0 (vEQ below (mQ g A (mQr x)) ([.ref (mad g 0), .int a1, .int a2, .int a3, .int a4, .int a5, .int a6]).toArray s A) (F0 m 92 ls []) := by
          intro n92
          induction n92 with
          | zero => intro x9_92 x8_92 x1_92 x3_92 x4_92 x5_92 x6_92 β92 H locs ls h hI hl; rw [f_Mod_made_92] at h; cases h
          | succ n92 ih92 =>
            intro x9_92 x8_92 x1_92 x3_92 x4_92 x5_92 x6_92 β92 H locs ls h hI hl
            rw [f_Mod_made_92] at h
            refine lv_iload hx hb d_Mod_made_92 (lv_at hl 0 rfl) ?_
            refine lv_iload hx hb d_Mod_made_94 (lv_at hl 5 rfl) ?_
            refine lv_icmp_ge (tgt := 130) hx hb d_Mod_made_96 (by decide) (fun c8 => ?_) (fun c8 => ?_)
            · replace h := Eq.trans (if_pos c8).symm h
              refine lv_aload_n hx hb d_Mod_made_130 rfl (lv_at hl 2 rfl) ?_
              refine lv_aload_n hx hb d_Mod_made_131 rfl (lv_at hl 2 rfl) ?_
              refine lv_bipush (v := 6) hx hb d_Mod_made_132 (by decide) ?_
              refine lv_iconst (v := 0) hx hb d_Mod_made_134 (by decide) ?_
              refine lv_aload_n hx hb d_Mod_made_135 rfl (lv_at hl 2 rfl) ?_
              refine lv_bipush (v := 6) hx hb d_Mod_made_136 (by decide) ?_
              refine lv_iload hx hb d_Mod_made_138 (lv_at hl 1 rfl) ?_
              refine lv_aload_n hx hb d_Mod_made_140 rfl (lv_at hl 2 rfl) ?_
              refine lv_iconst (v := (-1)) hx hb d_Mod_made_141 (by decide) ?_
              refine mg_cI (As := [.int (-1)]) (rest := [.int x8_92, .int 6, .ref (mad g 0), .int 0, .int 6, .ref (mad g 0), .ref (mad g 0)]) h (k_Mod_sort (l := l) (g := g) (α := β92) N (-1)) S hlocks hno E hI kw_Mod_356 ⟨Nat.le_of_ble_eq_true rfl, Nat.le_of_ble_eq_true rfl⟩ (mv_Mod E hI) rfl hl.1 rfl (Nat.le_of_ble_eq_true rfl) d_Mod_made_142 (fun v11 α9 H locs e10 h hI => ?_)
              refine lv_iconst (v := 0) hx hb d_Mod_made_145 (by decide) ?_
              refine mg_cI (As := [.int 6, .int x8_92, .int v11, .int 0]) (rest := [.int 0, .int 6, .ref (mad g 0), .ref (mad g 0)]) h (k_Mod_node (l := l) (g := g) (α := α9) N 6 x8_92 v11 0) S hlocks hno E hI kw_Mod_336 ⟨Nat.le_of_ble_eq_true rfl, Nat.le_of_ble_eq_true rfl⟩ (mv_Mod E hI) rfl hl.1 rfl (Nat.le_of_ble_eq_true rfl) d_Mod_made_146 (fun v14 α12 H locs e13 h hI => ?_)
              refine mg_cI (As := [.int 6, .int 0, .int v14]) (rest := [.ref (mad g 0)]) h (k_Mod_chain (l := l) (g := g) (α := α12) N 6 0 v14) S hlocks hno E hI kw_Mod_558 ⟨Nat.le_of_ble_eq_true rfl, Nat.le_of_ble_eq_true rfl⟩ (mv_Mod E hI) rfl hl.1 rfl (Nat.le_of_ble_eq_true rfl) d_Mod_made_149 (fun v17 α15 H locs e16 h hI => ?_)
              refine mg_cI (As := [.int v17]) (rest := []) h (k_Mod_fresh (l := l) (g := g) (α := α15) N v17) S hlocks hno E hI kw_Mod_468 ⟨Nat.le_of_ble_eq_true rfl, Nat.le_of_ble_eq_true rfl⟩ (mv_Mod E hI) rfl hl.1 rfl (Nat.le_of_ble_eq_true rfl) d_Mod_made_152 (fun v20 α18 H locs e19 h hI => ?_)
              refine lv_istore (lv' := [(9, .int v20), (8, .int x8_92), (0, .ref (mad g 0)), (1, .int x1_92), (3, .int x3_92), (4, .int x4_92), (5, .int x5_92), (6, .int x6_92)]) hx hb d_Mod_made_155 hl (by decide) rfl (fun ls hl => ?_)
              refine lv_iconst (v := 0) hx hb d_Mod_made_157 (by decide) ?_
              refine lv_istore (lv' := [(10, .int 0), (9, .int v20), (8, .int x8_92), (0, .ref (mad g 0)), (1, .int x1_92), (3, .int x3_92), (4, .int x4_92), (5, .int x5_92), (6, .int x6_92)]) hx hb d_Mod_made_158 hl (by decide) rfl (fun ls hl => ?_)
              have L160 : ∀ (n160 : Nat) (x10_160 : Int32) (x9_160 : Int32) (x8_160 : Int32) (x1_160 : Int32) (x3_160 : Int32) (x4_160 : Int32) (x5_160 : Int32) (x6_160 : Int32) (β160 : mS) (H : Heap) (locs : List Loc) (ls : Array Slot), f_Mod_made_160 N n160 x10_160 x9_160 x8_160 x1_160 x3_160 x4_160 x5_160 x6_160 β160 = some x → mI g A s β160 H locs → lv_has ls 16 [(10, .int x10_160), (9, .int x9_160), (8, .int x8_160), (0, .ref (mad g 0)), (1, .int x1_160), (3, .int x3_160), (4, .int x4_160), (5, .int x5_160), (6, .int x6_160)] → W p l e (mR (851) (23864)) s m ([.ref (mad g 0), .int a1, .int a2, .int a3, .int a4, .int a5, .int a6]).toArray below meth c H locs 0 0 (vEQ below (mQ g A (mQr x)) ([.ref (mad g 0), .int a1, .int a2, .int a3, .int a4, .int a5, .int a6]).toArray s A) (F0 m 160 ls []) := by
                intro n160
                induction n160 with
                | zero => intro x10_160 x9_160 x8_160 x1_160 x3_160 x4_160 x5_160 x6_160 β160 H locs ls h hI hl; rw [f_Mod_made_160] at h; cases h
                | succ n160 ih160 =>
                  intro x10_160 x9_160 x8_160 x1_160 x3_160 x4_160 x5_160 x6_160 β160 H locs ls h hI hl
                  rw [f_Mod_made_160] at h
                  refine lv_iload hx hb d_Mod_made_160 (lv_at hl 0 rfl) ?_
                  refine lv_iload hx hb d_Mod_made_162 (lv_at hl 7 rfl) ?_
                  refine lv_icmp_ge (tgt := 212) hx hb d_Mod_made_164 (by decide) (fun c21 => ?_) (fun c21 => ?_)
                  · replace h := Eq.trans (if_pos c21).symm h
                    refine lv_aload_n hx hb d_Mod_made_212 rfl (lv_at hl 3 rfl) ?_
                    refine lv_iload hx hb d_Mod_made_213 (lv_at hl 2 rfl) ?_
                    refine mg_cI (As := [.int x8_160]) (rest := []) h (k_Mod_fresh (l := l) (g := g) (α := β160) N x8_160) S hlocks hno E hI kw_Mod_468 ⟨Nat.le_of_ble_eq_true rfl, Nat.le_of_ble_eq_true rfl⟩ (mv_Mod E hI) rfl hl.1 rfl (Nat.le_of_ble_eq_true rfl) d_Mod_made_215 (fun v24 α22 H locs e23 h hI => ?_)
                    refine lv_istore (lv' := [(10, .int v24), (9, .int x9_160), (8, .int x8_160), (0, .ref (mad g 0)), (1, .int x1_160), (3, .int x3_160), (4, .int x4_160), (5, .int x5_160), (6, .int x6_160)]) hx hb d_Mod_made_218 hl (by decide) rfl (fun ls hl => ?_)
                    refine lv_aload_n hx hb d_Mod_made_220 rfl (lv_at hl 3 rfl) ?_
                    refine lv_iconst (v := 0) hx hb d_Mod_made_221 (by decide) ?_
                    refine mp_listed S E hI vt_1341 d_Mod_made_222 (fun H locs hI => ?_)
                    refine lv_aload_n hx hb d_Mod_made_225 rfl (lv_at hl 3 rfl) ?_
                    refine lv_iload_n hx hb d_Mod_made_226 rfl (lv_at hl 5 rfl) ?_
                    refine lv_iload hx hb d_Mod_made_227 (lv_at hl 1 rfl) ?_
                    refine lv_iload hx hb d_Mod_made_229 (lv_at hl 7 rfl) ?_
                    refine mg_cV (As := [.int x3_160, .int x9_160, .int x5_160]) (rest := []) h (k_Mod_heads (l := l) (g := g) (α := (mSi α22 30 0)) N x3_160 x9_160 x5_160) S hlocks hno E hI kw_Mod_564 ⟨Nat.le_of_ble_eq_true rfl, Nat.le_of_ble_eq_true rfl⟩ (mv_Mod E hI) rfl hl.1 rfl (Nat.le_of_ble_eq_true rfl) d_Mod_made_231 (fun α25 H locs e26 h hI => ?_)
                    refine lv_iconst (v := 0) hx hb d_Mod_made_234 (by decide) ?_
                    refine lv_istore (lv' := [(11, .int 0), (10, .int v24), (9, .int x9_160), (8, .int x8_160), (0, .ref (mad g 0)), (1, .int x1_160), (3, .int x3_160), (4, .int x4_160), (5, .int x5_160), (6, .int x6_160)]) hx hb d_Mod_made_235 hl (by decide) rfl (fun ls hl => ?_)
                    have L237 : ∀ (n237 : Nat) (x11_237 : Int32) (x10_237 : Int32) (x9_237 : Int32) (x1_237 : Int32) (x3_237 : Int32) (x4_237 : Int32) (x5_237 : Int32) (x6_237 : Int32) (β237 : mS) (H : Heap) (locs : List Loc) (ls : Array Slot), f_Mod_made_237 N n237 x11_237 x10_237 x9_237 x1_237 x3_237 x4_237 x5_237 x6_237 β237 = some x → mI g A s β237 H locs → lv_has ls 16 [(11, .int x11_237), (10, .int x10_237), (9, .int x9_237), (0, .ref (mad g 0)), (1, .int x1_237), (3, .int x3_237), (4, .int x4_237), (5, .int x5_237), (6, .int x6_237)] → W p l e (mR (851) (23864)) s m ([.ref (mad g 0), .int a1, .int a2, .int a3, .int a4, .int a5, .int a6]).toArray below meth c H locs 0 0 (vEQ below (mQ g A (mQr x)) ([.ref (mad g 0), .int a1, .int a2, .int a3, .int a4, .int a5, .int a6]).toArray s A) (F0 m 237 ls []) := by
                      intro n237
                      induction n237 with
                      | zero => intro x11_237 x10_237 x9_237 x1_237 x3_237 x4_237 x5_237 x6_237 β237 H locs ls h hI hl; rw [f_Mod_made_237] at h; cases h
                      | succ n237 ih237 =>
                        intro x11_237 x10_237 x9_237 x1_237 x3_237 x4_237 x5_237 x6_237 β237 H locs ls h hI hl
                        rw [f_Mod_made_237] at h
                        refine lv_iload hx hb d_Mod_made_237 (lv_at hl 0 rfl) ?_
                        refine lv_iload hx hb d_Mod_made_239 (lv_at hl 6 rfl) ?_
                        refine lv_icmp_ge (tgt := 275) hx hb d_Mod_made_241 (by decide) (fun c27 => ?_) (fun c27 => ?_)
                        · replace h := Eq.trans (if_pos c27).symm h
                          refine lv_aload_n hx hb d_Mod_made_275 rfl (lv_at hl 3 rfl) ?_
                          refine mf_list S E hI vt_1340 d_Mod_made_276 ?_
                          refine lv_aload_n hx hb d_Mod_made_279 rfl (lv_at hl 3 rfl) ?_
                          refine lv_dup hx hb d_Mod_made_280 rfl ?_
                          refine mf_listed S E hI vt_1341 d_Mod_made_281 ?_
                          refine lv_dup_x1 hx hb d_Mod_made_284 rfl rfl ?_
                          refine lv_iconst (v := 1) hx hb d_Mod_made_285 (by decide) ?_
                          refine lv_iadd hx hb d_Mod_made_286 ?_
                          refine mp_listed S E hI vt_1341 d_Mod_made_287 (fun H locs hI => ?_)
                          refine lv_aload_n hx hb d_Mod_made_290 rfl (lv_at hl 3 rfl) ?_
                          refine mf_one S E hI vt_1280 d_Mod_made_291 ?_
                          refine lv_iload hx hb d_Mod_made_294 (lv_at hl 1 rfl) ?_
                          by_cases c28 : x10_237 < 0 ∨ 400000 ≤ (x10_237 : Int32).toNatClampNeg
                          · replace h := Eq.trans (if_pos c28).symm h
                            cases h
                          · replace h := Eq.trans (if_neg c28).symm h
                            refine ml_one S E hI c28 d_Mod_made_296 ?_
                            by_cases c29 : (β237.1 30) < 0 ∨ 9000 ≤ ((β237.1 30) : Int32).toNatClampNeg
                            · replace h := Eq.trans (if_pos c29).symm h
                              cases h
                            · replace h := Eq.trans (if_neg c29).symm h
                              refine ms_list S E hI c29 d_Mod_made_297 (fun H locs hI => ?_)
                              refine lv_aload_n hx hb d_Mod_made_298 rfl (lv_at hl 3 rfl) ?_
                              refine lv_aload_n hx hb d_Mod_made_299 rfl (lv_at hl 3 rfl) ?_
                              refine lv_bipush (v := 6) hx hb d_Mod_made_300 (by decide) ?_
                              refine lv_iconst (v := 0) hx hb d_Mod_made_302 (by decide) ?_
                              refine lv_aload_n hx hb d_Mod_made_303 rfl (lv_at hl 3 rfl) ?_
                              refine lv_aload_n hx hb d_Mod_made_304 rfl (lv_at hl 3 rfl) ?_
                              refine lv_iload hx hb d_Mod_made_305 (lv_at hl 2 rfl) ?_
                              refine lv_iload_n hx hb d_Mod_made_307 rfl (lv_at hl 5 rfl) ?_
                              refine lv_iload hx hb d_Mod_made_308 (lv_at hl 6 rfl) ?_
                              refine mg_cI (As := [.int x9_237, .int x3_237, .int x4_237]) (rest := [.ref (mad g 0), .int 0, .int 6, .ref (mad g 0), .ref (mad g 0)]) h (k_Mod_of (l := l) (g := g) (α := (mSA (mSi β237 30 ((β237.1 30) + 1)) 41 (upd ((mSi β237 30 ((β237.1 30) + 1)).2 41) ((β237.1 30) : Int32).toNatClampNeg ((mSi β237 30 ((β237.1 30) + 1)).2 3 (x10_237 : Int32).toNatClampNeg)))) N x9_237 x3_237 x4_237) S hlocks hno E hI kw_Mod_555 ⟨Nat.le_of_ble_eq_true rfl, Nat.le_of_ble_eq_true rfl⟩ (mv_Mod E hI) rfl hl.1 rfl (Nat.le_of_ble_eq_true rfl) d_Mod_made_310 (fun v32 α30 H locs e31 h hI => ?_)
                              refine lv_iload hx hb d_Mod_made_313 (lv_at hl 1 rfl) ?_
                              refine mg_cI (As := [.int v32, .int x10_237]) (rest := [.int 0, .int 6, .ref (mad g 0), .ref (mad g 0)]) h (k_Mod_apply (l := l) (g := g) (α := α30) N v32 x10_237) S hlocks hno E hI kw_Mod_350 ⟨Nat.le_of_ble_eq_true rfl, Nat.le_of_ble_eq_true rfl⟩ (mv_Mod E hI) rfl hl.1 rfl (Nat.le_of_ble_eq_true rfl) d_Mod_made_315 (fun v35 α33 H locs e34 h hI => ?_)
                              refine mg_cI (As := [.int 6, .int 0, .int v35]) (rest := [.ref (mad g 0)]) h (k_Mod_chain (l := l) (g := g) (α := α33) N 6 0 v35) S hlocks hno E hI kw_Mod_558 ⟨Nat.le_of_ble_eq_true rfl, Nat.le_of_ble_eq_true rfl⟩ (mv_Mod E hI) rfl hl.1 rfl (Nat.le_of_ble_eq_true rfl) d_Mod_made_318 (fun v38 α36 H locs e37 h hI => ?_)
                              refine mg_cI (As := [.int v38]) (rest := []) h (k_Mod_fits (l := l) (g := g) (α := α36) N v38) S hlocks hno E hI kw_Mod_402 ⟨Nat.le_of_ble_eq_true rfl, Nat.le_of_ble_eq_true rfl⟩ (mv_Mod E hI) rfl hl.1 rfl (Nat.le_of_ble_eq_true rfl) d_Mod_made_321 (fun v41 α39 H locs e40 h hI => ?_)
                              refine lv_istore (lv' := [(11, .int v41), (10, .int x10_237), (9, .int x9_237), (0, .ref (mad g 0)), (1, .int x1_237), (3, .int x3_237), (4, .int x4_237), (5, .int x5_237), (6, .int x6_237)]) hx hb d_Mod_made_324 hl (by decide) rfl (fun ls hl => ?_)
                              refine lv_aload_n hx hb d_Mod_made_326 rfl (lv_at hl 3 rfl) ?_
                              refine mf_big S E hI vt_1283 d_Mod_made_327 ?_
                              refine lv_iload hx hb d_Mod_made_330 (lv_at hl 8 rfl) ?_
                              by_cases c42 : x6_237 < 0 ∨ 400000 ≤ (x6_237 : Int32).toNatClampNeg
                              · replace h := Eq.trans (if_pos c42).symm h
                                cases h
                              · replace h := Eq.trans (if_neg c42).symm h
                                refine ml_big S E hI c42 d_Mod_made_332 ?_
                                refine lv_aload_n hx hb d_Mod_made_333 rfl (lv_at hl 3 rfl) ?_
                                refine mf_big S E hI vt_1283 d_Mod_made_334 ?_
                                refine lv_iload hx hb d_Mod_made_337 (lv_at hl 0 rfl) ?_
                                by_cases c43 : v41 < 0 ∨ 400000 ≤ (v41 : Int32).toNatClampNeg
                                · replace h := Eq.trans (if_pos c43).symm h
                                  cases h
                                · replace h := Eq.trans (if_neg c43).symm h
                                  refine ml_big S E hI c43 d_Mod_made_339 ?_
                                  refine lv_iadd hx hb d_Mod_made_340 ?_
                                  refine lv_istore (lv' := [(12, .int ((α39.2 6 (x6_237 : Int32).toNatClampNeg) + (α39.2 6 (v41 : Int32).toNatClampNeg))), (11, .int v41), (10, .int x10_237), (9, .int x9_237), (0, .ref (mad g 0)), (1, .int x1_237), (3, .int x3_237), (4, .int x4_237), (5, .int x5_237), (6, .int x6_237)]) hx hb d_Mod_made_341 hl (by decide) rfl (fun ls hl => ?_)
                                  refine lv_iconst (v := 0) hx hb d_Mod_made_343 (by decide) ?_
                                  refine lv_istore (lv' := [(13, .int 0), (12, .int ((α39.2 6 (x6_237 : Int32).toNatClampNeg) + (α39.2 6 (v41 : Int32).toNatClampNeg))), (11, .int v41), (10, .int x10_237), (9, .int x9_237), (0, .ref (mad g 0)), (1, .int x1_237), (3, .int x3_237), (4, .int x4_237), (5, .int x5_237), (6, .int x6_237)]) hx hb d_Mod_made_344 hl (by decide) rfl (fun ls hl => ?_)
                                  have L346 : ∀ (n346 : Nat) (x13_346 : Int32) (x12_346 : Int32) (x11_346 : Int32) (x9_346 : Int32) (x1_346 : Int32) (x3_346 : Int32) (x4_346 : Int32) (x5_346 : Int32) (x6_346 : Int32) (β346 : mS) (H : Heap) (locs : List Loc) (ls : Array Slot), f_Mod_made_346 N n346 x13_346 x12_346 x11_346 x9_346 x1_346 x3_346 x4_346 x5_346 x6_346 β346 = some x → mI g A s β346 H locs → lv_has ls 16 [(13, .int x13_346), (12, .int x12_346), (11, .int x11_346), (9, .int x9_346), (0, .ref (mad g 0)), (1, .int x1_346), (3, .int x3_346), (4, .int x4_346), (5, .int x5_346), (6, .int x6_346)] → W p l e (mR (851) (23864)) s m ([.ref (mad g 0), .int a1, .int a2, .int a3, .int a4, .int a5, .int a6]).toArray below meth c H locs 0 0 (vEQ below (mQ g A (mQr x)) ([.ref (mad g 0), .int a1, .int a2, .int a3, .int a4, .int a5, .int a6]).toArray s A) (F0 m 346 ls []) := by
                                    intro n346
                                    induction n346 with
                                    | zero => intro x13_346 x12_346 x11_346 x9_346 x1_346 x3_346 x4_346 x5_346 x6_346 β346 H locs ls h hI hl; rw [f_Mod_made_346] at h; cases h
                                    | succ n346 ih346 =>
                                      intro x13_346 x12_346 x11_346 x9_346 x1_346 x3_346 x4_346 x5_346 x6_346 β346 H locs ls h hI hl
                                      rw [f_Mod_made_346] at h
                                      refine lv_iload hx hb d_Mod_made_346 (lv_at hl 0 rfl) ?_
                                      refine lv_iload hx hb d_Mod_made_348 (lv_at hl 8 rfl) ?_
                                      refine lv_icmp_ge (tgt := 382) hx hb d_Mod_made_350 (by decide) (fun c44 => ?_) (fun c44 => ?_)
                                      · replace h := Eq.trans (if_pos c44).symm h
                                        refine lv_aload_n hx hb d_Mod_made_382 rfl (lv_at hl 4 rfl) ?_
                                        refine lv_iload hx hb d_Mod_made_383 (lv_at hl 1 rfl) ?_
                                        refine mg_cV (As := [.int x12_346]) (rest := []) h (k_Mod_room (l := l) (g := g) (α := β346) N x12_346) S hlocks hno E hI kw_Mod_525 ⟨Nat.le_of_ble_eq_true rfl, Nat.le_of_ble_eq_true rfl⟩ (mv_Mod E hI) rfl hl.1 rfl (Nat.le_of_ble_eq_true rfl) d_Mod_made_385 (fun α45 H locs e46 h hI => ?_)
                                        refine lv_aload_n hx hb d_Mod_made_388 rfl (lv_at hl 4 rfl) ?_
                                        refine mf_typeOf S E hI vt_1297 d_Mod_made_389 ?_
                                        refine lv_iload_n hx hb d_Mod_made_392 rfl (lv_at hl 5 rfl) ?_
                                        refine lv_aload_n hx hb d_Mod_made_393 rfl (lv_at hl 4 rfl) ?_
                                        refine lv_iload hx hb d_Mod_made_394 (lv_at hl 9 rfl) ?_
                                        refine mg_cI (As := [.int x6_346]) (rest := [.int x1_346, .ref (mad g 14)]) h (k_Mod_keep (l := l) (g := g) (α := α45) N x6_346) S hlocks hno E hI kw_Mod_528 ⟨Nat.le_of_ble_eq_true rfl, Nat.le_of_ble_eq_true rfl⟩ (mv_Mod E hI) rfl hl.1 rfl (Nat.le_of_ble_eq_true rfl) d_Mod_made_396 (fun v49 α47 H locs e48 h hI => ?_)
                                        by_cases c50 : x1_346 < 0 ∨ 301 ≤ (x1_346 : Int32).toNatClampNeg
                                        · replace h := Eq.trans (if_pos c50).symm h
                                          cases h
                                        · replace h := Eq.trans (if_neg c50).symm h
                                          refine ms_typeOf S E hI c50 d_Mod_made_399 (fun H locs hI => ?_)
                                          refine lv_aload_n hx hb d_Mod_made_400 rfl (lv_at hl 4 rfl) ?_
                                          refine mf_recType S E hI vt_1305 d_Mod_made_401 ?_
                                          refine lv_iload_n hx hb d_Mod_made_404 rfl (lv_at hl 5 rfl) ?_
                                          refine lv_aload_n hx hb d_Mod_made_405 rfl (lv_at hl 4 rfl) ?_
                                          refine lv_iload hx hb d_Mod_made_406 (lv_at hl 2 rfl) ?_
                                          refine mg_cI (As := [.int x11_346]) (rest := [.int x1_346, .ref (mad g 22)]) h (k_Mod_keep (l := l) (g := g) (α := (mSA α47 13 (upd (α47.2 13) (x1_346 : Int32).toNatClampNeg v49))) N x11_346) S hlocks hno E hI kw_Mod_528 ⟨Nat.le_of_ble_eq_true rfl, Nat.le_of_ble_eq_true rfl⟩ (mv_Mod E hI) rfl hl.1 rfl (Nat.le_of_ble_eq_true rfl) d_Mod_made_408 (fun v53 α51 H locs e52 h hI => ?_)
                                          by_cases c54 : x1_346 < 0 ∨ 301 ≤ (x1_346 : Int32).toNatClampNeg
                                          · replace h := Eq.trans (if_pos c54).symm h
                                            cases h
                                          · replace h := Eq.trans (if_neg c54).symm h
                                            refine ms_recType S E hI c54 d_Mod_made_411 (fun H locs hI => ?_)
                                            refine lv_iconst (v := 0) hx hb d_Mod_made_412 (by decide) ?_
                                            refine lv_istore (lv' := [(13, .int 0), (12, .int x12_346), (11, .int x11_346), (9, .int x9_346), (0, .ref (mad g 0)), (1, .int x1_346), (3, .int x3_346), (4, .int x4_346), (5, .int x5_346), (6, .int x6_346)]) hx hb d_Mod_made_413 hl (by decide) rfl (fun ls hl => ?_)
                                            have L415 : ∀ (n415 : Nat) (x13_415 : Int32) (x9_415 : Int32) (x1_415 : Int32) (x3_415 : Int32) (x4_415 : Int32) (x5_415 : Int32) (β415 : mS) (H : Heap) (locs : List Loc) (ls : Array Slot), f_Mod_made_415 N n415 x13_415 x9_415 x1_415 x3_415 x4_415 x5_415 β415 = some x → mI g A s β415 H locs → lv_has ls 16 [(13, .int x13_415), (9, .int x9_415), (0, .ref (mad g 0)), (1, .int x1_415), (3, .int x3_415), (4, .int x4_415), (5, .int x5_415)] → W p l e (mR (851) (23864)) s m ([.ref (mad g 0), .int a1, .int a2, .int a3, .int a4, .int a5, .int a6]).toArray below meth c H locs 0 0 (vEQ below (mQ g A (mQr x)) ([.ref (mad g 0), .int a1, .int a2, .int a3, .int a4, .int a5, .int a6]).toArray s A) (F0 m 415 ls []) := by
                                              intro n415
                                              induction n415 with
                                              | zero => intro x13_415 x9_415 x1_415 x3_415 x4_415 x5_415 β415 H locs ls h hI hl; rw [f_Mod_made_415] at h; cases h
                                              | succ n415 ih415 =>
                                                intro x13_415 x9_415 x1_415 x3_415 x4_415 x5_415 β415 H locs ls h hI hl
                                                rw [f_Mod_made_415] at h
                                                refine lv_iload hx hb d_Mod_made_415 (lv_at hl 0 rfl) ?_
                                                refine lv_iload hx hb d_Mod_made_417 (lv_at hl 6 rfl) ?_
                                                refine lv_icmp_ge (tgt := 450) hx hb d_Mod_made_419 (by decide) (fun c55 => ?_) (fun c55 => ?_)
                                                · replace h := Eq.trans (if_pos c55).symm h
                                                  refine lv_aload_n hx hb d_Mod_made_450 rfl (lv_at hl 2 rfl) ?_
                                                  refine mf_top S E hI vt_1285 d_Mod_made_451 ?_
                                                  refine lv_istore (lv' := [(13, .int (β415.1 10)), (9, .int x9_415), (0, .ref (mad g 0)), (1, .int x1_415), (3, .int x3_415), (4, .int x4_415), (5, .int x5_415)]) hx hb d_Mod_made_454 hl (by decide) rfl (fun ls hl => ?_)
                                                  refine lv_iconst (v := 0) hx hb d_Mod_made_456 (by decide) ?_
                                                  refine lv_istore (lv' := [(14, .int 0), (13, .int (β415.1 10)), (9, .int x9_415), (0, .ref (mad g 0)), (1, .int x1_415), (3, .int x3_415), (4, .int x4_415), (5, .int x5_415)]) hx hb d_Mod_made_457 hl (by decide) rfl (fun ls hl => ?_)
                                                  have L459 : ∀ (n459 : Nat) (x14_459 : Int32) (x13_459 : Int32) (x9_459 : Int32) (x1_459 : Int32) (x3_459 : Int32) (x4_459 : Int32) (x5_459 : Int32) (β459 : mS) (H : Heap) (locs : List Loc) (ls : Array Slot), f_Mod_made_459 N n459 x14_459 x13_459 x9_459 x1_459 x3_459 x4_459 x5_459 β459 = some x → mI g A s β459 H locs → lv_has ls 16 [(14, .int x14_459), (13, .int x13_459), (9, .int x9_459), (0, .ref (mad g 0)), (1, .int x1_459), (3, .int x3_459), (4, .int x4_459), (5, .int x5_459)] → W p l e (mR (851) (23864)) s m ([.ref (mad g 0), .int a1, .int a2, .int a3, .int a4, .int a5, .int a6]).toArray below meth c H locs 0 0 (vEQ below (mQ g A (mQr x)) ([.ref (mad g 0), .int a1, .int a2, .int a3, .int a4, .int a5, .int a6]).toArray s A) (F0 m 459 ls []) := by
                                                    intro n459
                                                    induction n459 with
                                                    | zero => intro x14_459 x13_459 x9_459 x1_459 x3_459 x4_459 x5_459 β459 H locs ls h hI hl; rw [f_Mod_made_459] at h; cases h
                                                    | succ n459 ih459 =>
                                                      intro x14_459 x13_459 x9_459 x1_459 x3_459 x4_459 x5_459 β459 H locs ls h hI hl
                                                      rw [f_Mod_made_459] at h
                                                      refine lv_iload hx hb d_Mod_made_459 (lv_at hl 0 rfl) ?_
                                                      refine lv_iload hx hb d_Mod_made_461 (lv_at hl 7 rfl) ?_
                                                      refine lv_icmp_ge (tgt := 526) hx hb d_Mod_made_463 (by decide) (fun c56 => ?_) (fun c56 => ?_)
                                                      · replace h := Eq.trans (if_pos c56).symm h
                                                        exact mc_vret hx hb hr hlocks E hI h d_Mod_made_526
                                                      · replace h := Eq.trans (if_neg c56).symm h
                                                        refine lv_aload_n hx hb d_Mod_made_466 rfl (lv_at hl 3 rfl) ?_
                                                        refine lv_aload_n hx hb d_Mod_made_467 rfl (lv_at hl 3 rfl) ?_
                                                        refine lv_iload_n hx hb d_Mod_made_468 rfl (lv_at hl 4 rfl) ?_
                                                        refine lv_iload hx hb d_Mod_made_469 (lv_at hl 0 rfl) ?_
                                                        refine lv_iload_n hx hb d_Mod_made_471 rfl (lv_at hl 5 rfl) ?_
                                                        refine lv_iload hx hb d_Mod_made_472 (lv_at hl 6 rfl) ?_
                                                        refine lv_iload hx hb d_Mod_made_474 (lv_at hl 2 rfl) ?_
                                                        refine lv_iload hx hb d_Mod_made_476 (lv_at hl 7 rfl) ?_
                                                        refine mg_cI (As := [.int x1_459, .int x14_459, .int x3_459, .int x4_459, .int x9_459, .int x5_459]) (rest := [.ref (mad g 0)]) h (k_Mod_ruleOf (l := l) (g := g) (α := β459) N x1_459 x14_459 x3_459 x4_459 x9_459 x5_459) S hlocks hno E hI kw_Mod_567 ⟨Nat.le_of_ble_eq_true rfl, Nat.le_of_ble_eq_true rfl⟩ (mv_Mod E hI) rfl hl.1 rfl (Nat.le_of_ble_eq_true rfl) d_Mod_made_478 (fun v59 α57 H locs e58 h hI => ?_)
                                                        refine mg_cI (As := [.int v59]) (rest := []) h (k_Mod_fits (l := l) (g := g) (α := α57) N v59) S hlocks hno E hI kw_Mod_402 ⟨Nat.le_of_ble_eq_true rfl, Nat.le_of_ble_eq_true rfl⟩ (mv_Mod E hI) rfl hl.1 rfl (Nat.le_of_ble_eq_true rfl) d_Mod_made_481 (fun v62 α60 H locs e61 h hI => ?_)
                                                        refine lv_istore (lv' := [(15, .int v62), (14, .int x14_459), (13, .int x13_459), (9, .int x9_459), (0, .ref (mad g 0)), (1, .int x1_459), (3, .int x3_459), (4, .int x4_459), (5, .int x5_459)]) hx hb d_Mod_made_484 hl (by decide) rfl (fun ls hl => ?_)
                                                        refine lv_aload_n hx hb d_Mod_made_486 rfl (lv_at hl 4 rfl) ?_
                                                        refine lv_aload_n hx hb d_Mod_made_487 rfl (lv_at hl 4 rfl) ?_
                                                        refine mf_big S E hI vt_1283 d_Mod_made_488 ?_
                                                        refine lv_iload hx hb d_Mod_made_491 (lv_at hl 0 rfl) ?_
                                                        by_cases c63 : v62 < 0 ∨ 400000 ≤ (v62 : Int32).toNatClampNeg
                                                        · replace h := Eq.trans (if_pos c63).symm h
                                                          cases h
                                                        · replace h := Eq.trans (if_neg c63).symm h
                                                          refine ml_big S E hI c63 d_Mod_made_493 ?_
                                                          refine mg_cV (As := [.int (α60.2 6 (v62 : Int32).toNatClampNeg)]) (rest := []) h (k_Mod_room (l := l) (g := g) (α := α60) N (α60.2 6 (v62 : Int32).toNatClampNeg)) S hlocks hno E hI kw_Mod_525 ⟨Nat.le_of_ble_eq_true rfl, Nat.le_of_ble_eq_true rfl⟩ (mv_Mod E hI) rfl hl.1 rfl (Nat.le_of_ble_eq_true rfl) d_Mod_made_494 (fun α64 H locs e65 h hI => ?_)
                                                          refine lv_aload_n hx hb d_Mod_made_497 rfl (lv_at hl 4 rfl) ?_
                                                          refine mf_rule S E hI vt_1306 d_Mod_made_498 ?_
                                                          refine lv_iload_n hx hb d_Mod_made_501 rfl (lv_at hl 5 rfl) ?_
                                                          refine lv_iconst (v := 1) hx hb d_Mod_made_502 (by decide) ?_
                                                          refine lv_iadd hx hb d_Mod_made_503 ?_
                                                          refine lv_iload hx hb d_Mod_made_504 (lv_at hl 1 rfl) ?_
                                                          refine lv_iadd hx hb d_Mod_made_506 ?_
                                                          refine lv_aload_n hx hb d_Mod_made_507 rfl (lv_at hl 4 rfl) ?_
                                                          refine lv_iload hx hb d_Mod_made_508 (lv_at hl 0 rfl) ?_
                                                          refine mg_cI (As := [.int v62]) (rest := [.int ((x1_459 + 1) + x14_459), .ref (mad g 23)]) h (k_Mod_keep (l := l) (g := g) (α := α64) N v62) S hlocks hno E hI kw_Mod_528 ⟨Nat.le_of_ble_eq_true rfl, Nat.le_of_ble_eq_true rfl⟩ (mv_Mod E hI) rfl hl.1 rfl (Nat.le_of_ble_eq_true rfl) d_Mod_made_510 (fun v68 α66 H locs e67 h hI => ?_)
                                                          by_cases c69 : ((x1_459 + 1) + x14_459) < 0 ∨ 301 ≤ (((x1_459 + 1) + x14_459) : Int32).toNatClampNeg
                                                          · replace h := Eq.trans (if_pos c69).symm h
                                                            cases h
                                                          · replace h := Eq.trans (if_neg c69).symm h
                                                            refine ms_rule S E hI c69 d_Mod_made_513 (fun H locs hI => ?_)
                                                            refine lv_aload_n hx hb d_Mod_made_514 rfl (lv_at hl 4 rfl) ?_
                                                            refine lv_iload hx hb d_Mod_made_515 (lv_at hl 2 rfl) ?_
                                                            refine mp_top S E hI vt_1285 d_Mod_made_517 (fun H locs hI => ?_)
                                                            refine lv_iinc (v := (x14_459 + 1)) (lv' := [(14, .int (x14_459 + 1)), (15, .int v62), (13, .int x13_459), (9, .int x9_459), (0, .ref (mad g 0)), (1, .int x1_459), (3, .int x3_459), (4, .int x4_459), (5, .int x5_459)]) hx hb d_Mod_made_520 hl (k := 1) rfl rfl (by decide) rfl (fun ls hl => ?_)
                                                            refine lv_goto (tgt := 459) hx hb d_Mod_made_523 (by decide) ?_
                                                            exact ih459 (x14_459 + 1) x13_459 x9_459 x1_459 x3_459 x4_459 x5_459 _ _ _ _ h hI (lv_sub hl [0, 2, 3, 4, 5, 6, 7, 8] rfl)
                                                  exact L459 N 0 (β415.1 10) x9_415 x1_415 x3_415 x4_415 x5_415 _ _ _ _ h hI (lv_sub hl [0, 1, 2, 3, 4, 5, 6, 7] rfl)
                                                · replace h := Eq.trans (if_neg c55).symm h
                                                  refine lv_aload_n hx hb d_Mod_made_422 rfl (lv_at hl 2 rfl) ?_
                                                  refine mf_typeOf S E hI vt_1297 d_Mod_made_423 ?_
                                                  refine lv_iload_n hx hb d_Mod_made_426 rfl (lv_at hl 3 rfl) ?_
                                                  refine lv_iconst (v := 1) hx hb d_Mod_made_427 (by decide) ?_
                                                  refine lv_iadd hx hb d_Mod_made_428 ?_
                                                  refine lv_iload hx hb d_Mod_made_429 (lv_at hl 0 rfl) ?_
                                                  refine lv_iadd hx hb d_Mod_made_431 ?_
                                                  refine lv_aload_n hx hb d_Mod_made_432 rfl (lv_at hl 2 rfl) ?_
                                                  refine lv_aload_n hx hb d_Mod_made_433 rfl (lv_at hl 2 rfl) ?_
                                                  refine mf_wholes S E hI vt_1333 d_Mod_made_434 ?_
                                                  refine lv_iload hx hb d_Mod_made_437 (lv_at hl 0 rfl) ?_
                                                  by_cases c70 : x13_415 < 0 ∨ 301 ≤ (x13_415 : Int32).toNatClampNeg
                                                  · replace h := Eq.trans (if_pos c70).symm h
                                                    cases h
                                                  · replace h := Eq.trans (if_neg c70).symm h
                                                    refine ml_wholes S E hI c70 d_Mod_made_439 ?_
                                                    refine mg_cI (As := [.int (β415.2 35 (x13_415 : Int32).toNatClampNeg)]) (rest := [.int ((x1_415 + 1) + x13_415), .ref (mad g 14)]) h (k_Mod_keep (l := l) (g := g) (α := β415) N (β415.2 35 (x13_415 : Int32).toNatClampNeg)) S hlocks hno E hI kw_Mod_528 ⟨Nat.le_of_ble_eq_true rfl, Nat.le_of_ble_eq_true rfl⟩ (mv_Mod E hI) rfl hl.1 rfl (Nat.le_of_ble_eq_true rfl) d_Mod_made_440 (fun v73 α71 H locs e72 h hI => ?_)
                                                    by_cases c74 : ((x1_415 + 1) + x13_415) < 0 ∨ 301 ≤ (((x1_415 + 1) + x13_415) : Int32).toNatClampNeg
                                                    · replace h := Eq.trans (if_pos c74).symm h
                                                      cases h
                                                    · replace h := Eq.trans (if_neg c74).symm h
                                                      refine ms_typeOf S E hI c74 d_Mod_made_443 (fun H locs hI => ?_)
                                                      refine lv_iinc (v := (x13_415 + 1)) (lv' := [(13, .int (x13_415 + 1)), (9, .int x9_415), (0, .ref (mad g 0)), (1, .int x1_415), (3, .int x3_415), (4, .int x4_415), (5, .int x5_415)]) hx hb d_Mod_made_444 hl (k := 0) rfl rfl (by decide) rfl (fun ls hl => ?_)
                                                      refine lv_goto (tgt := 415) hx hb d_Mod_made_447 (by decide) ?_
                                                      exact ih415 (x13_415 + 1) x9_415 x1_415 x3_415 x4_415 x5_415 _ _ _ _ h hI (lv_sub hl [0, 1, 2, 3, 4, 5, 6] rfl)
                                            exact L415 N 0 x9_346 x1_346 x3_346 x4_346 x5_346 _ _ _ _ h hI (lv_sub hl [0, 3, 4, 5, 6, 7, 8] rfl)
                                      · replace h := Eq.trans (if_neg c44).symm h
                                        refine lv_ldcw (v := 1000000) hx hb hown (hT _ vt_1508) d_Mod_made_353 ?_
                                        refine lv_iload hx hb d_Mod_made_356 (lv_at hl 1 rfl) ?_
                                        refine lv_aload_n hx hb d_Mod_made_358 rfl (lv_at hl 4 rfl) ?_
                                        refine mf_big S E hI vt_1283 d_Mod_made_359 ?_
                                        refine lv_aload_n hx hb d_Mod_made_362 rfl (lv_at hl 4 rfl) ?_
                                        refine mf_wholes S E hI vt_1333 d_Mod_made_363 ?_
                                        refine lv_iload hx hb d_Mod_made_366 (lv_at hl 0 rfl) ?_
                                        by_cases c75 : x13_346 < 0 ∨ 301 ≤ (x13_346 : Int32).toNatClampNeg
                                        · replace h := Eq.trans (if_pos c75).symm h
                                          cases h
                                        · replace h := Eq.trans (if_neg c75).symm h
                                          refine ml_wholes S E hI c75 d_Mod_made_368 ?_
                                          by_cases c76 : (β346.2 35 (x13_346 : Int32).toNatClampNeg) < 0 ∨ 400000 ≤ ((β346.2 35 (x13_346 : Int32).toNatClampNeg) : Int32).toNatClampNeg
                                          · replace h := Eq.trans (if_pos c76).symm h
                                            cases h
                                          · replace h := Eq.trans (if_neg c76).symm h
                                            refine ml_big S E hI c76 d_Mod_made_369 ?_
                                            refine lv_iadd hx hb d_Mod_made_370 ?_
                                            refine va_mmin (x := 1000000) (y := (x12_346 + (β346.2 6 ((β346.2 35 (x13_346 : Int32).toNatClampNeg) : Int32).toNatClampNeg))) hx hb (S.2.2.1.trans hl.1.symm) hown (hT _ vt_1509) (hT _ vt_318) (hT _ vt_317) (hT _ vt_319) (Nat.le_of_ble_eq_true rfl) (Nat.le_of_ble_eq_true rfl) (Nat.zero_le _) (Nat.zero_le _) d_Mod_made_371 ?_
                                            refine lv_istore (lv' := [(12, .int (if (x12_346 + (β346.2 6 ((β346.2 35 (x13_346 : Int32).toNatClampNeg) : Int32).toNatClampNeg)) < 1000000 then (x12_346 + (β346.2 6 ((β346.2 35 (x13_346 : Int32).toNatClampNeg) : Int32).toNatClampNeg)) else 1000000)), (13, .int x13_346), (11, .int x11_346), (9, .int x9_346), (0, .ref (mad g 0)), (1, .int x1_346), (3, .int x3_346), (4, .int x4_346), (5, .int x5_346), (6, .int x6_346)]) hx hb d_Mod_made_374 hl (by decide) rfl (fun ls hl => ?_)
                                            refine lv_iinc (v := (x13_346 + 1)) (lv' := [(13, .int (x13_346 + 1)), (12, .int (if (x12_346 + (β346.2 6 ((β346.2 35 (x13_346 : Int32).toNatClampNeg) : Int32).toNatClampNeg)) < 1000000 then (x12_346 + (β346.2 6 ((β346.2 35 (x13_346 : Int32).toNatClampNeg) : Int32).toNatClampNeg)) else 1000000)), (11, .int x11_346), (9, .int x9_346), (0, .ref (mad g 0)), (1, .int x1_346), (3, .int x3_346), (4, .int x4_346), (5, .int x5_346), (6, .int x6_346)]) hx hb d_Mod_made_376 hl (k := 1) rfl rfl (by decide) rfl (fun ls hl => ?_)
                                            refine lv_goto (tgt := 346) hx hb d_Mod_made_379 (by decide) ?_
                                            exact ih346 (x13_346 + 1) (if (x12_346 + (β346.2 6 ((β346.2 35 (x13_346 : Int32).toNatClampNeg) : Int32).toNatClampNeg)) < 1000000 then (x12_346 + (β346.2 6 ((β346.2 35 (x13_346 : Int32).toNatClampNeg) : Int32).toNatClampNeg)) else 1000000) x11_346 x9_346 x1_346 x3_346 x4_346 x5_346 x6_346 _ _ _ _ h hI (lv_sub hl [0, 1, 2, 3, 4, 5, 6, 7, 8, 9] rfl)
                                  exact L346 N 0 ((α39.2 6 (x6_237 : Int32).toNatClampNeg) + (α39.2 6 (v41 : Int32).toNatClampNeg)) v41 x9_237 x1_237 x3_237 x4_237 x5_237 x6_237 _ _ _ _ h hI (lv_sub hl [0, 1, 2, 4, 5, 6, 7, 8, 9, 10] rfl)
                        · replace h := Eq.trans (if_neg c27).symm h
                          refine lv_aload_n hx hb d_Mod_made_244 rfl (lv_at hl 3 rfl) ?_
                          refine mf_list S E hI vt_1340 d_Mod_made_245 ?_
                          refine lv_aload_n hx hb d_Mod_made_248 rfl (lv_at hl 3 rfl) ?_
                          refine lv_dup hx hb d_Mod_made_249 rfl ?_
                          refine mf_listed S E hI vt_1341 d_Mod_made_250 ?_
                          refine lv_dup_x1 hx hb d_Mod_made_253 rfl rfl ?_
                          refine lv_iconst (v := 1) hx hb d_Mod_made_254 (by decide) ?_
                          refine lv_iadd hx hb d_Mod_made_255 ?_
                          refine mp_listed S E hI vt_1341 d_Mod_made_256 (fun H locs hI => ?_)
                          refine lv_aload_n hx hb d_Mod_made_259 rfl (lv_at hl 3 rfl) ?_
                          refine mf_are S E hI vt_1331 d_Mod_made_260 ?_
                          refine lv_iload_n hx hb d_Mod_made_263 rfl (lv_at hl 5 rfl) ?_
                          refine lv_iload hx hb d_Mod_made_264 (lv_at hl 0 rfl) ?_
                          refine lv_iadd hx hb d_Mod_made_266 ?_
                          by_cases c77 : (x3_237 + x11_237) < 0 ∨ 5000 ≤ ((x3_237 + x11_237) : Int32).toNatClampNeg
                          · replace h := Eq.trans (if_pos c77).symm h
                            cases h
                          · replace h := Eq.trans (if_neg c77).symm h
                            refine ml_are S E hI c77 d_Mod_made_267 ?_
                            by_cases c78 : (β237.1 30) < 0 ∨ 9000 ≤ ((β237.1 30) : Int32).toNatClampNeg
                            · replace h := Eq.trans (if_pos c78).symm h
                              cases h
                            · replace h := Eq.trans (if_neg c78).symm h
                              refine ms_list S E hI c78 d_Mod_made_268 (fun H locs hI => ?_)
                              refine lv_iinc (v := (x11_237 + 1)) (lv' := [(11, .int (x11_237 + 1)), (10, .int x10_237), (9, .int x9_237), (0, .ref (mad g 0)), (1, .int x1_237), (3, .int x3_237), (4, .int x4_237), (5, .int x5_237), (6, .int x6_237)]) hx hb d_Mod_made_269 hl (k := 0) rfl rfl (by decide) rfl (fun ls hl => ?_)
                              refine lv_goto (tgt := 237) hx hb d_Mod_made_272 (by decide) ?_
                              exact ih237 (x11_237 + 1) x10_237 x9_237 x1_237 x3_237 x4_237 x5_237 x6_237 _ _ _ _ h hI (lv_sub hl [0, 1, 2, 3, 4, 5, 6, 7, 8] rfl)
                    exact L237 N 0 v24 x9_160 x1_160 x3_160 x4_160 x5_160 x6_160 _ _ _ _ h hI (lv_sub hl [0, 1, 2, 4, 5, 6, 7, 8, 9] rfl)
                  · replace h := Eq.trans (if_neg c21).symm h
                    refine lv_aload_n hx hb d_Mod_made_167 rfl (lv_at hl 3 rfl) ?_
                    refine lv_aload_n hx hb d_Mod_made_168 rfl (lv_at hl 3 rfl) ?_
                    refine mf_openCost S E hI vt_1343 d_Mod_made_169 ?_
                    refine lv_iload hx hb d_Mod_made_172 (lv_at hl 0 rfl) ?_
                    by_cases c79 : x10_160 < 0 ∨ 301 ≤ (x10_160 : Int32).toNatClampNeg
                    · replace h := Eq.trans (if_pos c79).symm h
                      cases h
                    · replace h := Eq.trans (if_neg c79).symm h
                      refine ml_openCost S E hI c79 d_Mod_made_174 ?_
                      refine mg_cV (As := [.int (β160.2 43 (x10_160 : Int32).toNatClampNeg)]) (rest := []) h (k_Mod_costs (l := l) (g := g) (α := β160) N (β160.2 43 (x10_160 : Int32).toNatClampNeg)) S hlocks hno E hI kw_Mod_434 ⟨Nat.le_of_ble_eq_true rfl, Nat.le_of_ble_eq_true rfl⟩ (mv_Mod E hI) rfl hl.1 rfl (Nat.le_of_ble_eq_true rfl) d_Mod_made_175 (fun α80 H locs e81 h hI => ?_)
                      refine lv_aload_n hx hb d_Mod_made_178 rfl (lv_at hl 3 rfl) ?_
                      refine mf_minors S E hI vt_1342 d_Mod_made_179 ?_
                      refine lv_iload hx hb d_Mod_made_182 (lv_at hl 0 rfl) ?_
                      refine lv_aload_n hx hb d_Mod_made_184 rfl (lv_at hl 3 rfl) ?_
                      refine mf_one S E hI vt_1280 d_Mod_made_185 ?_
                      refine lv_aload_n hx hb d_Mod_made_188 rfl (lv_at hl 3 rfl) ?_
                      refine lv_aload_n hx hb d_Mod_made_189 rfl (lv_at hl 3 rfl) ?_
                      refine lv_iload_n hx hb d_Mod_made_190 rfl (lv_at hl 4 rfl) ?_
                      refine lv_iload hx hb d_Mod_made_191 (lv_at hl 0 rfl) ?_
                      refine lv_iload_n hx hb d_Mod_made_193 rfl (lv_at hl 5 rfl) ?_
                      refine lv_iload hx hb d_Mod_made_194 (lv_at hl 6 rfl) ?_
                      refine lv_iload hx hb d_Mod_made_196 (lv_at hl 1 rfl) ?_
                      refine mg_cI (As := [.int x1_160, .int x10_160, .int x3_160, .int x4_160, .int x9_160]) (rest := [.ref (mad g 0), .ref (mad g 4), .int x10_160, .ref (mad g 43)]) h (k_Mod_minor (l := l) (g := g) (α := α80) N x1_160 x10_160 x3_160 x4_160 x9_160) S hlocks hno E hI kw_Mod_561 ⟨Nat.le_of_ble_eq_true rfl, Nat.le_of_ble_eq_true rfl⟩ (mv_Mod E hI) rfl hl.1 rfl (Nat.le_of_ble_eq_true rfl) d_Mod_made_198 (fun v84 α82 H locs e83 h hI => ?_)
                      refine mg_cI (As := [.int v84]) (rest := [.ref (mad g 4), .int x10_160, .ref (mad g 43)]) h (k_Mod_fresh (l := l) (g := g) (α := α82) N v84) S hlocks hno E hI kw_Mod_468 ⟨Nat.le_of_ble_eq_true rfl, Nat.le_of_ble_eq_true rfl⟩ (mv_Mod E hI) rfl hl.1 rfl (Nat.le_of_ble_eq_true rfl) d_Mod_made_201 (fun v87 α85 H locs e86 h hI => ?_)
                      by_cases c88 : v87 < 0 ∨ 400000 ≤ (v87 : Int32).toNatClampNeg
                      · replace h := Eq.trans (if_pos c88).symm h
                        cases h
                      · replace h := Eq.trans (if_neg c88).symm h
                        refine ml_one S E hI c88 d_Mod_made_204 ?_
                        by_cases c89 : x10_160 < 0 ∨ 301 ≤ (x10_160 : Int32).toNatClampNeg
                        · replace h := Eq.trans (if_pos c89).symm h
                          cases h
                        · replace h := Eq.trans (if_neg c89).symm h
                          refine ms_minors S E hI c89 d_Mod_made_205 (fun H locs hI => ?_)
                          refine lv_iinc (v := (x10_160 + 1)) (lv' := [(10, .int (x10_160 + 1)), (9, .int x9_160), (8, .int x8_160), (0, .ref (mad g 0)), (1, .int x1_160), (3, .int x3_160), (4, .int x4_160), (5, .int x5_160), (6, .int x6_160)]) hx hb d_Mod_made_206 hl (k := 0) rfl rfl (by decide) rfl (fun ls hl => ?_)
                          refine lv_goto (tgt := 160) hx hb d_Mod_made_209 (by decide) ?_
                          exact ih160 (x10_160 + 1) x9_160 x8_160 x1_160 x3_160 x4_160 x5_160 x6_160 _ _ _ _ h hI (lv_sub hl [0, 1, 2, 3, 4, 5, 6, 7, 8] rfl)
              exact L160 N 0 v20 x8_92 x1_92 x3_92 x4_92 x5_92 x6_92 _ _ _ _ h hI (lv_sub hl [0, 1, 2, 3, 4, 5, 6, 7, 8] rfl)
            · replace h := Eq.trans (if_neg c8).symm h
              refine lv_aload_n hx hb d_Mod_made_99 rfl (lv_at hl 2 rfl) ?_
              refine mf_list S E hI vt_1340 d_Mod_made_100 ?_
              refine lv_aload_n hx hb d_Mod_made_103 rfl (lv_at hl 2 rfl) ?_
              refine lv_dup hx hb d_Mod_made_104 rfl ?_
              refine mf_listed S E hI vt_1341 d_Mod_made_105 ?_
              refine lv_dup_x1 hx hb d_Mod_made_108 rfl rfl ?_
              refine lv_iconst (v := 1) hx hb d_Mod_made_109 (by decide) ?_
              refine lv_iadd hx hb d_Mod_made_110 ?_
              refine mp_listed S E hI vt_1341 d_Mod_made_111 (fun H locs hI => ?_)
              refine lv_aload_n hx hb d_Mod_made_114 rfl (lv_at hl 2 rfl) ?_
              refine mf_are S E hI vt_1331 d_Mod_made_115 ?_
              refine lv_iload_n hx hb d_Mod_made_118 rfl (lv_at hl 4 rfl) ?_
              refine lv_iload hx hb d_Mod_made_119 (lv_at hl 0 rfl) ?_
              refine lv_iadd hx hb d_Mod_made_121 ?_
              by_cases c90 : (x3_92 + x9_92) < 0 ∨ 5000 ≤ ((x3_92 + x9_92) : Int32).toNatClampNeg
              · replace h := Eq.trans (if_pos c90).symm h
                cases h
              · replace h := Eq.trans (if_neg c90).symm h
                refine ml_are S E hI c90 d_Mod_made_122 ?_
                by_cases c91 : (β92.1 30) < 0 ∨ 9000 ≤ ((β92.1 30) : Int32).toNatClampNeg
                · replace h := Eq.trans (if_pos c91).symm h
                  cases h
                · replace h := Eq.trans (if_neg c91).symm h
                  refine ms_list S E hI c91 d_Mod_made_123 (fun H locs hI => ?_)
                  refine lv_iinc (v := (x9_92 + 1)) (lv' := [(9, .int (x9_92 + 1)), (8, .int x8_92), (0, .ref (mad g 0)), (1, .int x1_92), (3, .int x3_92), (4, .int x4_92), (5, .int x5_92), (6, .int x6_92)]) hx hb d_Mod_made_124 hl (k := 0) rfl rfl (by decide) rfl (fun ls hl => ?_)
                  refine lv_goto (tgt := 92) hx hb d_Mod_made_127 (by decide) ?_
                  exact ih92 (x9_92 + 1) x8_92 x1_92 x3_92 x4_92 x5_92 x6_92 _ _ _ _ h hI (lv_sub hl [0, 1, 2, 3, 4, 5, 6, 7] rfl)
        exact L92 N 0 v7 x1_6 x3_6 x4_6 x5_6 x6_6 _ _ _ _ h hI (lv_sub hl [0, 1, 3, 4, 5, 6, 7, 8] rfl)
      · replace h := Eq.trans (if_neg c1).symm h
        refine lv_aload_n hx hb d_Mod_made_13 rfl (lv_at hl 2 rfl) ?_
        refine mf_are S E hI vt_1331 d_Mod_made_14 ?_
        refine lv_iload_n hx hb d_Mod_made_17 rfl (lv_at hl 4 rfl) ?_
        refine lv_iload hx hb d_Mod_made_18 (lv_at hl 0 rfl) ?_
        refine lv_iadd hx hb d_Mod_made_20 ?_
        refine lv_aload_n hx hb d_Mod_made_21 rfl (lv_at hl 2 rfl) ?_
        refine mf_one S E hI vt_1280 d_Mod_made_22 ?_
        refine lv_aload_n hx hb d_Mod_made_25 rfl (lv_at hl 2 rfl) ?_
        refine lv_aload_n hx hb d_Mod_made_26 rfl (lv_at hl 2 rfl) ?_
        refine lv_aload_n hx hb d_Mod_made_27 rfl (lv_at hl 2 rfl) ?_
        refine mf_one S E hI vt_1280 d_Mod_made_28 ?_
        refine lv_iload hx hb d_Mod_made_31 (lv_at hl 1 rfl) ?_
        by_cases c92 : x7_6 < 0 ∨ 400000 ≤ (x7_6 : Int32).toNatClampNeg
        · replace h := Eq.trans (if_pos c92).symm h
          cases h
        · replace h := Eq.trans (if_neg c92).symm h
          refine ml_one S E hI c92 d_Mod_made_33 ?_
          refine lv_iload_n hx hb d_Mod_made_34 rfl (lv_at hl 4 rfl) ?_
          refine lv_iload hx hb d_Mod_made_35 (lv_at hl 0 rfl) ?_
          refine lv_iadd hx hb d_Mod_made_37 ?_
          refine lv_iload_n hx hb d_Mod_made_38 rfl (lv_at hl 4 rfl) ?_
          refine lv_iload hx hb d_Mod_made_39 (lv_at hl 0 rfl) ?_
          refine lv_iadd hx hb d_Mod_made_41 ?_
          refine mg_cI (As := [.int (β6.2 3 (x7_6 : Int32).toNatClampNeg), .int (x3_6 + x8_6), .int (x3_6 + x8_6)]) (rest := [.ref (mad g 0), .ref (mad g 4), .int (x3_6 + x8_6), .ref (mad g 34)]) h (k_Mod_whole (l := l) (g := g) (α := β6) N (β6.2 3 (x7_6 : Int32).toNatClampNeg) (x3_6 + x8_6) (x3_6 + x8_6)) S hlocks hno E hI kw_Mod_513 ⟨Nat.le_of_ble_eq_true rfl, Nat.le_of_ble_eq_true rfl⟩ (mv_Mod E hI) rfl hl.1 rfl (Nat.le_of_ble_eq_true rfl) d_Mod_made_42 (fun v95 α93 H locs e94 h hI => ?_)
          refine mg_cI (As := [.int v95]) (rest := [.ref (mad g 4), .int (x3_6 + x8_6), .ref (mad g 34)]) h (k_Mod_fresh (l := l) (g := g) (α := α93) N v95) S hlocks hno E hI kw_Mod_468 ⟨Nat.le_of_ble_eq_true rfl, Nat.le_of_ble_eq_true rfl⟩ (mv_Mod E hI) rfl hl.1 rfl (Nat.le_of_ble_eq_true rfl) d_Mod_made_45 (fun v98 α96 H locs e97 h hI => ?_)
          by_cases c99 : v98 < 0 ∨ 400000 ≤ (v98 : Int32).toNatClampNeg
          · replace h := Eq.trans (if_pos c99).symm h
            cases h
          · replace h := Eq.trans (if_neg c99).symm h
            refine ml_one S E hI c99 d_Mod_made_48 ?_
            by_cases c100 : (x3_6 + x8_6) < 0 ∨ 5000 ≤ ((x3_6 + x8_6) : Int32).toNatClampNeg
            · replace h := Eq.trans (if_pos c100).symm h
              cases h
            · replace h := Eq.trans (if_neg c100).symm h
              refine ms_are S E hI c100 d_Mod_made_49 (fun H locs hI => ?_)
              refine lv_aload_n hx hb d_Mod_made_50 rfl (lv_at hl 2 rfl) ?_
              refine mf_two S E hI vt_1281 d_Mod_made_51 ?_
              refine lv_iload hx hb d_Mod_made_54 (lv_at hl 1 rfl) ?_
              by_cases c101 : x7_6 < 0 ∨ 400000 ≤ (x7_6 : Int32).toNatClampNeg
              · replace h := Eq.trans (if_pos c101).symm h
                cases h
              · replace h := Eq.trans (if_neg c101).symm h
                refine ml_two S E hI c101 d_Mod_made_56 ?_
                refine lv_istore (lv' := [(7, .int ((mSA α96 33 (upd (α96.2 33) ((x3_6 + x8_6) : Int32).toNatClampNeg (α96.2 3 (v98 : Int32).toNatClampNeg))).2 4 (x7_6 : Int32).toNatClampNeg)), (8, .int x8_6), (0, .ref (mad g 0)), (1, .int x1_6), (3, .int x3_6), (4, .int x4_6), (5, .int x5_6), (6, .int x6_6)]) hx hb d_Mod_made_57 hl (by decide) rfl (fun ls hl => ?_)
                refine lv_iinc (v := (x8_6 + 1)) (lv' := [(8, .int (x8_6 + 1)), (7, .int ((mSA α96 33 (upd (α96.2 33) ((x3_6 + x8_6) : Int32).toNatClampNeg (α96.2 3 (v98 : Int32).toNatClampNeg))).2 4 (x7_6 : Int32).toNatClampNeg)), (0, .ref (mad g 0)), (1, .int x1_6), (3, .int x3_6), (4, .int x4_6), (5, .int x5_6), (6, .int x6_6)]) hx hb d_Mod_made_59 hl (k := 1) rfl rfl (by decide) rfl (fun ls hl => ?_)
                refine lv_goto (tgt := 6) hx hb d_Mod_made_62 (by decide) ?_
                exact ih6 (x8_6 + 1) ((mSA α96 33 (upd (α96.2 33) ((x3_6 + x8_6) : Int32).toNatClampNeg (α96.2 3 (v98 : Int32).toNatClampNeg))).2 4 (x7_6 : Int32).toNatClampNeg) x1_6 x3_6 x4_6 x5_6 x6_6 _ _ _ _ h hI (lv_sub hl [0, 1, 2, 3, 4, 5, 6, 7] rfl)
  exact L6 N 0 a2 a1 a3 a4 a5 a6 _ _ _ _ h hI (lv_sub hl [0, 1, 2, 3, 5, 6, 7, 8] rfl)
theorem kw_Mod_544 : kWv "FamilyKernelModel" 544 "FamilyKernelModel" y_Mod_made b_Mod_made 16 none 6 := ⟨vt_1656, vt_1657, vt_1658, vt_1349, vt_1659, by decide, by decide, by decide +kernel⟩
theorem kw_Mod_541 : kWv "FamilyKernelModel" 541 "FamilyKernelModel" y_Mod_small b_Mod_small 8 (some .boolean) 2 := ⟨vt_1652, vt_1653, vt_1654, vt_1349, vt_1655, by decide, by decide, by decide +kernel⟩
theorem kw_Mod_537 : kWv "FamilyKernelModel" 537 "FamilyKernelModel" y_Mod_constructor b_Mod_constructor 13 none 6 := ⟨vt_1648, vt_1649, vt_1650, vt_1349, vt_1651, by decide, by decide, by decide +kernel⟩
def f_Mod_inductive_j463 (N : Nat)  (y9 : Int32) (y8 : Int32) (y5 : Int32) (y3 : Int32) (y2 : Int32) (y1 : Int32) (t0 : Int32) (t1 : Int32) (γ : mS) : Option (kO × mS) := if t1 < 0 ∨ 301 ≤ (t1 : Int32).toNatClampNeg then none else (mBv (f_Mod_made N y1 y3 y2 y8 y5 y9 (mSA γ 24 (upd (γ.2 24) (t1 : Int32).toNatClampNeg (vp_nar .boolean t0)))) fun α57 => (some (some none, α57)))
def f_Mod_inductive_j458 (N : Nat)  (y9 : Int32) (y8 : Int32) (y5 : Int32) (y3 : Int32) (y2 : Int32) (y1 : Int32) (t0 : Int32) (γ : mS) : Option (kO × mS) := f_Mod_inductive_j463 N y9 y8 y5 y3 y2 y1 1 t0 γ
def f_Mod_inductive_j462 (N : Nat)  (y9 : Int32) (y8 : Int32) (y5 : Int32) (y3 : Int32) (y2 : Int32) (y1 : Int32) (t0 : Int32) (γ : mS) : Option (kO × mS) := f_Mod_inductive_j463 N y9 y8 y5 y3 y2 y1 0 t0 γ
def f_Mod_inductive_384 (N : Nat)  : Nat → Int32 → Int32 → Int32 → Int32 → Int32 → Int32 → Int32 → Int32 → mS → Option (kO × mS)
  | 0, _, _, _, _, _, _, _, _, _ => none
  | n + 1, x10_384, x9_384, x8_384, x7_384, x5_384, x3_384, x2_384, x1_384, β384 => if x5_384 ≤ x10_384 then (if x7_384 < 0 ∨ 400000 ≤ (x7_384 : Int32).toNatClampNeg then none else (if (β384.2 3 (x7_384 : Int32).toNatClampNeg) = 0 then (if x5_384 = 0 then (f_Mod_inductive_j458 N x9_384 x8_384 x5_384 x3_384 x2_384 x1_384 x1_384 β384) else (if x5_384 = 1 then (((f_Mod_small N (x1_384 + 1) x8_384 β384)).bind fun v61 => (if v61 = 0 then (f_Mod_inductive_j462 N x9_384 x8_384 x5_384 x3_384 x2_384 x1_384 x1_384 β384) else (f_Mod_inductive_j458 N x9_384 x8_384 x5_384 x3_384 x2_384 x1_384 x1_384 β384))) else (f_Mod_inductive_j462 N x9_384 x8_384 x5_384 x3_384 x2_384 x1_384 x1_384 β384))) else (f_Mod_inductive_j458 N x9_384 x8_384 x5_384 x3_384 x2_384 x1_384 x1_384 β384))) else (if x7_384 < 0 ∨ 400000 ≤ (x7_384 : Int32).toNatClampNeg then none else (mBv (f_Mod_constructor N x1_384 ((x1_384 + 1) + x10_384) x10_384 (β384.2 3 (x7_384 : Int32).toNatClampNeg) x2_384 x8_384 β384) fun α65 => (f_Mod_inductive_384 N n (x10_384 + 1) x9_384 x8_384 x7_384 x5_384 x3_384 x2_384 x1_384 α65)))
def f_Mod_inductive_333 (N : Nat)  : Nat → Int32 → Int32 → Int32 → Int32 → Int32 → Int32 → Int32 → Int32 → mS → Option (kO × mS)
  | 0, _, _, _, _, _, _, _, _, _ => none
  | n + 1, x10_333, x9_333, x8_333, x7_333, x5_333, x3_333, x2_333, x1_333, β333 => if x2_333 ≤ x10_333 then (f_Mod_inductive_384 N N 0 x9_333 x8_333 x7_333 x5_333 x3_333 x2_333 x1_333 (mSi β333 29 0)) else (if x10_333 < 0 ∨ 3400 ≤ (x10_333 : Int32).toNatClampNeg then none else (mBi (f_Mod_whole N (β333.2 27 (x10_333 : Int32).toNatClampNeg) x10_333 x10_333 β333) fun v70 α68 => (mBi (f_Mod_fresh N v70 α68) fun v73 α71 => (if v73 < 0 ∨ 400000 ≤ (v73 : Int32).toNatClampNeg then none else (if x10_333 < 0 ∨ 5000 ≤ (x10_333 : Int32).toNatClampNeg then none else (f_Mod_inductive_333 N n (x10_333 + 1) x9_333 x8_333 x7_333 x5_333 x3_333 x2_333 x1_333 (mSA α71 33 (upd (α71.2 33) (x10_333 : Int32).toNatClampNeg (α71.2 3 (v73 : Int32).toNatClampNeg)))))))))
def f_Mod_inductive_210 (N : Nat)  : Nat → Int32 → Int32 → Int32 → Int32 → Int32 → Int32 → Int32 → mS → Option (kO × mS)
  | 0, _, _, _, _, _, _, _, _ => none
  | n + 1, x8_210, x7_210, x5_210, x4_210, x3_210, x2_210, x1_210, β210 => if x7_210 < 0 ∨ 400000 ≤ (x7_210 : Int32).toNatClampNeg then none else (if (β210.2 2 (x7_210 : Int32).toNatClampNeg) = 6 then (if x7_210 < 0 ∨ 400000 ≤ (x7_210 : Int32).toNatClampNeg then none else (f_Mod_inductive_210 N n (x8_210 + 1) (β210.2 4 (x7_210 : Int32).toNatClampNeg) x5_210 x4_210 x3_210 x2_210 x1_210 β210)) else (if x7_210 < 0 ∨ 400000 ≤ (x7_210 : Int32).toNatClampNeg then none else (if (β210.2 2 (x7_210 : Int32).toNatClampNeg) = 0 then (mBi (f_Mod_whole N x4_210 0 0 β210) fun v40 α38 => (mBi ((G_check N dp_check).2.2.2 v40 0 α38) fun v43 α41 => (if x1_210 < 0 ∨ 301 ≤ (x1_210 : Int32).toNatClampNeg then none else (if x1_210 < 0 ∨ 301 ≤ (x1_210 : Int32).toNatClampNeg then none else (if x1_210 < 0 ∨ 301 ≤ (x1_210 : Int32).toNatClampNeg then none else (if x1_210 < 0 ∨ 301 ≤ (x1_210 : Int32).toNatClampNeg then none else (if x1_210 < 0 ∨ 301 ≤ (x1_210 : Int32).toNatClampNeg then none else (if x1_210 < 0 ∨ 301 ≤ (x1_210 : Int32).toNatClampNeg then none else (if x1_210 < 0 ∨ 301 ≤ (x1_210 : Int32).toNatClampNeg then none else (if x1_210 < 0 ∨ 301 ≤ (x1_210 : Int32).toNatClampNeg then none else (f_Mod_inductive_333 N N 0 v40 x8_210 x7_210 x5_210 x3_210 x2_210 x1_210 (mSA (mSA (mSA (mSA (mSA (mSA (mSA (mSA α41 12 (upd (α41.2 12) (x1_210 : Int32).toNatClampNeg 3)) 13 (upd ((mSA α41 12 (upd (α41.2 12) (x1_210 : Int32).toNatClampNeg 3)).2 13) (x1_210 : Int32).toNatClampNeg v40)) 15 (upd ((mSA (mSA α41 12 (upd (α41.2 12) (x1_210 : Int32).toNatClampNeg 3)) 13 (upd ((mSA α41 12 (upd (α41.2 12) (x1_210 : Int32).toNatClampNeg 3)).2 13) (x1_210 : Int32).toNatClampNeg v40)).2 15) (x1_210 : Int32).toNatClampNeg x2_210)) 16 (upd ((mSA (mSA (mSA α41 12 (upd (α41.2 12) (x1_210 : Int32).toNatClampNeg 3)) 13 (upd ((mSA α41 12 (upd (α41.2 12) (x1_210 : Int32).toNatClampNeg 3)).2 13) (x1_210 : Int32).toNatClampNeg v40)) 15 (upd ((mSA (mSA α41 12 (upd (α41.2 12) (x1_210 : Int32).toNatClampNeg 3)) 13 (upd ((mSA α41 12 (upd (α41.2 12) (x1_210 : Int32).toNatClampNeg 3)).2 13) (x1_210 : Int32).toNatClampNeg v40)).2 15) (x1_210 : Int32).toNatClampNeg x2_210)).2 16) (x1_210 : Int32).toNatClampNeg x8_210)) 17 (upd ((mSA (mSA (mSA (mSA α41 12 (upd (α41.2 12) (x1_210 : Int32).toNatClampNeg 3)) 13 (upd ((mSA α41 12 (upd (α41.2 12) (x1_210 : Int32).toNatClampNeg 3)).2 13) (x1_210 : Int32).toNatClampNeg v40)) 15 (upd ((mSA (mSA α41 12 (upd (α41.2 12) (x1_210 : Int32).toNatClampNeg 3)) 13 (upd ((mSA α41 12 (upd (α41.2 12) (x1_210 : Int32).toNatClampNeg 3)).2 13) (x1_210 : Int32).toNatClampNeg v40)).2 15) (x1_210 : Int32).toNatClampNeg x2_210)) 16 (upd ((mSA (mSA (mSA α41 12 (upd (α41.2 12) (x1_210 : Int32).toNatClampNeg 3)) 13 (upd ((mSA α41 12 (upd (α41.2 12) (x1_210 : Int32).toNatClampNeg 3)).2 13) (x1_210 : Int32).toNatClampNeg v40)) 15 (upd ((mSA (mSA α41 12 (upd (α41.2 12) (x1_210 : Int32).toNatClampNeg 3)) 13 (upd ((mSA α41 12 (upd (α41.2 12) (x1_210 : Int32).toNatClampNeg 3)).2 13) (x1_210 : Int32).toNatClampNeg v40)).2 15) (x1_210 : Int32).toNatClampNeg x2_210)).2 16) (x1_210 : Int32).toNatClampNeg x8_210)).2 17) (x1_210 : Int32).toNatClampNeg x5_210)) 18 (upd ((mSA (mSA (mSA (mSA (mSA α41 12 (upd (α41.2 12) (x1_210 : Int32).toNatClampNeg 3)) 13 (upd ((mSA α41 12 (upd (α41.2 12) (x1_210 : Int32).toNatClampNeg 3)).2 13) (x1_210 : Int32).toNatClampNeg v40)) 15 (upd ((mSA (mSA α41 12 (upd (α41.2 12) (x1_210 : Int32).toNatClampNeg 3)) 13 (upd ((mSA α41 12 (upd (α41.2 12) (x1_210 : Int32).toNatClampNeg 3)).2 13) (x1_210 : Int32).toNatClampNeg v40)).2 15) (x1_210 : Int32).toNatClampNeg x2_210)) 16 (upd ((mSA (mSA (mSA α41 12 (upd (α41.2 12) (x1_210 : Int32).toNatClampNeg 3)) 13 (upd ((mSA α41 12 (upd (α41.2 12) (x1_210 : Int32).toNatClampNeg 3)).2 13) (x1_210 : Int32).toNatClampNeg v40)) 15 (upd ((mSA (mSA α41 12 (upd (α41.2 12) (x1_210 : Int32).toNatClampNeg 3)) 13 (upd ((mSA α41 12 (upd (α41.2 12) (x1_210 : Int32).toNatClampNeg 3)).2 13) (x1_210 : Int32).toNatClampNeg v40)).2 15) (x1_210 : Int32).toNatClampNeg x2_210)).2 16) (x1_210 : Int32).toNatClampNeg x8_210)) 17 (upd ((mSA (mSA (mSA (mSA α41 12 (upd (α41.2 12) (x1_210 : Int32).toNatClampNeg 3)) 13 (upd ((mSA α41 12 (upd (α41.2 12) (x1_210 : Int32).toNatClampNeg 3)).2 13) (x1_210 : Int32).toNatClampNeg v40)) 15 (upd ((mSA (mSA α41 12 (upd (α41.2 12) (x1_210 : Int32).toNatClampNeg 3)) 13 (upd ((mSA α41 12 (upd (α41.2 12) (x1_210 : Int32).toNatClampNeg 3)).2 13) (x1_210 : Int32).toNatClampNeg v40)).2 15) (x1_210 : Int32).toNatClampNeg x2_210)) 16 (upd ((mSA (mSA (mSA α41 12 (upd (α41.2 12) (x1_210 : Int32).toNatClampNeg 3)) 13 (upd ((mSA α41 12 (upd (α41.2 12) (x1_210 : Int32).toNatClampNeg 3)).2 13) (x1_210 : Int32).toNatClampNeg v40)) 15 (upd ((mSA (mSA α41 12 (upd (α41.2 12) (x1_210 : Int32).toNatClampNeg 3)) 13 (upd ((mSA α41 12 (upd (α41.2 12) (x1_210 : Int32).toNatClampNeg 3)).2 13) (x1_210 : Int32).toNatClampNeg v40)).2 15) (x1_210 : Int32).toNatClampNeg x2_210)).2 16) (x1_210 : Int32).toNatClampNeg x8_210)).2 17) (x1_210 : Int32).toNatClampNeg x5_210)).2 18) (x1_210 : Int32).toNatClampNeg 0)) 19 (upd ((mSA (mSA (mSA (mSA (mSA (mSA α41 12 (upd (α41.2 12) (x1_210 : Int32).toNatClampNeg 3)) 13 (upd ((mSA α41 12 (upd (α41.2 12) (x1_210 : Int32).toNatClampNeg 3)).2 13) (x1_210 : Int32).toNatClampNeg v40)) 15 (upd ((mSA (mSA α41 12 (upd (α41.2 12) (x1_210 : Int32).toNatClampNeg 3)) 13 (upd ((mSA α41 12 (upd (α41.2 12) (x1_210 : Int32).toNatClampNeg 3)).2 13) (x1_210 : Int32).toNatClampNeg v40)).2 15) (x1_210 : Int32).toNatClampNeg x2_210)) 16 (upd ((mSA (mSA (mSA α41 12 (upd (α41.2 12) (x1_210 : Int32).toNatClampNeg 3)) 13 (upd ((mSA α41 12 (upd (α41.2 12) (x1_210 : Int32).toNatClampNeg 3)).2 13) (x1_210 : Int32).toNatClampNeg v40)) 15 (upd ((mSA (mSA α41 12 (upd (α41.2 12) (x1_210 : Int32).toNatClampNeg 3)) 13 (upd ((mSA α41 12 (upd (α41.2 12) (x1_210 : Int32).toNatClampNeg 3)).2 13) (x1_210 : Int32).toNatClampNeg v40)).2 15) (x1_210 : Int32).toNatClampNeg x2_210)).2 16) (x1_210 : Int32).toNatClampNeg x8_210)) 17 (upd ((mSA (mSA (mSA (mSA α41 12 (upd (α41.2 12) (x1_210 : Int32).toNatClampNeg 3)) 13 (upd ((mSA α41 12 (upd (α41.2 12) (x1_210 : Int32).toNatClampNeg 3)).2 13) (x1_210 : Int32).toNatClampNeg v40)) 15 (upd ((mSA (mSA α41 12 (upd (α41.2 12) (x1_210 : Int32).toNatClampNeg 3)) 13 (upd ((mSA α41 12 (upd (α41.2 12) (x1_210 : Int32).toNatClampNeg 3)).2 13) (x1_210 : Int32).toNatClampNeg v40)).2 15) (x1_210 : Int32).toNatClampNeg x2_210)) 16 (upd ((mSA (mSA (mSA α41 12 (upd (α41.2 12) (x1_210 : Int32).toNatClampNeg 3)) 13 (upd ((mSA α41 12 (upd (α41.2 12) (x1_210 : Int32).toNatClampNeg 3)).2 13) (x1_210 : Int32).toNatClampNeg v40)) 15 (upd ((mSA (mSA α41 12 (upd (α41.2 12) (x1_210 : Int32).toNatClampNeg 3)) 13 (upd ((mSA α41 12 (upd (α41.2 12) (x1_210 : Int32).toNatClampNeg 3)).2 13) (x1_210 : Int32).toNatClampNeg v40)).2 15) (x1_210 : Int32).toNatClampNeg x2_210)).2 16) (x1_210 : Int32).toNatClampNeg x8_210)).2 17) (x1_210 : Int32).toNatClampNeg x5_210)) 18 (upd ((mSA (mSA (mSA (mSA (mSA α41 12 (upd (α41.2 12) (x1_210 : Int32).toNatClampNeg 3)) 13 (upd ((mSA α41 12 (upd (α41.2 12) (x1_210 : Int32).toNatClampNeg 3)).2 13) (x1_210 : Int32).toNatClampNeg v40)) 15 (upd ((mSA (mSA α41 12 (upd (α41.2 12) (x1_210 : Int32).toNatClampNeg 3)) 13 (upd ((mSA α41 12 (upd (α41.2 12) (x1_210 : Int32).toNatClampNeg 3)).2 13) (x1_210 : Int32).toNatClampNeg v40)).2 15) (x1_210 : Int32).toNatClampNeg x2_210)) 16 (upd ((mSA (mSA (mSA α41 12 (upd (α41.2 12) (x1_210 : Int32).toNatClampNeg 3)) 13 (upd ((mSA α41 12 (upd (α41.2 12) (x1_210 : Int32).toNatClampNeg 3)).2 13) (x1_210 : Int32).toNatClampNeg v40)) 15 (upd ((mSA (mSA α41 12 (upd (α41.2 12) (x1_210 : Int32).toNatClampNeg 3)) 13 (upd ((mSA α41 12 (upd (α41.2 12) (x1_210 : Int32).toNatClampNeg 3)).2 13) (x1_210 : Int32).toNatClampNeg v40)).2 15) (x1_210 : Int32).toNatClampNeg x2_210)).2 16) (x1_210 : Int32).toNatClampNeg x8_210)) 17 (upd ((mSA (mSA (mSA (mSA α41 12 (upd (α41.2 12) (x1_210 : Int32).toNatClampNeg 3)) 13 (upd ((mSA α41 12 (upd (α41.2 12) (x1_210 : Int32).toNatClampNeg 3)).2 13) (x1_210 : Int32).toNatClampNeg v40)) 15 (upd ((mSA (mSA α41 12 (upd (α41.2 12) (x1_210 : Int32).toNatClampNeg 3)) 13 (upd ((mSA α41 12 (upd (α41.2 12) (x1_210 : Int32).toNatClampNeg 3)).2 13) (x1_210 : Int32).toNatClampNeg v40)).2 15) (x1_210 : Int32).toNatClampNeg x2_210)) 16 (upd ((mSA (mSA (mSA α41 12 (upd (α41.2 12) (x1_210 : Int32).toNatClampNeg 3)) 13 (upd ((mSA α41 12 (upd (α41.2 12) (x1_210 : Int32).toNatClampNeg 3)).2 13) (x1_210 : Int32).toNatClampNeg v40)) 15 (upd ((mSA (mSA α41 12 (upd (α41.2 12) (x1_210 : Int32).toNatClampNeg 3)) 13 (upd ((mSA α41 12 (upd (α41.2 12) (x1_210 : Int32).toNatClampNeg 3)).2 13) (x1_210 : Int32).toNatClampNeg v40)).2 15) (x1_210 : Int32).toNatClampNeg x2_210)).2 16) (x1_210 : Int32).toNatClampNeg x8_210)).2 17) (x1_210 : Int32).toNatClampNeg x5_210)).2 18) (x1_210 : Int32).toNatClampNeg 0)).2 19) (x1_210 : Int32).toNatClampNeg 0)) 14 (upd ((mSA (mSA (mSA (mSA (mSA (mSA (mSA α41 12 (upd (α41.2 12) (x1_210 : Int32).toNatClampNeg 3)) 13 (upd ((mSA α41 12 (upd (α41.2 12) (x1_210 : Int32).toNatClampNeg 3)).2 13) (x1_210 : Int32).toNatClampNeg v40)) 15 (upd ((mSA (mSA α41 12 (upd (α41.2 12) (x1_210 : Int32).toNatClampNeg 3)) 13 (upd ((mSA α41 12 (upd (α41.2 12) (x1_210 : Int32).toNatClampNeg 3)).2 13) (x1_210 : Int32).toNatClampNeg v40)).2 15) (x1_210 : Int32).toNatClampNeg x2_210)) 16 (upd ((mSA (mSA (mSA α41 12 (upd (α41.2 12) (x1_210 : Int32).toNatClampNeg 3)) 13 (upd ((mSA α41 12 (upd (α41.2 12) (x1_210 : Int32).toNatClampNeg 3)).2 13) (x1_210 : Int32).toNatClampNeg v40)) 15 (upd ((mSA (mSA α41 12 (upd (α41.2 12) (x1_210 : Int32).toNatClampNeg 3)) 13 (upd ((mSA α41 12 (upd (α41.2 12) (x1_210 : Int32).toNatClampNeg 3)).2 13) (x1_210 : Int32).toNatClampNeg v40)).2 15) (x1_210 : Int32).toNatClampNeg x2_210)).2 16) (x1_210 : Int32).toNatClampNeg x8_210)) 17 (upd ((mSA (mSA (mSA (mSA α41 12 (upd (α41.2 12) (x1_210 : Int32).toNatClampNeg 3)) 13 (upd ((mSA α41 12 (upd (α41.2 12) (x1_210 : Int32).toNatClampNeg 3)).2 13) (x1_210 : Int32).toNatClampNeg v40)) 15 (upd ((mSA (mSA α41 12 (upd (α41.2 12) (x1_210 : Int32).toNatClampNeg 3)) 13 (upd ((mSA α41 12 (upd (α41.2 12) (x1_210 : Int32).toNatClampNeg 3)).2 13) (x1_210 : Int32).toNatClampNeg v40)).2 15) (x1_210 : Int32).toNatClampNeg x2_210)) 16 (upd ((mSA (mSA (mSA α41 12 (upd (α41.2 12) (x1_210 : Int32).toNatClampNeg 3)) 13 (upd ((mSA α41 12 (upd (α41.2 12) (x1_210 : Int32).toNatClampNeg 3)).2 13) (x1_210 : Int32).toNatClampNeg v40)) 15 (upd ((mSA (mSA α41 12 (upd (α41.2 12) (x1_210 : Int32).toNatClampNeg 3)) 13 (upd ((mSA α41 12 (upd (α41.2 12) (x1_210 : Int32).toNatClampNeg 3)).2 13) (x1_210 : Int32).toNatClampNeg v40)).2 15) (x1_210 : Int32).toNatClampNeg x2_210)).2 16) (x1_210 : Int32).toNatClampNeg x8_210)).2 17) (x1_210 : Int32).toNatClampNeg x5_210)) 18 (upd ((mSA (mSA (mSA (mSA (mSA α41 12 (upd (α41.2 12) (x1_210 : Int32).toNatClampNeg 3)) 13 (upd ((mSA α41 12 (upd (α41.2 12) (x1_210 : Int32).toNatClampNeg 3)).2 13) (x1_210 : Int32).toNatClampNeg v40)) 15 (upd ((mSA (mSA α41 12 (upd (α41.2 12) (x1_210 : Int32).toNatClampNeg 3)) 13 (upd ((mSA α41 12 (upd (α41.2 12) (x1_210 : Int32).toNatClampNeg 3)).2 13) (x1_210 : Int32).toNatClampNeg v40)).2 15) (x1_210 : Int32).toNatClampNeg x2_210)) 16 (upd ((mSA (mSA (mSA α41 12 (upd (α41.2 12) (x1_210 : Int32).toNatClampNeg 3)) 13 (upd ((mSA α41 12 (upd (α41.2 12) (x1_210 : Int32).toNatClampNeg 3)).2 13) (x1_210 : Int32).toNatClampNeg v40)) 15 (upd ((mSA (mSA α41 12 (upd (α41.2 12) (x1_210 : Int32).toNatClampNeg 3)) 13 (upd ((mSA α41 12 (upd (α41.2 12) (x1_210 : Int32).toNatClampNeg 3)).2 13) (x1_210 : Int32).toNatClampNeg v40)).2 15) (x1_210 : Int32).toNatClampNeg x2_210)).2 16) (x1_210 : Int32).toNatClampNeg x8_210)) 17 (upd ((mSA (mSA (mSA (mSA α41 12 (upd (α41.2 12) (x1_210 : Int32).toNatClampNeg 3)) 13 (upd ((mSA α41 12 (upd (α41.2 12) (x1_210 : Int32).toNatClampNeg 3)).2 13) (x1_210 : Int32).toNatClampNeg v40)) 15 (upd ((mSA (mSA α41 12 (upd (α41.2 12) (x1_210 : Int32).toNatClampNeg 3)) 13 (upd ((mSA α41 12 (upd (α41.2 12) (x1_210 : Int32).toNatClampNeg 3)).2 13) (x1_210 : Int32).toNatClampNeg v40)).2 15) (x1_210 : Int32).toNatClampNeg x2_210)) 16 (upd ((mSA (mSA (mSA α41 12 (upd (α41.2 12) (x1_210 : Int32).toNatClampNeg 3)) 13 (upd ((mSA α41 12 (upd (α41.2 12) (x1_210 : Int32).toNatClampNeg 3)).2 13) (x1_210 : Int32).toNatClampNeg v40)) 15 (upd ((mSA (mSA α41 12 (upd (α41.2 12) (x1_210 : Int32).toNatClampNeg 3)) 13 (upd ((mSA α41 12 (upd (α41.2 12) (x1_210 : Int32).toNatClampNeg 3)).2 13) (x1_210 : Int32).toNatClampNeg v40)).2 15) (x1_210 : Int32).toNatClampNeg x2_210)).2 16) (x1_210 : Int32).toNatClampNeg x8_210)).2 17) (x1_210 : Int32).toNatClampNeg x5_210)).2 18) (x1_210 : Int32).toNatClampNeg 0)) 19 (upd ((mSA (mSA (mSA (mSA (mSA (mSA α41 12 (upd (α41.2 12) (x1_210 : Int32).toNatClampNeg 3)) 13 (upd ((mSA α41 12 (upd (α41.2 12) (x1_210 : Int32).toNatClampNeg 3)).2 13) (x1_210 : Int32).toNatClampNeg v40)) 15 (upd ((mSA (mSA α41 12 (upd (α41.2 12) (x1_210 : Int32).toNatClampNeg 3)) 13 (upd ((mSA α41 12 (upd (α41.2 12) (x1_210 : Int32).toNatClampNeg 3)).2 13) (x1_210 : Int32).toNatClampNeg v40)).2 15) (x1_210 : Int32).toNatClampNeg x2_210)) 16 (upd ((mSA (mSA (mSA α41 12 (upd (α41.2 12) (x1_210 : Int32).toNatClampNeg 3)) 13 (upd ((mSA α41 12 (upd (α41.2 12) (x1_210 : Int32).toNatClampNeg 3)).2 13) (x1_210 : Int32).toNatClampNeg v40)) 15 (upd ((mSA (mSA α41 12 (upd (α41.2 12) (x1_210 : Int32).toNatClampNeg 3)) 13 (upd ((mSA α41 12 (upd (α41.2 12) (x1_210 : Int32).toNatClampNeg 3)).2 13) (x1_210 : Int32).toNatClampNeg v40)).2 15) (x1_210 : Int32).toNatClampNeg x2_210)).2 16) (x1_210 : Int32).toNatClampNeg x8_210)) 17 (upd ((mSA (mSA (mSA (mSA α41 12 (upd (α41.2 12) (x1_210 : Int32).toNatClampNeg 3)) 13 (upd ((mSA α41 12 (upd (α41.2 12) (x1_210 : Int32).toNatClampNeg 3)).2 13) (x1_210 : Int32).toNatClampNeg v40)) 15 (upd ((mSA (mSA α41 12 (upd (α41.2 12) (x1_210 : Int32).toNatClampNeg 3)) 13 (upd ((mSA α41 12 (upd (α41.2 12) (x1_210 : Int32).toNatClampNeg 3)).2 13) (x1_210 : Int32).toNatClampNeg v40)).2 15) (x1_210 : Int32).toNatClampNeg x2_210)) 16 (upd ((mSA (mSA (mSA α41 12 (upd (α41.2 12) (x1_210 : Int32).toNatClampNeg 3)) 13 (upd ((mSA α41 12 (upd (α41.2 12) (x1_210 : Int32).toNatClampNeg 3)).2 13) (x1_210 : Int32).toNatClampNeg v40)) 15 (upd ((mSA (mSA α41 12 (upd (α41.2 12) (x1_210 : Int32).toNatClampNeg 3)) 13 (upd ((mSA α41 12 (upd (α41.2 12) (x1_210 : Int32).toNatClampNeg 3)).2 13) (x1_210 : Int32).toNatClampNeg v40)).2 15) (x1_210 : Int32).toNatClampNeg x2_210)).2 16) (x1_210 : Int32).toNatClampNeg x8_210)).2 17) (x1_210 : Int32).toNatClampNeg x5_210)) 18 (upd ((mSA (mSA (mSA (mSA (mSA α41 12 (upd (α41.2 12) (x1_210 : Int32).toNatClampNeg 3)) 13 (upd ((mSA α41 12 (upd (α41.2 12) (x1_210 : Int32).toNatClampNeg 3)).2 13) (x1_210 : Int32).toNatClampNeg v40)) 15 (upd ((mSA (mSA α41 12 (upd (α41.2 12) (x1_210 : Int32).toNatClampNeg 3)) 13 (upd ((mSA α41 12 (upd (α41.2 12) (x1_210 : Int32).toNatClampNeg 3)).2 13) (x1_210 : Int32).toNatClampNeg v40)).2 15) (x1_210 : Int32).toNatClampNeg x2_210)) 16 (upd ((mSA (mSA (mSA α41 12 (upd (α41.2 12) (x1_210 : Int32).toNatClampNeg 3)) 13 (upd ((mSA α41 12 (upd (α41.2 12) (x1_210 : Int32).toNatClampNeg 3)).2 13) (x1_210 : Int32).toNatClampNeg v40)) 15 (upd ((mSA (mSA α41 12 (upd (α41.2 12) (x1_210 : Int32).toNatClampNeg 3)) 13 (upd ((mSA α41 12 (upd (α41.2 12) (x1_210 : Int32).toNatClampNeg 3)).2 13) (x1_210 : Int32).toNatClampNeg v40)).2 15) (x1_210 : Int32).toNatClampNeg x2_210)).2 16) (x1_210 : Int32).toNatClampNeg x8_210)) 17 (upd ((mSA (mSA (mSA (mSA α41 12 (upd (α41.2 12) (x1_210 : Int32).toNatClampNeg 3)) 13 (upd ((mSA α41 12 (upd (α41.2 12) (x1_210 : Int32).toNatClampNeg 3)).2 13) (x1_210 : Int32).toNatClampNeg v40)) 15 (upd ((mSA (mSA α41 12 (upd (α41.2 12) (x1_210 : Int32).toNatClampNeg 3)) 13 (upd ((mSA α41 12 (upd (α41.2 12) (x1_210 : Int32).toNatClampNeg 3)).2 13) (x1_210 : Int32).toNatClampNeg v40)).2 15) (x1_210 : Int32).toNatClampNeg x2_210)) 16 (upd ((mSA (mSA (mSA α41 12 (upd (α41.2 12) (x1_210 : Int32).toNatClampNeg 3)) 13 (upd ((mSA α41 12 (upd (α41.2 12) (x1_210 : Int32).toNatClampNeg 3)).2 13) (x1_210 : Int32).toNatClampNeg v40)) 15 (upd ((mSA (mSA α41 12 (upd (α41.2 12) (x1_210 : Int32).toNatClampNeg 3)) 13 (upd ((mSA α41 12 (upd (α41.2 12) (x1_210 : Int32).toNatClampNeg 3)).2 13) (x1_210 : Int32).toNatClampNeg v40)).2 15) (x1_210 : Int32).toNatClampNeg x2_210)).2 16) (x1_210 : Int32).toNatClampNeg x8_210)).2 17) (x1_210 : Int32).toNatClampNeg x5_210)).2 18) (x1_210 : Int32).toNatClampNeg 0)).2 19) (x1_210 : Int32).toNatClampNeg 0)).2 14) (x1_210 : Int32).toNatClampNeg (-1)))))))))))))) else (some (none, (mTh β210 8 (-1)))))))
def f_Mod_inductive_168 (N : Nat)  : Nat → Int32 → Int32 → Int32 → Int32 → Int32 → Int32 → Int32 → mS → Option (kO × mS)
  | 0, _, _, _, _, _, _, _, _ => none
  | n + 1, x7_168, x6_168, x5_168, x4_168, x3_168, x2_168, x1_168, β168 => if x5_168 ≤ x7_168 then (mBv (f_Mod_together N x6_168 β168) fun α32 => (f_Mod_inductive_210 N N 0 x3_168 x5_168 x4_168 x3_168 x2_168 x1_168 α32)) else (if x7_168 < 0 ∨ 301 ≤ (x7_168 : Int32).toNatClampNeg then none else (if (β168.2 34 (x7_168 : Int32).toNatClampNeg) < 0 ∨ 400000 ≤ ((β168.2 34 (x7_168 : Int32).toNatClampNeg) : Int32).toNatClampNeg then none else (f_Mod_inductive_168 N n (x7_168 + 1) (x6_168 + (β168.2 6 ((β168.2 34 (x7_168 : Int32).toNatClampNeg) : Int32).toNatClampNeg)) x5_168 x4_168 x3_168 x2_168 x1_168 β168)))
def f_Mod_inductive_93 (N : Nat)  : Nat → Int32 → Int32 → Int32 → Int32 → Int32 → mS → Option (kO × mS)
  | 0, _, _, _, _, _, _ => none
  | n + 1, x5_93, x4_93, x3_93, x2_93, x1_93, β93 => mBi (f_Mod_peek N β93) fun v24 α22 => (if v24 = 124 then (mBv (f_Mod_take N α22) fun α79 => (mBv (f_Mod_newName N α79) fun α81 => (mBv (f_Mod_must N 58 (mSi α81 16 ((α81.1 16) + 1))) fun α83 => (mBi ((G_applied N dp_applied).2.2.2.2.2 0 α83) fun v87 α85 => (if x5_93 < 0 ∨ 301 ≤ (x5_93 : Int32).toNatClampNeg then none else (f_Mod_inductive_93 N n (x5_93 + 1) x4_93 x3_93 x2_93 x1_93 (mSA α85 34 (upd (α85.2 34) (x5_93 : Int32).toNatClampNeg v87)))))))) else (mBv (f_Mod_must N 125 α22) fun α26 => (mBv (f_Mod_must N 46 α26) fun α28 => (if x4_93 < 0 ∨ 400000 ≤ (x4_93 : Int32).toNatClampNeg then none else (f_Mod_inductive_168 N N 0 (α28.2 6 (x4_93 : Int32).toNatClampNeg) x5_93 x4_93 x3_93 x2_93 x1_93 α28)))))
def f_Mod_inductive_j31 (N : Nat)  (y1 : Int32) (t0 : Int32) (γ : mS) : Option (kO × mS) := mBv (f_Mod_must N 58 γ) fun α9 => (mBi ((G_applied N dp_applied).2.2.2.2.2 0 α9) fun v13 α11 => (mBv (f_Mod_must N 300 α11) fun α14 => (mBv (f_Mod_must N 123 α14) fun α16 => (mBi (f_Mod_telescope N t0 v13 α16) fun v20 α18 => (if y1 < 0 ∨ 301 ≤ (y1 : Int32).toNatClampNeg then none else (f_Mod_inductive_93 N N 0 v20 v13 t0 y1 (mSi (mSi (mSA α18 12 (upd (α18.2 12) (y1 : Int32).toNatClampNeg (-1))) 16 ((α18.1 16) + 1)) 28 ((α18.1 16) + 1))))))))
def f_Mod_inductive (N : Nat)  (α : mS) : Option (kO × mS) := mBv (f_Mod_take N α) fun α1 => (mBv (f_Mod_newName N α1) fun α3 => (mBi (f_Mod_peek N α3) fun v7 α5 => (if v7 = 40 then (mBi ((G_applied N dp_applied).2.2.1 0 α5) fun v91 α89 => (f_Mod_inductive_j31 N (α3.1 16) v91 α89)) else (f_Mod_inductive_j31 N (α3.1 16) 0 α5))))
set_option maxHeartbeats 4000000 in
set_option maxRecDepth 100000 in
theorem k_Mod_inductive {l : Launch} {g : mG} {α : mS} (N : Nat)   : ∀ x, f_Mod_inductive N α = some x → mC l g y_Mod_inductive b_Mod_inductive 11 none (1794) (50633) [.ref (mad g 0)] α (mQr x) := by
  intro x h
  unfold f_Mod_inductive at h
  refine mc_ofW (by decide) (fun A p e s m args below meth c S hr hlocks hno hargs E hI => ?_)
  have hx := S.1
  have hb := S.2.1
  have hown := S.2.2.2.1
  have hT := S.2.2.2.2
  subst hargs
  have hl := lv_entry ([.ref (mad g 0)]) (n := 11) (Nat.le_of_ble_eq_true rfl)
  rw [lg_entry_eq]
  generalize (lg_sl ([.ref (mad g 0)]) ++ List.replicate (11 - (lg_sl ([.ref (mad g 0)])).length) Slot.unset).toArray = ls at hl ⊢
  have hl : lv_has ls 11 [(0, .ref (mad g 0))] := hl
  have J31 : ∀ (y1 : Int32) (t0 : Int32) (γ : mS) (H : Heap) (locs : List Loc) (ls : Array Slot), f_Mod_inductive_j31 N y1 t0 γ = some x → mI g A s γ H locs → lv_has ls 11 [(1, .int y1), (0, .ref (mad g 0))] → W p l e (mR (1794) (50633)) s m ([.ref (mad g 0)]).toArray below meth c H locs 0 0 (vEQ below (mQ g A (mQr x)) ([.ref (mad g 0)]).toArray s A) (F0 m 31 ls [.int t0]) := by
    intro y1 t0 γ H locs ls h hI hl
    unfold f_Mod_inductive_j31 at h
    refine lv_istore_n (lv' := [(2, .int t0), (1, .int y1), (0, .ref (mad g 0))]) hx hb d_Mod_inductive_31 rfl hl (by decide) rfl (fun ls hl => ?_)
    refine lv_aload_n hx hb d_Mod_inductive_32 rfl (lv_at hl 2 rfl) ?_
    refine lv_bipush (v := 58) hx hb d_Mod_inductive_33 (by decide) ?_
    refine mg_cV (As := [.int 58]) (rest := []) h (k_Mod_must (l := l) (g := g) (α := γ) N 58) S hlocks hno E hI kw_Mod_405 ⟨Nat.le_of_ble_eq_true rfl, Nat.le_of_ble_eq_true rfl⟩ (mv_Mod E hI) rfl hl.1 rfl (Nat.le_of_ble_eq_true rfl) d_Mod_inductive_35 (fun α9 H locs e10 h hI => ?_)
    refine lv_aload_n hx hb d_Mod_inductive_38 rfl (lv_at hl 2 rfl) ?_
    refine lv_iconst (v := 0) hx hb d_Mod_inductive_39 (by decide) ?_
    refine mg_cI (As := [.int 0]) (rest := []) h (((ok_applied (l := l) (g := g) N dp_applied).2.2.2.2.2) 0 α9) S hlocks hno E hI kw_Mod_399 ⟨Nat.le_of_ble_eq_true rfl, Nat.le_of_ble_eq_true rfl⟩ (mv_Mod E hI) rfl hl.1 rfl (Nat.le_of_ble_eq_true rfl) d_Mod_inductive_40 (fun v13 α11 H locs e12 h hI => ?_)
    refine lv_istore_n (lv' := [(3, .int v13), (2, .int t0), (1, .int y1), (0, .ref (mad g 0))]) hx hb d_Mod_inductive_43 rfl hl (by decide) rfl (fun ls hl => ?_)
    refine lv_aload_n hx hb d_Mod_inductive_44 rfl (lv_at hl 3 rfl) ?_
    refine lv_sipush (v := 300) hx hb d_Mod_inductive_45 (by decide) ?_
    refine mg_cV (As := [.int 300]) (rest := []) h (k_Mod_must (l := l) (g := g) (α := α11) N 300) S hlocks hno E hI kw_Mod_405 ⟨Nat.le_of_ble_eq_true rfl, Nat.le_of_ble_eq_true rfl⟩ (mv_Mod E hI) rfl hl.1 rfl (Nat.le_of_ble_eq_true rfl) d_Mod_inductive_48 (fun α14 H locs e15 h hI => ?_)
    refine lv_aload_n hx hb d_Mod_inductive_51 rfl (lv_at hl 3 rfl) ?_
    refine lv_bipush (v := 123) hx hb d_Mod_inductive_52 (by decide) ?_
    refine mg_cV (As := [.int 123]) (rest := []) h (k_Mod_must (l := l) (g := g) (α := α14) N 123) S hlocks hno E hI kw_Mod_405 ⟨Nat.le_of_ble_eq_true rfl, Nat.le_of_ble_eq_true rfl⟩ (mv_Mod E hI) rfl hl.1 rfl (Nat.le_of_ble_eq_true rfl) d_Mod_inductive_54 (fun α16 H locs e17 h hI => ?_)
    refine lv_aload_n hx hb d_Mod_inductive_57 rfl (lv_at hl 3 rfl) ?_
    refine lv_iload_n hx hb d_Mod_inductive_58 rfl (lv_at hl 1 rfl) ?_
    refine lv_iload_n hx hb d_Mod_inductive_59 rfl (lv_at hl 0 rfl) ?_
    refine mg_cI (As := [.int t0, .int v13]) (rest := []) h (k_Mod_telescope (l := l) (g := g) (α := α16) N t0 v13) S hlocks hno E hI kw_Mod_534 ⟨Nat.le_of_ble_eq_true rfl, Nat.le_of_ble_eq_true rfl⟩ (mv_Mod E hI) rfl hl.1 rfl (Nat.le_of_ble_eq_true rfl) d_Mod_inductive_60 (fun v20 α18 H locs e19 h hI => ?_)
    refine lv_istore (lv' := [(4, .int v20), (3, .int v13), (2, .int t0), (1, .int y1), (0, .ref (mad g 0))]) hx hb d_Mod_inductive_63 hl (by decide) rfl (fun ls hl => ?_)
    refine lv_aload_n hx hb d_Mod_inductive_65 rfl (lv_at hl 4 rfl) ?_
    refine mf_sortOf S E hI vt_1296 d_Mod_inductive_66 ?_
    refine lv_iload_n hx hb d_Mod_inductive_69 rfl (lv_at hl 3 rfl) ?_
    refine lv_iconst (v := (-1)) hx hb d_Mod_inductive_70 (by decide) ?_
    by_cases c21 : y1 < 0 ∨ 301 ≤ (y1 : Int32).toNatClampNeg
    · replace h := Eq.trans (if_pos c21).symm h
      cases h
    · replace h := Eq.trans (if_neg c21).symm h
      refine ms_sortOf S E hI c21 d_Mod_inductive_71 (fun H locs hI => ?_)
      refine lv_aload_n hx hb d_Mod_inductive_72 rfl (lv_at hl 4 rfl) ?_
      refine lv_dup hx hb d_Mod_inductive_73 rfl ?_
      refine mf_constants S E hI vt_1295 d_Mod_inductive_74 ?_
      refine lv_iconst (v := 1) hx hb d_Mod_inductive_77 (by decide) ?_
      refine lv_iadd hx hb d_Mod_inductive_78 ?_
      refine mp_constants S E hI vt_1295 d_Mod_inductive_79 (fun H locs hI => ?_)
      refine lv_aload_n hx hb d_Mod_inductive_82 rfl (lv_at hl 4 rfl) ?_
      refine lv_aload_n hx hb d_Mod_inductive_83 rfl (lv_at hl 4 rfl) ?_
      refine mf_constants S E hI vt_1295 d_Mod_inductive_84 ?_
      refine mp_known S E hI vt_1330 d_Mod_inductive_87 (fun H locs hI => ?_)
      refine lv_iconst (v := 0) hx hb d_Mod_inductive_90 (by decide) ?_
      refine lv_istore (lv' := [(5, .int 0), (4, .int v20), (3, .int v13), (2, .int t0), (1, .int y1), (0, .ref (mad g 0))]) hx hb d_Mod_inductive_91 hl (by decide) rfl (fun ls hl => ?_)
      have L93 : ∀ (n93 : Nat) (x5_93 : Int32) (x4_93 : Int32) (x3_93 : Int32) (x2_93 : Int32) (x1_93 : Int32) (β93 : mS) (H : Heap) (locs : List Loc) (ls : Array Slot), f_Mod_inductive_93 N n93 x5_93 x4_93 x3_93 x2_93 x1_93 β93 = some x → mI g A s β93 H locs → lv_has ls 11 [(5, .int x5_93), (4, .int x4_93), (3, .int x3_93), (2, .int x2_93), (1, .int x1_93), (0, .ref (mad g 0))] → W p l e (mR (1794) (50633)) s m ([.ref (mad g 0)]).toArray below meth c H locs 0 0 (vEQ below (mQ g A (mQr x)) ([.ref (mad g 0)]).toArray s A) (F0 m 93 ls []) := by
        intro n93
        induction n93 with
        | zero => intro x5_93 x4_93 x3_93 x2_93 x1_93 β93 H locs ls h hI hl; rw [f_Mod_inductive_93] at h; cases h
        | succ n93 ih93 =>
          intro x5_93 x4_93 x3_93 x2_93 x1_93 β93 H locs ls h hI hl
          rw [f_Mod_inductive_93] at h
          refine lv_aload_n hx hb d_Mod_inductive_93 rfl (lv_at hl 5 rfl) ?_
          refine mg_cI (As := []) (rest := []) h (k_Mod_peek (l := l) (g := g) (α := β93) N) S hlocks hno E hI kw_Mod_273 ⟨Nat.le_of_ble_eq_true rfl, Nat.le_of_ble_eq_true rfl⟩ (mv_Mod E hI) rfl hl.1 rfl (Nat.le_of_ble_eq_true rfl) d_Mod_inductive_94 (fun v24 α22 H locs e23 h hI => ?_)
          refine lv_bipush (v := 124) hx hb d_Mod_inductive_97 (by decide) ?_
          refine lv_icmp_ne (tgt := 144) hx hb d_Mod_inductive_99 (by decide) (fun c25 => ?_) (fun c25 => ?_)
          · replace h := Eq.trans (if_neg c25).symm h
            refine lv_aload_n hx hb d_Mod_inductive_144 rfl (lv_at hl 5 rfl) ?_
            refine lv_bipush (v := 125) hx hb d_Mod_inductive_145 (by decide) ?_
            refine mg_cV (As := [.int 125]) (rest := []) h (k_Mod_must (l := l) (g := g) (α := α22) N 125) S hlocks hno E hI kw_Mod_405 ⟨Nat.le_of_ble_eq_true rfl, Nat.le_of_ble_eq_true rfl⟩ (mv_Mod E hI) rfl hl.1 rfl (Nat.le_of_ble_eq_true rfl) d_Mod_inductive_147 (fun α26 H locs e27 h hI => ?_)
            refine lv_aload_n hx hb d_Mod_inductive_150 rfl (lv_at hl 5 rfl) ?_
            refine lv_bipush (v := 46) hx hb d_Mod_inductive_151 (by decide) ?_
            refine mg_cV (As := [.int 46]) (rest := []) h (k_Mod_must (l := l) (g := g) (α := α26) N 46) S hlocks hno E hI kw_Mod_405 ⟨Nat.le_of_ble_eq_true rfl, Nat.le_of_ble_eq_true rfl⟩ (mv_Mod E hI) rfl hl.1 rfl (Nat.le_of_ble_eq_true rfl) d_Mod_inductive_153 (fun α28 H locs e29 h hI => ?_)
            refine lv_aload_n hx hb d_Mod_inductive_156 rfl (lv_at hl 5 rfl) ?_
            refine mf_big S E hI vt_1283 d_Mod_inductive_157 ?_
            refine lv_iload hx hb d_Mod_inductive_160 (lv_at hl 1 rfl) ?_
            by_cases c30 : x4_93 < 0 ∨ 400000 ≤ (x4_93 : Int32).toNatClampNeg
            · replace h := Eq.trans (if_pos c30).symm h
              cases h
            · replace h := Eq.trans (if_neg c30).symm h
              refine ml_big S E hI c30 d_Mod_inductive_162 ?_
              refine lv_istore (lv' := [(6, .int (α28.2 6 (x4_93 : Int32).toNatClampNeg)), (5, .int x5_93), (4, .int x4_93), (3, .int x3_93), (2, .int x2_93), (1, .int x1_93), (0, .ref (mad g 0))]) hx hb d_Mod_inductive_163 hl (by decide) rfl (fun ls hl => ?_)
              refine lv_iconst (v := 0) hx hb d_Mod_inductive_165 (by decide) ?_
              refine lv_istore (lv' := [(7, .int 0), (6, .int (α28.2 6 (x4_93 : Int32).toNatClampNeg)), (5, .int x5_93), (4, .int x4_93), (3, .int x3_93), (2, .int x2_93), (1, .int x1_93), (0, .ref (mad g 0))]) hx hb d_Mod_inductive_166 hl (by decide) rfl (fun ls hl => ?_)
              have L168 : ∀ (n168 : Nat) (x7_168 : Int32) (x6_168 : Int32) (x5_168 : Int32) (x4_168 : Int32) (x3_168 : Int32) (x2_168 : Int32) (x1_168 : Int32) (β168 : mS) (H : Heap) (locs : List Loc) (ls : Array Slot), f_Mod_inductive_168 N n168 x7_168 x6_168 x5_168 x4_168 x3_168 x2_168 x1_168 β168 = some x → mI g A s β168 H locs → lv_has ls 11 [(7, .int x7_168), (6, .int x6_168), (5, .int x5_168), (4, .int x4_168), (3, .int x3_168), (2, .int x2_168), (1, .int x1_168), (0, .ref (mad g 0))] → W p l e (mR (1794) (50633)) s m ([.ref (mad g 0)]).toArray below meth c H locs 0 0 (vEQ below (mQ g A (mQr x)) ([.ref (mad g 0)]).toArray s A) (F0 m 168 ls []) := by
                intro n168
                induction n168 with
                | zero => intro x7_168 x6_168 x5_168 x4_168 x3_168 x2_168 x1_168 β168 H locs ls h hI hl; rw [f_Mod_inductive_168] at h; cases h
                | succ n168 ih168 =>
                  intro x7_168 x6_168 x5_168 x4_168 x3_168 x2_168 x1_168 β168 H locs ls h hI hl
                  rw [f_Mod_inductive_168] at h
                  refine lv_iload hx hb d_Mod_inductive_168 (lv_at hl 0 rfl) ?_
                  refine lv_iload hx hb d_Mod_inductive_170 (lv_at hl 2 rfl) ?_
                  refine lv_icmp_ge (tgt := 198) hx hb d_Mod_inductive_172 (by decide) (fun c31 => ?_) (fun c31 => ?_)
                  · replace h := Eq.trans (if_pos c31).symm h
                    refine lv_aload_n hx hb d_Mod_inductive_198 rfl (lv_at hl 7 rfl) ?_
                    refine lv_iload hx hb d_Mod_inductive_199 (lv_at hl 1 rfl) ?_
                    refine mg_cV (As := [.int x6_168]) (rest := []) h (k_Mod_together (l := l) (g := g) (α := β168) N x6_168) S hlocks hno E hI kw_Mod_519 ⟨Nat.le_of_ble_eq_true rfl, Nat.le_of_ble_eq_true rfl⟩ (mv_Mod E hI) rfl hl.1 rfl (Nat.le_of_ble_eq_true rfl) d_Mod_inductive_201 (fun α32 H locs e33 h hI => ?_)
                    refine lv_iload_n hx hb d_Mod_inductive_204 rfl (lv_at hl 4 rfl) ?_
                    refine lv_istore (lv' := [(7, .int x3_168), (6, .int x6_168), (5, .int x5_168), (4, .int x4_168), (3, .int x3_168), (2, .int x2_168), (1, .int x1_168), (0, .ref (mad g 0))]) hx hb d_Mod_inductive_205 hl (by decide) rfl (fun ls hl => ?_)
                    refine lv_iconst (v := 0) hx hb d_Mod_inductive_207 (by decide) ?_
                    refine lv_istore (lv' := [(8, .int 0), (7, .int x3_168), (6, .int x6_168), (5, .int x5_168), (4, .int x4_168), (3, .int x3_168), (2, .int x2_168), (1, .int x1_168), (0, .ref (mad g 0))]) hx hb d_Mod_inductive_208 hl (by decide) rfl (fun ls hl => ?_)
                    have L210 : ∀ (n210 : Nat) (x8_210 : Int32) (x7_210 : Int32) (x5_210 : Int32) (x4_210 : Int32) (x3_210 : Int32) (x2_210 : Int32) (x1_210 : Int32) (β210 : mS) (H : Heap) (locs : List Loc) (ls : Array Slot), f_Mod_inductive_210 N n210 x8_210 x7_210 x5_210 x4_210 x3_210 x2_210 x1_210 β210 = some x → mI g A s β210 H locs → lv_has ls 11 [(8, .int x8_210), (7, .int x7_210), (5, .int x5_210), (4, .int x4_210), (3, .int x3_210), (2, .int x2_210), (1, .int x1_210), (0, .ref (mad g 0))] → W p l e (mR (1794) (50633)) s m ([.ref (mad g 0)]).toArray below meth c H locs 0 0 (vEQ below (mQ g A (mQr x)) ([.ref (mad g 0)]).toArray s A) (F0 m 210 ls []) := by
                      intro n210
                      induction n210 with
                      | zero => intro x8_210 x7_210 x5_210 x4_210 x3_210 x2_210 x1_210 β210 H locs ls h hI hl; rw [f_Mod_inductive_210] at h; cases h
                      | succ n210 ih210 =>
                        intro x8_210 x7_210 x5_210 x4_210 x3_210 x2_210 x1_210 β210 H locs ls h hI hl
                        rw [f_Mod_inductive_210] at h
                        refine lv_aload_n hx hb d_Mod_inductive_210 rfl (lv_at hl 7 rfl) ?_
                        refine mf_kind S E hI vt_1279 d_Mod_inductive_211 ?_
                        refine lv_iload hx hb d_Mod_inductive_214 (lv_at hl 1 rfl) ?_
                        by_cases c34 : x7_210 < 0 ∨ 400000 ≤ (x7_210 : Int32).toNatClampNeg
                        · replace h := Eq.trans (if_pos c34).symm h
                          cases h
                        · replace h := Eq.trans (if_neg c34).symm h
                          refine ml_kind S E hI c34 d_Mod_inductive_216 ?_
                          refine lv_bipush (v := 6) hx hb d_Mod_inductive_217 (by decide) ?_
                          refine lv_icmp_ne (tgt := 237) hx hb d_Mod_inductive_219 (by decide) (fun c35 => ?_) (fun c35 => ?_)
                          · replace h := Eq.trans (if_neg c35).symm h
                            refine lv_aload_n hx hb d_Mod_inductive_237 rfl (lv_at hl 7 rfl) ?_
                            refine mf_kind S E hI vt_1279 d_Mod_inductive_238 ?_
                            refine lv_iload hx hb d_Mod_inductive_241 (lv_at hl 1 rfl) ?_
                            by_cases c36 : x7_210 < 0 ∨ 400000 ≤ (x7_210 : Int32).toNatClampNeg
                            · replace h := Eq.trans (if_pos c36).symm h
                              cases h
                            · replace h := Eq.trans (if_neg c36).symm h
                              refine ml_kind S E hI c36 d_Mod_inductive_243 ?_
                              refine lv_if_eq (tgt := 253) hx hb d_Mod_inductive_244 (by decide) (fun c37 => ?_) (fun c37 => ?_)
                              · replace h := Eq.trans (if_pos c37).symm h
                                refine lv_aload_n hx hb d_Mod_inductive_253 rfl (lv_at hl 7 rfl) ?_
                                refine lv_iload hx hb d_Mod_inductive_254 (lv_at hl 3 rfl) ?_
                                refine lv_iconst (v := 0) hx hb d_Mod_inductive_256 (by decide) ?_
                                refine lv_iconst (v := 0) hx hb d_Mod_inductive_257 (by decide) ?_
                                refine mg_cI (As := [.int x4_210, .int 0, .int 0]) (rest := []) h (k_Mod_whole (l := l) (g := g) (α := β210) N x4_210 0 0) S hlocks hno E hI kw_Mod_513 ⟨Nat.le_of_ble_eq_true rfl, Nat.le_of_ble_eq_true rfl⟩ (mv_Mod E hI) rfl hl.1 rfl (Nat.le_of_ble_eq_true rfl) d_Mod_inductive_258 (fun v40 α38 H locs e39 h hI => ?_)
                                refine lv_istore (lv' := [(9, .int v40), (8, .int x8_210), (7, .int x7_210), (5, .int x5_210), (4, .int x4_210), (3, .int x3_210), (2, .int x2_210), (1, .int x1_210), (0, .ref (mad g 0))]) hx hb d_Mod_inductive_261 hl (by decide) rfl (fun ls hl => ?_)
                                refine lv_aload_n hx hb d_Mod_inductive_263 rfl (lv_at hl 8 rfl) ?_
                                refine lv_iload hx hb d_Mod_inductive_264 (lv_at hl 0 rfl) ?_
                                refine lv_iconst (v := 0) hx hb d_Mod_inductive_266 (by decide) ?_
                                refine mg_cI (As := [.int v40, .int 0]) (rest := []) h (((ok_check (l := l) (g := g) N dp_check).2.2.2) v40 0 α38) S hlocks hno E hI kw_Mod_477 ⟨Nat.le_of_ble_eq_true rfl, Nat.le_of_ble_eq_true rfl⟩ (mv_Mod E hI) rfl hl.1 rfl (Nat.le_of_ble_eq_true rfl) d_Mod_inductive_267 (fun v43 α41 H locs e42 h hI => ?_)
                                refine lv_pop hx hb d_Mod_inductive_270 rfl ?_
                                refine lv_aload_n hx hb d_Mod_inductive_271 rfl (lv_at hl 8 rfl) ?_
                                refine mf_sortOf S E hI vt_1296 d_Mod_inductive_272 ?_
                                refine lv_iload_n hx hb d_Mod_inductive_275 rfl (lv_at hl 7 rfl) ?_
                                refine lv_iconst (v := 3) hx hb d_Mod_inductive_276 (by decide) ?_
                                by_cases c44 : x1_210 < 0 ∨ 301 ≤ (x1_210 : Int32).toNatClampNeg
                                · replace h := Eq.trans (if_pos c44).symm h
                                  cases h
                                · replace h := Eq.trans (if_neg c44).symm h
                                  refine ms_sortOf S E hI c44 d_Mod_inductive_277 (fun H locs hI => ?_)
                                  refine lv_aload_n hx hb d_Mod_inductive_278 rfl (lv_at hl 8 rfl) ?_
                                  refine mf_typeOf S E hI vt_1297 d_Mod_inductive_279 ?_
                                  refine lv_iload_n hx hb d_Mod_inductive_282 rfl (lv_at hl 7 rfl) ?_
                                  refine lv_iload hx hb d_Mod_inductive_283 (lv_at hl 0 rfl) ?_
                                  by_cases c45 : x1_210 < 0 ∨ 301 ≤ (x1_210 : Int32).toNatClampNeg
                                  · replace h := Eq.trans (if_pos c45).symm h
                                    cases h
                                  · replace h := Eq.trans (if_neg c45).symm h
                                    refine ms_typeOf S E hI c45 d_Mod_inductive_285 (fun H locs hI => ?_)
                                    refine lv_aload_n hx hb d_Mod_inductive_286 rfl (lv_at hl 8 rfl) ?_
                                    refine mf_parameters S E hI vt_1299 d_Mod_inductive_287 ?_
                                    refine lv_iload_n hx hb d_Mod_inductive_290 rfl (lv_at hl 7 rfl) ?_
                                    refine lv_iload_n hx hb d_Mod_inductive_291 rfl (lv_at hl 6 rfl) ?_
                                    by_cases c46 : x1_210 < 0 ∨ 301 ≤ (x1_210 : Int32).toNatClampNeg
                                    · replace h := Eq.trans (if_pos c46).symm h
                                      cases h
                                    · replace h := Eq.trans (if_neg c46).symm h
                                      refine ms_parameters S E hI c46 d_Mod_inductive_292 (fun H locs hI => ?_)
                                      refine lv_aload_n hx hb d_Mod_inductive_293 rfl (lv_at hl 8 rfl) ?_
                                      refine mf_indices S E hI vt_1300 d_Mod_inductive_294 ?_
                                      refine lv_iload_n hx hb d_Mod_inductive_297 rfl (lv_at hl 7 rfl) ?_
                                      refine lv_iload hx hb d_Mod_inductive_298 (lv_at hl 1 rfl) ?_
                                      by_cases c47 : x1_210 < 0 ∨ 301 ≤ (x1_210 : Int32).toNatClampNeg
                                      · replace h := Eq.trans (if_pos c47).symm h
                                        cases h
                                      · replace h := Eq.trans (if_neg c47).symm h
                                        refine ms_indices S E hI c47 d_Mod_inductive_300 (fun H locs hI => ?_)
                                        refine lv_aload_n hx hb d_Mod_inductive_301 rfl (lv_at hl 8 rfl) ?_
                                        refine mf_constructors S E hI vt_1301 d_Mod_inductive_302 ?_
                                        refine lv_iload_n hx hb d_Mod_inductive_305 rfl (lv_at hl 7 rfl) ?_
                                        refine lv_iload hx hb d_Mod_inductive_306 (lv_at hl 3 rfl) ?_
                                        by_cases c48 : x1_210 < 0 ∨ 301 ≤ (x1_210 : Int32).toNatClampNeg
                                        · replace h := Eq.trans (if_pos c48).symm h
                                          cases h
                                        · replace h := Eq.trans (if_neg c48).symm h
                                          refine ms_constructors S E hI c48 d_Mod_inductive_308 (fun H locs hI => ?_)
                                          refine lv_aload_n hx hb d_Mod_inductive_309 rfl (lv_at hl 8 rfl) ?_
                                          refine mf_arguments S E hI vt_1302 d_Mod_inductive_310 ?_
                                          refine lv_iload_n hx hb d_Mod_inductive_313 rfl (lv_at hl 7 rfl) ?_
                                          refine lv_iconst (v := 0) hx hb d_Mod_inductive_314 (by decide) ?_
                                          by_cases c49 : x1_210 < 0 ∨ 301 ≤ (x1_210 : Int32).toNatClampNeg
                                          · replace h := Eq.trans (if_pos c49).symm h
                                            cases h
                                          · replace h := Eq.trans (if_neg c49).symm h
                                            refine ms_arguments S E hI c49 d_Mod_inductive_315 (fun H locs hI => ?_)
                                            refine lv_aload_n hx hb d_Mod_inductive_316 rfl (lv_at hl 8 rfl) ?_
                                            refine mf_recursive S E hI vt_1303 d_Mod_inductive_317 ?_
                                            refine lv_iload_n hx hb d_Mod_inductive_320 rfl (lv_at hl 7 rfl) ?_
                                            refine lv_iconst (v := 0) hx hb d_Mod_inductive_321 (by decide) ?_
                                            by_cases c50 : x1_210 < 0 ∨ 301 ≤ (x1_210 : Int32).toNatClampNeg
                                            · replace h := Eq.trans (if_pos c50).symm h
                                              cases h
                                            · replace h := Eq.trans (if_neg c50).symm h
                                              refine ms_recursive S E hI c50 d_Mod_inductive_322 (fun H locs hI => ?_)
                                              refine lv_aload_n hx hb d_Mod_inductive_323 rfl (lv_at hl 8 rfl) ?_
                                              refine mf_valueOf S E hI vt_1298 d_Mod_inductive_324 ?_
                                              refine lv_iload_n hx hb d_Mod_inductive_327 rfl (lv_at hl 7 rfl) ?_
                                              refine lv_iconst (v := (-1)) hx hb d_Mod_inductive_328 (by decide) ?_
                                              by_cases c51 : x1_210 < 0 ∨ 301 ≤ (x1_210 : Int32).toNatClampNeg
                                              · replace h := Eq.trans (if_pos c51).symm h
                                                cases h
                                              · replace h := Eq.trans (if_neg c51).symm h
                                                refine ms_valueOf S E hI c51 d_Mod_inductive_329 (fun H locs hI => ?_)
                                                refine lv_iconst (v := 0) hx hb d_Mod_inductive_330 (by decide) ?_
                                                refine lv_istore (lv' := [(10, .int 0), (9, .int v40), (8, .int x8_210), (7, .int x7_210), (5, .int x5_210), (4, .int x4_210), (3, .int x3_210), (2, .int x2_210), (1, .int x1_210), (0, .ref (mad g 0))]) hx hb d_Mod_inductive_331 hl (by decide) rfl (fun ls hl => ?_)
                                                have L333 : ∀ (n333 : Nat) (x10_333 : Int32) (x9_333 : Int32) (x8_333 : Int32) (x7_333 : Int32) (x5_333 : Int32) (x3_333 : Int32) (x2_333 : Int32) (x1_333 : Int32) (β333 : mS) (H : Heap) (locs : List Loc) (ls : Array Slot), f_Mod_inductive_333 N n333 x10_333 x9_333 x8_333 x7_333 x5_333 x3_333 x2_333 x1_333 β333 = some x → mI g A s β333 H locs → lv_has ls 11 [(10, .int x10_333), (9, .int x9_333), (8, .int x8_333), (7, .int x7_333), (5, .int x5_333), (3, .int x3_333), (2, .int x2_333), (1, .int x1_333), (0, .ref (mad g 0))] → W p l e (mR (1794) (50633)) s m ([.ref (mad g 0)]).toArray below meth c H locs 0 0 (vEQ below (mQ g A (mQr x)) ([.ref (mad g 0)]).toArray s A) (F0 m 333 ls []) := by
                                                  intro n333
                                                  induction n333 with
                                                  | zero => intro x10_333 x9_333 x8_333 x7_333 x5_333 x3_333 x2_333 x1_333 β333 H locs ls h hI hl; rw [f_Mod_inductive_333] at h; cases h
                                                  | succ n333 ih333 =>
                                                    intro x10_333 x9_333 x8_333 x7_333 x5_333 x3_333 x2_333 x1_333 β333 H locs ls h hI hl
                                                    rw [f_Mod_inductive_333] at h
                                                    refine lv_iload hx hb d_Mod_inductive_333 (lv_at hl 0 rfl) ?_
                                                    refine lv_iload_n hx hb d_Mod_inductive_335 rfl (lv_at hl 6 rfl) ?_
                                                    refine lv_icmp_ge (tgt := 376) hx hb d_Mod_inductive_336 (by decide) (fun c52 => ?_) (fun c52 => ?_)
                                                    · replace h := Eq.trans (if_pos c52).symm h
                                                      refine lv_aload_n hx hb d_Mod_inductive_376 rfl (lv_at hl 8 rfl) ?_
                                                      refine lv_iconst (v := 0) hx hb d_Mod_inductive_377 (by decide) ?_
                                                      refine mp_argumentCount S E hI vt_1339 d_Mod_inductive_378 (fun H locs hI => ?_)
                                                      refine lv_iconst (v := 0) hx hb d_Mod_inductive_381 (by decide) ?_
                                                      refine lv_istore (lv' := [(10, .int 0), (9, .int x9_333), (8, .int x8_333), (7, .int x7_333), (5, .int x5_333), (3, .int x3_333), (2, .int x2_333), (1, .int x1_333), (0, .ref (mad g 0))]) hx hb d_Mod_inductive_382 hl (by decide) rfl (fun ls hl => ?_)
                                                      have L384 : ∀ (n384 : Nat) (x10_384 : Int32) (x9_384 : Int32) (x8_384 : Int32) (x7_384 : Int32) (x5_384 : Int32) (x3_384 : Int32) (x2_384 : Int32) (x1_384 : Int32) (β384 : mS) (H : Heap) (locs : List Loc) (ls : Array Slot), f_Mod_inductive_384 N n384 x10_384 x9_384 x8_384 x7_384 x5_384 x3_384 x2_384 x1_384 β384 = some x → mI g A s β384 H locs → lv_has ls 11 [(10, .int x10_384), (9, .int x9_384), (8, .int x8_384), (7, .int x7_384), (5, .int x5_384), (3, .int x3_384), (2, .int x2_384), (1, .int x1_384), (0, .ref (mad g 0))] → W p l e (mR (1794) (50633)) s m ([.ref (mad g 0)]).toArray below meth c H locs 0 0 (vEQ below (mQ g A (mQr x)) ([.ref (mad g 0)]).toArray s A) (F0 m 384 ls []) := by
                                                        intro n384
                                                        induction n384 with
                                                        | zero => intro x10_384 x9_384 x8_384 x7_384 x5_384 x3_384 x2_384 x1_384 β384 H locs ls h hI hl; rw [f_Mod_inductive_384] at h; cases h
                                                        | succ n384 ih384 =>
                                                          intro x10_384 x9_384 x8_384 x7_384 x5_384 x3_384 x2_384 x1_384 β384 H locs ls h hI hl
                                                          rw [f_Mod_inductive_384] at h
                                                          have J463 : ∀ (y9 : Int32) (y8 : Int32) (y5 : Int32) (y3 : Int32) (y2 : Int32) (y1 : Int32) (t0 : Int32) (t1 : Int32) (γ : mS) (H : Heap) (locs : List Loc) (ls : Array Slot), f_Mod_inductive_j463 N y9 y8 y5 y3 y2 y1 t0 t1 γ = some x → mI g A s γ H locs → lv_has ls 11 [(9, .int y9), (8, .int y8), (5, .int y5), (3, .int y3), (2, .int y2), (1, .int y1), (0, .ref (mad g 0))] → W p l e (mR (1794) (50633)) s m ([.ref (mad g 0)]).toArray below meth c H locs 0 0 (vEQ below (mQ g A (mQr x)) ([.ref (mad g 0)]).toArray s A) (F0 m 463 ls [.int t0, .int t1, .ref (mad g 25)]) := by
                                                            intro y9 y8 y5 y3 y2 y1 t0 t1 γ H locs ls h hI hl
                                                            unfold f_Mod_inductive_j463 at h
                                                            by_cases c56 : t1 < 0 ∨ 301 ≤ (t1 : Int32).toNatClampNeg
                                                            · replace h := Eq.trans (if_pos c56).symm h
                                                              cases h
                                                            · replace h := Eq.trans (if_neg c56).symm h
                                                              refine ms_large S E hI c56 d_Mod_inductive_463 (fun H locs hI => ?_)
                                                              refine lv_aload_n hx hb d_Mod_inductive_464 rfl (lv_at hl 6 rfl) ?_
                                                              refine lv_iload_n hx hb d_Mod_inductive_465 rfl (lv_at hl 5 rfl) ?_
                                                              refine lv_iload_n hx hb d_Mod_inductive_466 rfl (lv_at hl 3 rfl) ?_
                                                              refine lv_iload_n hx hb d_Mod_inductive_467 rfl (lv_at hl 4 rfl) ?_
                                                              refine lv_iload hx hb d_Mod_inductive_468 (lv_at hl 1 rfl) ?_
                                                              refine lv_iload hx hb d_Mod_inductive_470 (lv_at hl 2 rfl) ?_
                                                              refine lv_iload hx hb d_Mod_inductive_472 (lv_at hl 0 rfl) ?_
                                                              refine mg_cV (As := [.int y1, .int y3, .int y2, .int y8, .int y5, .int y9]) (rest := []) h (k_Mod_made (l := l) (g := g) (α := (mSA γ 24 (upd (γ.2 24) (t1 : Int32).toNatClampNeg (vp_nar .boolean t0)))) N y1 y3 y2 y8 y5 y9) S hlocks hno E hI kw_Mod_544 ⟨Nat.le_of_ble_eq_true rfl, Nat.le_of_ble_eq_true rfl⟩ (mv_Mod E hI) rfl hl.1 rfl (Nat.le_of_ble_eq_true rfl) d_Mod_inductive_474 (fun α57 H locs e58 h hI => ?_)
                                                              exact mc_vret hx hb hr hlocks E hI h d_Mod_inductive_477
                                                          have J458 : ∀ (y9 : Int32) (y8 : Int32) (y5 : Int32) (y3 : Int32) (y2 : Int32) (y1 : Int32) (t0 : Int32) (γ : mS) (H : Heap) (locs : List Loc) (ls : Array Slot), f_Mod_inductive_j458 N y9 y8 y5 y3 y2 y1 t0 γ = some x → mI g A s γ H locs → lv_has ls 11 [(9, .int y9), (8, .int y8), (5, .int y5), (3, .int y3), (2, .int y2), (1, .int y1), (0, .ref (mad g 0))] → W p l e (mR (1794) (50633)) s m ([.ref (mad g 0)]).toArray below meth c H locs 0 0 (vEQ below (mQ g A (mQr x)) ([.ref (mad g 0)]).toArray s A) (F0 m 458 ls [.int t0, .ref (mad g 25)]) := by
                                                            intro y9 y8 y5 y3 y2 y1 t0 γ H locs ls h hI hl
                                                            unfold f_Mod_inductive_j458 at h
                                                            refine lv_iconst (v := 1) hx hb d_Mod_inductive_458 (by decide) ?_
                                                            refine lv_goto (tgt := 463) hx hb d_Mod_inductive_459 (by decide) ?_
                                                            exact J463 y9 y8 y5 y3 y2 y1 1 t0 _ _ _ _ h hI (lv_sub hl [0, 1, 2, 3, 4, 5, 6] rfl)
                                                          have J462 : ∀ (y9 : Int32) (y8 : Int32) (y5 : Int32) (y3 : Int32) (y2 : Int32) (y1 : Int32) (t0 : Int32) (γ : mS) (H : Heap) (locs : List Loc) (ls : Array Slot), f_Mod_inductive_j462 N y9 y8 y5 y3 y2 y1 t0 γ = some x → mI g A s γ H locs → lv_has ls 11 [(9, .int y9), (8, .int y8), (5, .int y5), (3, .int y3), (2, .int y2), (1, .int y1), (0, .ref (mad g 0))] → W p l e (mR (1794) (50633)) s m ([.ref (mad g 0)]).toArray below meth c H locs 0 0 (vEQ below (mQ g A (mQr x)) ([.ref (mad g 0)]).toArray s A) (F0 m 462 ls [.int t0, .ref (mad g 25)]) := by
                                                            intro y9 y8 y5 y3 y2 y1 t0 γ H locs ls h hI hl
                                                            unfold f_Mod_inductive_j462 at h
                                                            refine lv_iconst (v := 0) hx hb d_Mod_inductive_462 (by decide) ?_
                                                            exact J463 y9 y8 y5 y3 y2 y1 0 t0 _ _ _ _ h hI (lv_sub hl [0, 1, 2, 3, 4, 5, 6] rfl)
                                                          refine lv_iload hx hb d_Mod_inductive_384 (lv_at hl 0 rfl) ?_
                                                          refine lv_iload hx hb d_Mod_inductive_386 (lv_at hl 4 rfl) ?_
                                                          refine lv_icmp_ge (tgt := 420) hx hb d_Mod_inductive_388 (by decide) (fun c53 => ?_) (fun c53 => ?_)
                                                          · replace h := Eq.trans (if_pos c53).symm h
                                                            refine lv_aload_n hx hb d_Mod_inductive_420 rfl (lv_at hl 8 rfl) ?_
                                                            refine mf_large S E hI vt_1309 d_Mod_inductive_421 ?_
                                                            refine lv_iload_n hx hb d_Mod_inductive_424 rfl (lv_at hl 7 rfl) ?_
                                                            refine lv_aload_n hx hb d_Mod_inductive_425 rfl (lv_at hl 8 rfl) ?_
                                                            refine mf_one S E hI vt_1280 d_Mod_inductive_426 ?_
                                                            refine lv_iload hx hb d_Mod_inductive_429 (lv_at hl 3 rfl) ?_
                                                            by_cases c54 : x7_384 < 0 ∨ 400000 ≤ (x7_384 : Int32).toNatClampNeg
                                                            · replace h := Eq.trans (if_pos c54).symm h
                                                              cases h
                                                            · replace h := Eq.trans (if_neg c54).symm h
                                                              refine ml_one S E hI c54 d_Mod_inductive_431 ?_
                                                              refine lv_if_ne (tgt := 458) hx hb d_Mod_inductive_432 (by decide) (fun c55 => ?_) (fun c55 => ?_)
                                                              · replace h := Eq.trans (if_neg c55).symm h
                                                                exact J458 x9_384 x8_384 x5_384 x3_384 x2_384 x1_384 x1_384 _ _ _ _ h hI (lv_sub hl [1, 2, 4, 5, 6, 7, 8] rfl)
                                                              · replace h := Eq.trans (if_pos c55).symm h
                                                                refine lv_iload hx hb d_Mod_inductive_435 (lv_at hl 4 rfl) ?_
                                                                refine lv_if_eq (tgt := 458) hx hb d_Mod_inductive_437 (by decide) (fun c59 => ?_) (fun c59 => ?_)
                                                                · replace h := Eq.trans (if_pos c59).symm h
                                                                  exact J458 x9_384 x8_384 x5_384 x3_384 x2_384 x1_384 x1_384 _ _ _ _ h hI (lv_sub hl [1, 2, 4, 5, 6, 7, 8] rfl)
                                                                · replace h := Eq.trans (if_neg c59).symm h
                                                                  refine lv_iload hx hb d_Mod_inductive_440 (lv_at hl 4 rfl) ?_
                                                                  refine lv_iconst (v := 1) hx hb d_Mod_inductive_442 (by decide) ?_
                                                                  refine lv_icmp_ne (tgt := 462) hx hb d_Mod_inductive_443 (by decide) (fun c60 => ?_) (fun c60 => ?_)
                                                                  · replace h := Eq.trans (if_neg c60).symm h
                                                                    exact J462 x9_384 x8_384 x5_384 x3_384 x2_384 x1_384 x1_384 _ _ _ _ h hI (lv_sub hl [1, 2, 4, 5, 6, 7, 8] rfl)
                                                                  · replace h := Eq.trans (if_pos c60).symm h
                                                                    refine lv_aload_n hx hb d_Mod_inductive_446 rfl (lv_at hl 8 rfl) ?_
                                                                    refine lv_iload_n hx hb d_Mod_inductive_447 rfl (lv_at hl 7 rfl) ?_
                                                                    refine lv_iconst (v := 1) hx hb d_Mod_inductive_448 (by decide) ?_
                                                                    refine lv_iadd hx hb d_Mod_inductive_449 ?_
                                                                    refine lv_iload hx hb d_Mod_inductive_450 (lv_at hl 2 rfl) ?_
                                                                    obtain ⟨v61, e62, h⟩ := Option.bind_eq_some_iff.mp h
                                                                    refine mg_p (As := [.int (x1_384 + 1), .int x8_384]) (rest := [.int x1_384, .ref (mad g 25)]) ((k_Mod_small (l := l) (g := g) (α := β384) N (x1_384 + 1) x8_384) _ e62) S E hI kw_Mod_541 (Or.inl rfl) ⟨Nat.le_of_ble_eq_true rfl, Nat.le_of_ble_eq_true rfl⟩ (mv_Mod E hI) rfl hl.1 rfl (Nat.le_of_ble_eq_true rfl) d_Mod_inductive_452 rfl ?_
                                                                    refine lv_if_eq (tgt := 462) hx hb d_Mod_inductive_455 (by decide) (fun c63 => ?_) (fun c63 => ?_)
                                                                    · replace h := Eq.trans (if_pos c63).symm h
                                                                      exact J462 x9_384 x8_384 x5_384 x3_384 x2_384 x1_384 x1_384 _ _ _ _ h hI (lv_sub hl [1, 2, 4, 5, 6, 7, 8] rfl)
                                                                    · replace h := Eq.trans (if_neg c63).symm h
                                                                      exact J458 x9_384 x8_384 x5_384 x3_384 x2_384 x1_384 x1_384 _ _ _ _ h hI (lv_sub hl [1, 2, 4, 5, 6, 7, 8] rfl)
                                                          · replace h := Eq.trans (if_neg c53).symm h
                                                            refine lv_aload_n hx hb d_Mod_inductive_391 rfl (lv_at hl 8 rfl) ?_
                                                            refine lv_iload_n hx hb d_Mod_inductive_392 rfl (lv_at hl 7 rfl) ?_
                                                            refine lv_iload_n hx hb d_Mod_inductive_393 rfl (lv_at hl 7 rfl) ?_
                                                            refine lv_iconst (v := 1) hx hb d_Mod_inductive_394 (by decide) ?_
                                                            refine lv_iadd hx hb d_Mod_inductive_395 ?_
                                                            refine lv_iload hx hb d_Mod_inductive_396 (lv_at hl 0 rfl) ?_
                                                            refine lv_iadd hx hb d_Mod_inductive_398 ?_
                                                            refine lv_iload hx hb d_Mod_inductive_399 (lv_at hl 0 rfl) ?_
                                                            refine lv_aload_n hx hb d_Mod_inductive_401 rfl (lv_at hl 8 rfl) ?_
                                                            refine mf_one S E hI vt_1280 d_Mod_inductive_402 ?_
                                                            refine lv_iload hx hb d_Mod_inductive_405 (lv_at hl 3 rfl) ?_
                                                            by_cases c64 : x7_384 < 0 ∨ 400000 ≤ (x7_384 : Int32).toNatClampNeg
                                                            · replace h := Eq.trans (if_pos c64).symm h
                                                              cases h
                                                            · replace h := Eq.trans (if_neg c64).symm h
                                                              refine ml_one S E hI c64 d_Mod_inductive_407 ?_
                                                              refine lv_iload_n hx hb d_Mod_inductive_408 rfl (lv_at hl 6 rfl) ?_
                                                              refine lv_iload hx hb d_Mod_inductive_409 (lv_at hl 2 rfl) ?_
                                                              refine mg_cV (As := [.int x1_384, .int ((x1_384 + 1) + x10_384), .int x10_384, .int (β384.2 3 (x7_384 : Int32).toNatClampNeg), .int x2_384, .int x8_384]) (rest := []) h (k_Mod_constructor (l := l) (g := g) (α := β384) N x1_384 ((x1_384 + 1) + x10_384) x10_384 (β384.2 3 (x7_384 : Int32).toNatClampNeg) x2_384 x8_384) S hlocks hno E hI kw_Mod_537 ⟨Nat.le_of_ble_eq_true rfl, Nat.le_of_ble_eq_true rfl⟩ (mv_Mod E hI) rfl hl.1 rfl (Nat.le_of_ble_eq_true rfl) d_Mod_inductive_411 (fun α65 H locs e66 h hI => ?_)
                                                              refine lv_iinc (v := (x10_384 + 1)) (lv' := [(10, .int (x10_384 + 1)), (9, .int x9_384), (8, .int x8_384), (7, .int x7_384), (5, .int x5_384), (3, .int x3_384), (2, .int x2_384), (1, .int x1_384), (0, .ref (mad g 0))]) hx hb d_Mod_inductive_414 hl (k := 0) rfl rfl (by decide) rfl (fun ls hl => ?_)
                                                              refine lv_goto (tgt := 384) hx hb d_Mod_inductive_417 (by decide) ?_
                                                              exact ih384 (x10_384 + 1) x9_384 x8_384 x7_384 x5_384 x3_384 x2_384 x1_384 _ _ _ _ h hI (lv_sub hl [0, 1, 2, 3, 4, 5, 6, 7, 8] rfl)
                                                      exact L384 N 0 x9_333 x8_333 x7_333 x5_333 x3_333 x2_333 x1_333 _ _ _ _ h hI (lv_sub hl [0, 1, 2, 3, 4, 5, 6, 7, 8] rfl)
                                                    · replace h := Eq.trans (if_neg c52).symm h
                                                      refine lv_aload_n hx hb d_Mod_inductive_339 rfl (lv_at hl 8 rfl) ?_
                                                      refine mf_are S E hI vt_1331 d_Mod_inductive_340 ?_
                                                      refine lv_iload hx hb d_Mod_inductive_343 (lv_at hl 0 rfl) ?_
                                                      refine lv_aload_n hx hb d_Mod_inductive_345 rfl (lv_at hl 8 rfl) ?_
                                                      refine mf_one S E hI vt_1280 d_Mod_inductive_346 ?_
                                                      refine lv_aload_n hx hb d_Mod_inductive_349 rfl (lv_at hl 8 rfl) ?_
                                                      refine lv_aload_n hx hb d_Mod_inductive_350 rfl (lv_at hl 8 rfl) ?_
                                                      refine lv_aload_n hx hb d_Mod_inductive_351 rfl (lv_at hl 8 rfl) ?_
                                                      refine mf_typeStack S E hI vt_1315 d_Mod_inductive_352 ?_
                                                      refine lv_iload hx hb d_Mod_inductive_355 (lv_at hl 0 rfl) ?_
                                                      by_cases c67 : x10_333 < 0 ∨ 3400 ≤ (x10_333 : Int32).toNatClampNeg
                                                      · replace h := Eq.trans (if_pos c67).symm h
                                                        cases h
                                                      · replace h := Eq.trans (if_neg c67).symm h
                                                        refine ml_typeStack S E hI c67 d_Mod_inductive_357 ?_
                                                        refine lv_iload hx hb d_Mod_inductive_358 (lv_at hl 0 rfl) ?_
                                                        refine lv_iload hx hb d_Mod_inductive_360 (lv_at hl 0 rfl) ?_
                                                        refine mg_cI (As := [.int (β333.2 27 (x10_333 : Int32).toNatClampNeg), .int x10_333, .int x10_333]) (rest := [.ref (mad g 0), .ref (mad g 4), .int x10_333, .ref (mad g 34)]) h (k_Mod_whole (l := l) (g := g) (α := β333) N (β333.2 27 (x10_333 : Int32).toNatClampNeg) x10_333 x10_333) S hlocks hno E hI kw_Mod_513 ⟨Nat.le_of_ble_eq_true rfl, Nat.le_of_ble_eq_true rfl⟩ (mv_Mod E hI) rfl hl.1 rfl (Nat.le_of_ble_eq_true rfl) d_Mod_inductive_362 (fun v70 α68 H locs e69 h hI => ?_)
                                                        refine mg_cI (As := [.int v70]) (rest := [.ref (mad g 4), .int x10_333, .ref (mad g 34)]) h (k_Mod_fresh (l := l) (g := g) (α := α68) N v70) S hlocks hno E hI kw_Mod_468 ⟨Nat.le_of_ble_eq_true rfl, Nat.le_of_ble_eq_true rfl⟩ (mv_Mod E hI) rfl hl.1 rfl (Nat.le_of_ble_eq_true rfl) d_Mod_inductive_365 (fun v73 α71 H locs e72 h hI => ?_)
                                                        by_cases c74 : v73 < 0 ∨ 400000 ≤ (v73 : Int32).toNatClampNeg
                                                        · replace h := Eq.trans (if_pos c74).symm h
                                                          cases h
                                                        · replace h := Eq.trans (if_neg c74).symm h
                                                          refine ml_one S E hI c74 d_Mod_inductive_368 ?_
                                                          by_cases c75 : x10_333 < 0 ∨ 5000 ≤ (x10_333 : Int32).toNatClampNeg
                                                          · replace h := Eq.trans (if_pos c75).symm h
                                                            cases h
                                                          · replace h := Eq.trans (if_neg c75).symm h
                                                            refine ms_are S E hI c75 d_Mod_inductive_369 (fun H locs hI => ?_)
                                                            refine lv_iinc (v := (x10_333 + 1)) (lv' := [(10, .int (x10_333 + 1)), (9, .int x9_333), (8, .int x8_333), (7, .int x7_333), (5, .int x5_333), (3, .int x3_333), (2, .int x2_333), (1, .int x1_333), (0, .ref (mad g 0))]) hx hb d_Mod_inductive_370 hl (k := 0) rfl rfl (by decide) rfl (fun ls hl => ?_)
                                                            refine lv_goto (tgt := 333) hx hb d_Mod_inductive_373 (by decide) ?_
                                                            exact ih333 (x10_333 + 1) x9_333 x8_333 x7_333 x5_333 x3_333 x2_333 x1_333 _ _ _ _ h hI (lv_sub hl [0, 1, 2, 3, 4, 5, 6, 7, 8] rfl)
                                                exact L333 N 0 v40 x8_210 x7_210 x5_210 x3_210 x2_210 x1_210 _ _ _ _ h hI (lv_sub hl [0, 1, 2, 3, 4, 6, 7, 8, 9] rfl)
                              · replace h := Eq.trans (if_neg c37).symm h
                                refine lv_bipush (v := 8) hx hb d_Mod_inductive_247 (by decide) ?_
                                refine mg_fails S E hI kw_Mod_323 hl.1 ⟨Nat.le_of_ble_eq_true rfl, Nat.le_of_ble_eq_true rfl⟩ (Nat.le_of_ble_eq_true rfl) d_Mod_inductive_249 (fun q H locs hN => ?_)
                                exact mg_athrow S hlocks hno E hN h d_Mod_inductive_252
                          · replace h := Eq.trans (if_pos c35).symm h
                            refine lv_iinc (v := (x8_210 + 1)) (lv' := [(8, .int (x8_210 + 1)), (7, .int x7_210), (5, .int x5_210), (4, .int x4_210), (3, .int x3_210), (2, .int x2_210), (1, .int x1_210), (0, .ref (mad g 0))]) hx hb d_Mod_inductive_222 hl (k := 0) rfl rfl (by decide) rfl (fun ls hl => ?_)
                            refine lv_aload_n hx hb d_Mod_inductive_225 rfl (lv_at hl 7 rfl) ?_
                            refine mf_two S E hI vt_1281 d_Mod_inductive_226 ?_
                            refine lv_iload hx hb d_Mod_inductive_229 (lv_at hl 1 rfl) ?_
                            by_cases c76 : x7_210 < 0 ∨ 400000 ≤ (x7_210 : Int32).toNatClampNeg
                            · replace h := Eq.trans (if_pos c76).symm h
                              cases h
                            · replace h := Eq.trans (if_neg c76).symm h
                              refine ml_two S E hI c76 d_Mod_inductive_231 ?_
                              refine lv_istore (lv' := [(7, .int (β210.2 4 (x7_210 : Int32).toNatClampNeg)), (8, .int (x8_210 + 1)), (5, .int x5_210), (4, .int x4_210), (3, .int x3_210), (2, .int x2_210), (1, .int x1_210), (0, .ref (mad g 0))]) hx hb d_Mod_inductive_232 hl (by decide) rfl (fun ls hl => ?_)
                              refine lv_goto (tgt := 210) hx hb d_Mod_inductive_234 (by decide) ?_
                              exact ih210 (x8_210 + 1) (β210.2 4 (x7_210 : Int32).toNatClampNeg) x5_210 x4_210 x3_210 x2_210 x1_210 _ _ _ _ h hI (lv_sub hl [1, 0, 2, 3, 4, 5, 6, 7] rfl)
                    exact L210 N 0 x3_168 x5_168 x4_168 x3_168 x2_168 x1_168 _ _ _ _ h hI (lv_sub hl [0, 1, 3, 4, 5, 6, 7, 8] rfl)
                  · replace h := Eq.trans (if_neg c31).symm h
                    refine lv_iload hx hb d_Mod_inductive_175 (lv_at hl 1 rfl) ?_
                    refine lv_aload_n hx hb d_Mod_inductive_177 rfl (lv_at hl 7 rfl) ?_
                    refine mf_big S E hI vt_1283 d_Mod_inductive_178 ?_
                    refine lv_aload_n hx hb d_Mod_inductive_181 rfl (lv_at hl 7 rfl) ?_
                    refine mf_texts S E hI vt_1332 d_Mod_inductive_182 ?_
                    refine lv_iload hx hb d_Mod_inductive_185 (lv_at hl 0 rfl) ?_
                    by_cases c77 : x7_168 < 0 ∨ 301 ≤ (x7_168 : Int32).toNatClampNeg
                    · replace h := Eq.trans (if_pos c77).symm h
                      cases h
                    · replace h := Eq.trans (if_neg c77).symm h
                      refine ml_texts S E hI c77 d_Mod_inductive_187 ?_
                      by_cases c78 : (β168.2 34 (x7_168 : Int32).toNatClampNeg) < 0 ∨ 400000 ≤ ((β168.2 34 (x7_168 : Int32).toNatClampNeg) : Int32).toNatClampNeg
                      · replace h := Eq.trans (if_pos c78).symm h
                        cases h
                      · replace h := Eq.trans (if_neg c78).symm h
                        refine ml_big S E hI c78 d_Mod_inductive_188 ?_
                        refine lv_iadd hx hb d_Mod_inductive_189 ?_
                        refine lv_istore (lv' := [(6, .int (x6_168 + (β168.2 6 ((β168.2 34 (x7_168 : Int32).toNatClampNeg) : Int32).toNatClampNeg))), (7, .int x7_168), (5, .int x5_168), (4, .int x4_168), (3, .int x3_168), (2, .int x2_168), (1, .int x1_168), (0, .ref (mad g 0))]) hx hb d_Mod_inductive_190 hl (by decide) rfl (fun ls hl => ?_)
                        refine lv_iinc (v := (x7_168 + 1)) (lv' := [(7, .int (x7_168 + 1)), (6, .int (x6_168 + (β168.2 6 ((β168.2 34 (x7_168 : Int32).toNatClampNeg) : Int32).toNatClampNeg))), (5, .int x5_168), (4, .int x4_168), (3, .int x3_168), (2, .int x2_168), (1, .int x1_168), (0, .ref (mad g 0))]) hx hb d_Mod_inductive_192 hl (k := 1) rfl rfl (by decide) rfl (fun ls hl => ?_)
                        refine lv_goto (tgt := 168) hx hb d_Mod_inductive_195 (by decide) ?_
                        exact ih168 (x7_168 + 1) (x6_168 + (β168.2 6 ((β168.2 34 (x7_168 : Int32).toNatClampNeg) : Int32).toNatClampNeg)) x5_168 x4_168 x3_168 x2_168 x1_168 _ _ _ _ h hI (lv_sub hl [0, 1, 2, 3, 4, 5, 6, 7] rfl)
              exact L168 N 0 (α28.2 6 (x4_93 : Int32).toNatClampNeg) x5_93 x4_93 x3_93 x2_93 x1_93 _ _ _ _ h hI (lv_sub hl [0, 1, 2, 3, 4, 5, 6, 7] rfl)
          · replace h := Eq.trans (if_pos c25).symm h
            refine lv_aload_n hx hb d_Mod_inductive_102 rfl (lv_at hl 5 rfl) ?_
            refine mg_cV (As := []) (rest := []) h (k_Mod_take (l := l) (g := g) (α := α22) N) S hlocks hno E hI kw_Mod_281 ⟨Nat.le_of_ble_eq_true rfl, Nat.le_of_ble_eq_true rfl⟩ (mv_Mod E hI) rfl hl.1 rfl (Nat.le_of_ble_eq_true rfl) d_Mod_inductive_103 (fun α79 H locs e80 h hI => ?_)
            refine lv_aload_n hx hb d_Mod_inductive_106 rfl (lv_at hl 5 rfl) ?_
            refine mg_cV (As := []) (rest := []) h (k_Mod_newName (l := l) (g := g) (α := α79) N) S hlocks hno E hI kw_Mod_516 ⟨Nat.le_of_ble_eq_true rfl, Nat.le_of_ble_eq_true rfl⟩ (mv_Mod E hI) rfl hl.1 rfl (Nat.le_of_ble_eq_true rfl) d_Mod_inductive_107 (fun α81 H locs e82 h hI => ?_)
            refine lv_aload_n hx hb d_Mod_inductive_110 rfl (lv_at hl 5 rfl) ?_
            refine lv_dup hx hb d_Mod_inductive_111 rfl ?_
            refine mf_constants S E hI vt_1295 d_Mod_inductive_112 ?_
            refine lv_iconst (v := 1) hx hb d_Mod_inductive_115 (by decide) ?_
            refine lv_iadd hx hb d_Mod_inductive_116 ?_
            refine mp_constants S E hI vt_1295 d_Mod_inductive_117 (fun H locs hI => ?_)
            refine lv_aload_n hx hb d_Mod_inductive_120 rfl (lv_at hl 5 rfl) ?_
            refine lv_bipush (v := 58) hx hb d_Mod_inductive_121 (by decide) ?_
            refine mg_cV (As := [.int 58]) (rest := []) h (k_Mod_must (l := l) (g := g) (α := (mSi α81 16 ((α81.1 16) + 1))) N 58) S hlocks hno E hI kw_Mod_405 ⟨Nat.le_of_ble_eq_true rfl, Nat.le_of_ble_eq_true rfl⟩ (mv_Mod E hI) rfl hl.1 rfl (Nat.le_of_ble_eq_true rfl) d_Mod_inductive_123 (fun α83 H locs e84 h hI => ?_)
            refine lv_aload_n hx hb d_Mod_inductive_126 rfl (lv_at hl 5 rfl) ?_
            refine mf_texts S E hI vt_1332 d_Mod_inductive_127 ?_
            refine lv_iload hx hb d_Mod_inductive_130 (lv_at hl 0 rfl) ?_
            refine lv_iinc (v := (x5_93 + 1)) (lv' := [(5, .int (x5_93 + 1)), (4, .int x4_93), (3, .int x3_93), (2, .int x2_93), (1, .int x1_93), (0, .ref (mad g 0))]) hx hb d_Mod_inductive_132 hl (k := 0) rfl rfl (by decide) rfl (fun ls hl => ?_)
            refine lv_aload_n hx hb d_Mod_inductive_135 rfl (lv_at hl 5 rfl) ?_
            refine lv_iconst (v := 0) hx hb d_Mod_inductive_136 (by decide) ?_
            refine mg_cI (As := [.int 0]) (rest := [.int x5_93, .ref (mad g 35)]) h (((ok_applied (l := l) (g := g) N dp_applied).2.2.2.2.2) 0 α83) S hlocks hno E hI kw_Mod_399 ⟨Nat.le_of_ble_eq_true rfl, Nat.le_of_ble_eq_true rfl⟩ (mv_Mod E hI) rfl hl.1 rfl (Nat.le_of_ble_eq_true rfl) d_Mod_inductive_137 (fun v87 α85 H locs e86 h hI => ?_)
            by_cases c88 : x5_93 < 0 ∨ 301 ≤ (x5_93 : Int32).toNatClampNeg
            · replace h := Eq.trans (if_pos c88).symm h
              cases h
            · replace h := Eq.trans (if_neg c88).symm h
              refine ms_texts S E hI c88 d_Mod_inductive_140 (fun H locs hI => ?_)
              refine lv_goto (tgt := 93) hx hb d_Mod_inductive_141 (by decide) ?_
              exact ih93 (x5_93 + 1) x4_93 x3_93 x2_93 x1_93 _ _ _ _ h hI (lv_sub hl [0, 1, 2, 3, 4, 5] rfl)
      exact L93 N 0 v20 v13 t0 y1 _ _ _ _ h hI (lv_sub hl [0, 1, 2, 3, 4, 5] rfl)
  refine lv_aload_n hx hb d_Mod_inductive_0 rfl (lv_at hl 0 rfl) ?_
  refine mg_cV (As := []) (rest := []) h (k_Mod_take (l := l) (g := g) (α := α) N) S hlocks hno E hI kw_Mod_281 ⟨Nat.le_of_ble_eq_true rfl, Nat.le_of_ble_eq_true rfl⟩ (mv_Mod E hI) rfl hl.1 rfl (Nat.le_of_ble_eq_true rfl) d_Mod_inductive_1 (fun α1 H locs e2 h hI => ?_)
  refine lv_aload_n hx hb d_Mod_inductive_4 rfl (lv_at hl 0 rfl) ?_
  refine mg_cV (As := []) (rest := []) h (k_Mod_newName (l := l) (g := g) (α := α1) N) S hlocks hno E hI kw_Mod_516 ⟨Nat.le_of_ble_eq_true rfl, Nat.le_of_ble_eq_true rfl⟩ (mv_Mod E hI) rfl hl.1 rfl (Nat.le_of_ble_eq_true rfl) d_Mod_inductive_5 (fun α3 H locs e4 h hI => ?_)
  refine lv_aload_n hx hb d_Mod_inductive_8 rfl (lv_at hl 0 rfl) ?_
  refine mf_constants S E hI vt_1295 d_Mod_inductive_9 ?_
  refine lv_istore_n (lv' := [(1, .int (α3.1 16)), (0, .ref (mad g 0))]) hx hb d_Mod_inductive_12 rfl hl (by decide) rfl (fun ls hl => ?_)
  refine lv_aload_n hx hb d_Mod_inductive_13 rfl (lv_at hl 1 rfl) ?_
  refine mg_cI (As := []) (rest := []) h (k_Mod_peek (l := l) (g := g) (α := α3) N) S hlocks hno E hI kw_Mod_273 ⟨Nat.le_of_ble_eq_true rfl, Nat.le_of_ble_eq_true rfl⟩ (mv_Mod E hI) rfl hl.1 rfl (Nat.le_of_ble_eq_true rfl) d_Mod_inductive_14 (fun v7 α5 H locs e6 h hI => ?_)
  refine lv_bipush (v := 40) hx hb d_Mod_inductive_17 (by decide) ?_
  refine lv_icmp_ne (tgt := 30) hx hb d_Mod_inductive_19 (by decide) (fun c8 => ?_) (fun c8 => ?_)
  · replace h := Eq.trans (if_neg c8).symm h
    refine lv_iconst (v := 0) hx hb d_Mod_inductive_30 (by decide) ?_
    exact J31 (α3.1 16) 0 _ _ _ _ h hI (lv_sub hl [0, 1] rfl)
  · replace h := Eq.trans (if_pos c8).symm h
    refine lv_aload_n hx hb d_Mod_inductive_22 rfl (lv_at hl 1 rfl) ?_
    refine lv_iconst (v := 0) hx hb d_Mod_inductive_23 (by decide) ?_
    refine mg_cI (As := [.int 0]) (rest := []) h (((ok_applied (l := l) (g := g) N dp_applied).2.2.1) 0 α5) S hlocks hno E hI kw_Mod_409 ⟨Nat.le_of_ble_eq_true rfl, Nat.le_of_ble_eq_true rfl⟩ (mv_Mod E hI) rfl hl.1 rfl (Nat.le_of_ble_eq_true rfl) d_Mod_inductive_24 (fun v91 α89 H locs e90 h hI => ?_)
    refine lv_goto (tgt := 31) hx hb d_Mod_inductive_27 (by decide) ?_
    exact J31 (α3.1 16) v91 _ _ _ _ h hI (lv_sub hl [0, 1] rfl)
