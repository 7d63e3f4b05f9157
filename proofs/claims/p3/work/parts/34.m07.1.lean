def hk_recursion (l : Launch) (g : mG) (kk : (Int32 → Int32 → Int32 → mS → Option (kO × mS)) × (Int32 → mS → Option (kO × mS)) × (Int32 → mS → Option (kO × mS))) (fr lo : Nat) : Prop := (∀ (a1 : Int32) (a2 : Int32) (a3 : Int32)  (α : mS) (x : kO × mS), kk.1 a1 a2 a3 α = some x → mC l g y_Mod_recursion b_Mod_recursion 12 (some .int) fr lo [.ref (mad g 0), .int a1, .int a2, .int a3] α (mQr x)) ∧ (∀ (a1 : Int32)  (α : mS) (x : kO × mS), kk.2.1 a1 α = some x → mC l g y_Mod_step b_Mod_step 4 (some .int) fr lo [.ref (mad g 0), .int a1] α (mQr x)) ∧ (∀ (a1 : Int32)  (α : mS) (x : kO × mS), kk.2.2 a1 α = some x → mC l g y_Mod_whnf b_Mod_whnf 4 (some .int) fr lo [.ref (mad g 0), .int a1] α (mQr x))
theorem kw_Mod_458 : kWv "FamilyKernelModel" 458 "FamilyKernelModel" y_Mod_whnf b_Mod_whnf 4 (some .int) 1 := ⟨vt_1563, vt_1564, vt_1565, vt_1349, vt_1566, by decide, by decide, by decide +kernel⟩
theorem kw_Mod_446 : kWv "FamilyKernelModel" 446 "FamilyKernelModel" y_Mod_head b_Mod_head 3 (some .int) 1 := ⟨vt_1624, vt_1625, vt_1626, vt_1349, vt_1627, by decide, by decide, by decide +kernel⟩
theorem kw_Mod_449 : kWv "FamilyKernelModel" 449 "FamilyKernelModel" y_Mod_behind b_Mod_behind 4 (some .int) 1 := ⟨vt_1628, vt_1629, vt_1630, vt_1349, vt_1631, by decide, by decide, by decide +kernel⟩
theorem kw_Mod_461 : kWv "FamilyKernelModel" 461 "FamilyKernelModel" y_Mod_leveled b_Mod_leveled 3 (some .int) 2 := ⟨vt_1567, vt_1568, vt_1569, vt_1349, vt_1570, by decide, by decide, by decide +kernel⟩
theorem kw_Mod_452 : kWv "FamilyKernelModel" 452 "FamilyKernelModel" y_Mod_with b_Mod_with 7 (some .int) 4 := ⟨vt_1636, vt_1637, vt_1638, vt_1349, vt_1639, by decide, by decide, by decide +kernel⟩
def f_Mod_recursion_248 (N : Nat)  (kk : (Int32 → Int32 → Int32 → mS → Option (kO × mS)) × (Int32 → mS → Option (kO × mS)) × (Int32 → mS → Option (kO × mS))) : Nat → Int32 → Int32 → Int32 → Int32 → Int32 → Int32 → Int32 → mS → Option (kO × mS)
  | 0, _, _, _, _, _, _, _, _ => none
  | n + 1, x11_248, x10_248, x9_248, x7_248, x6_248, x1_248, x3_248, β248 => if x9_248 ≤ x11_248 then (mBi (f_Mod_with N x10_248 x1_248 x3_248 (x6_248 + 1) β248) fun v39 α37 => (some (some (some v39), α37))) else (((f_Mod_nth N x7_248 x9_248 x11_248 β248)).bind fun v40 => (mBi (f_Mod_apply N x10_248 v40 β248) fun v44 α42 => (f_Mod_recursion_248 N kk n (x11_248 + 1) v44 x9_248 x7_248 x6_248 x1_248 x3_248 α42)))
def f_Mod_recursion_210 (N : Nat)  (kk : (Int32 → Int32 → Int32 → mS → Option (kO × mS)) × (Int32 → mS → Option (kO × mS)) × (Int32 → mS → Option (kO × mS))) : Nat → Int32 → Int32 → Int32 → Int32 → Int32 → Int32 → Int32 → Int32 → Int32 → mS → Option (kO × mS)
  | 0, _, _, _, _, _, _, _, _, _, _ => none
  | n + 1, x11_210, x10_210, x9_210, x7_210, x6_210, x5_210, x4_210, x1_210, x3_210, β210 => if x5_210 ≤ x11_210 then (if x4_210 < 0 ∨ 301 ≤ (x4_210 : Int32).toNatClampNeg then none else (f_Mod_recursion_248 N kk N (β210.2 15 (x4_210 : Int32).toNatClampNeg) x10_210 x9_210 x7_210 x6_210 x1_210 x3_210 β210)) else (((f_Mod_nth N x1_210 x3_210 x11_210 β210)).bind fun v45 => (mBi (f_Mod_apply N x10_210 v45 β210) fun v49 α47 => (f_Mod_recursion_210 N kk n (x11_210 + 1) v49 x9_210 x7_210 x6_210 x5_210 x4_210 x1_210 x3_210 α47)))
def f_Mod_recursion (N : Nat) (kk : (Int32 → Int32 → Int32 → mS → Option (kO × mS)) × (Int32 → mS → Option (kO × mS)) × (Int32 → mS → Option (kO × mS))) (a1 : Int32) (a2 : Int32) (a3 : Int32) (α : mS) : Option (kO × mS) := if a2 < 0 ∨ 400000 ≤ (a2 : Int32).toNatClampNeg then none else (if (α.2 3 (a2 : Int32).toNatClampNeg) < 0 ∨ 301 ≤ ((α.2 3 (a2 : Int32).toNatClampNeg) : Int32).toNatClampNeg then none else (if (α.2 3 (a2 : Int32).toNatClampNeg) < 0 ∨ 301 ≤ ((α.2 3 (a2 : Int32).toNatClampNeg) : Int32).toNatClampNeg then none else (if (α.2 3 (a2 : Int32).toNatClampNeg) < 0 ∨ 301 ≤ ((α.2 3 (a2 : Int32).toNatClampNeg) : Int32).toNatClampNeg then none else (if ((((α.2 15 ((α.2 3 (a2 : Int32).toNatClampNeg) : Int32).toNatClampNeg) + 1) + (α.2 17 ((α.2 3 (a2 : Int32).toNatClampNeg) : Int32).toNatClampNeg)) + (α.2 16 ((α.2 3 (a2 : Int32).toNatClampNeg) : Int32).toNatClampNeg)) < a3 then (if (α.1 24) = 60 then (some (none, (mTh α 10 (-1)))) else (((f_Mod_nth N a1 a3 ((((α.2 15 ((α.2 3 (a2 : Int32).toNatClampNeg) : Int32).toNatClampNeg) + 1) + (α.2 17 ((α.2 3 (a2 : Int32).toNatClampNeg) : Int32).toNatClampNeg)) + (α.2 16 ((α.2 3 (a2 : Int32).toNatClampNeg) : Int32).toNatClampNeg)) (mSi α 24 ((α.1 24) + 1)))).bind fun v7 => (mBi (kk.2.2 v7 (mSi α 24 ((α.1 24) + 1))) fun v11 α9 => (((f_Mod_head N v11 (mSi α9 24 ((α9.1 24) - 1)))).bind fun v12 => (((f_Mod_behind N v11 (mSi α9 24 ((α9.1 24) - 1)))).bind fun v14 => (if v12 < 0 ∨ 400000 ≤ (v12 : Int32).toNatClampNeg then none else (if ((mSi α9 24 ((α9.1 24) - 1)).2 2 (v12 : Int32).toNatClampNeg) = 1 then (if v12 < 0 ∨ 400000 ≤ (v12 : Int32).toNatClampNeg then none else (if ((mSi α9 24 ((α9.1 24) - 1)).2 3 (v12 : Int32).toNatClampNeg) < 0 ∨ 301 ≤ (((mSi α9 24 ((α9.1 24) - 1)).2 3 (v12 : Int32).toNatClampNeg) : Int32).toNatClampNeg then none else (if ((mSi α9 24 ((α9.1 24) - 1)).2 12 (((mSi α9 24 ((α9.1 24) - 1)).2 3 (v12 : Int32).toNatClampNeg) : Int32).toNatClampNeg) = 4 then (if v12 < 0 ∨ 400000 ≤ (v12 : Int32).toNatClampNeg then none else (if ((mSi α9 24 ((α9.1 24) - 1)).2 3 (v12 : Int32).toNatClampNeg) < 0 ∨ 301 ≤ (((mSi α9 24 ((α9.1 24) - 1)).2 3 (v12 : Int32).toNatClampNeg) : Int32).toNatClampNeg then none else (if ((mSi α9 24 ((α9.1 24) - 1)).2 23 (((mSi α9 24 ((α9.1 24) - 1)).2 3 (v12 : Int32).toNatClampNeg) : Int32).toNatClampNeg) = (α.2 3 (a2 : Int32).toNatClampNeg) then (if (α.2 3 (a2 : Int32).toNatClampNeg) < 0 ∨ 301 ≤ ((α.2 3 (a2 : Int32).toNatClampNeg) : Int32).toNatClampNeg then none else (if v12 < 0 ∨ 400000 ≤ (v12 : Int32).toNatClampNeg then none else (if ((mSi α9 24 ((α9.1 24) - 1)).2 3 (v12 : Int32).toNatClampNeg) < 0 ∨ 301 ≤ (((mSi α9 24 ((α9.1 24) - 1)).2 3 (v12 : Int32).toNatClampNeg) : Int32).toNatClampNeg then none else (if v14 = (((mSi α9 24 ((α9.1 24) - 1)).2 15 ((α.2 3 (a2 : Int32).toNatClampNeg) : Int32).toNatClampNeg) + ((mSi α9 24 ((α9.1 24) - 1)).2 18 (((mSi α9 24 ((α9.1 24) - 1)).2 3 (v12 : Int32).toNatClampNeg) : Int32).toNatClampNeg)) then (if v12 < 0 ∨ 400000 ≤ (v12 : Int32).toNatClampNeg then none else (if ((mSi α9 24 ((α9.1 24) - 1)).2 3 (v12 : Int32).toNatClampNeg) < 0 ∨ 301 ≤ (((mSi α9 24 ((α9.1 24) - 1)).2 3 (v12 : Int32).toNatClampNeg) : Int32).toNatClampNeg then none else (if a2 < 0 ∨ 400000 ≤ (a2 : Int32).toNatClampNeg then none else (mBi (f_Mod_leveled N ((mSi α9 24 ((α9.1 24) - 1)).2 22 (((mSi α9 24 ((α9.1 24) - 1)).2 3 (v12 : Int32).toNatClampNeg) : Int32).toNatClampNeg) ((mSi α9 24 ((α9.1 24) - 1)).2 4 (a2 : Int32).toNatClampNeg) (mSi α9 24 ((α9.1 24) - 1))) fun v33 α31 => (f_Mod_recursion_210 N kk N 0 v33 v14 v11 ((((α.2 15 ((α.2 3 (a2 : Int32).toNatClampNeg) : Int32).toNatClampNeg) + 1) + (α.2 17 ((α.2 3 (a2 : Int32).toNatClampNeg) : Int32).toNatClampNeg)) + (α.2 16 ((α.2 3 (a2 : Int32).toNatClampNeg) : Int32).toNatClampNeg)) (((α.2 15 ((α.2 3 (a2 : Int32).toNatClampNeg) : Int32).toNatClampNeg) + 1) + (α.2 17 ((α.2 3 (a2 : Int32).toNatClampNeg) : Int32).toNatClampNeg)) (α.2 3 (a2 : Int32).toNatClampNeg) a1 a3 α31))))) else (some (some (some (-1)), (mSi α9 24 ((α9.1 24) - 1)))))))) else (some (some (some (-1)), (mSi α9 24 ((α9.1 24) - 1))))))) else (some (some (some (-1)), (mSi α9 24 ((α9.1 24) - 1))))))) else (some (some (some (-1)), (mSi α9 24 ((α9.1 24) - 1))))))))))) else (some (some (some (-1)), α))))))
set_option maxHeartbeats 4000000 in
set_option maxRecDepth 100000 in
theorem k_Mod_recursion {l : Launch} {g : mG} {α : mS} (N : Nat) (kk : (Int32 → Int32 → Int32 → mS → Option (kO × mS)) × (Int32 → mS → Option (kO × mS)) × (Int32 → mS → Option (kO × mS))) (d : Nat) (hk : hk_recursion l g kk (850 + d) (23826 + 31 * d)) (a1 : Int32) (a2 : Int32) (a3 : Int32)  : ∀ x, f_Mod_recursion N kk a1 a2 a3 α = some x → mC l g y_Mod_recursion b_Mod_recursion 12 (some .int) (850 + (d + 1)) (23826 + 31 * (d + 1)) [.ref (mad g 0), .int a1, .int a2, .int a3] α (mQr x) := by
  intro x h
  unfold f_Mod_recursion at h
  refine mc_ofW (by decide) (fun A p e s m args below meth c S hr hlocks hno hargs E hI => ?_)
  have hx := S.1
  have hb := S.2.1
  have hown := S.2.2.2.1
  have hT := S.2.2.2.2
  subst hargs
  have hl := lv_entry ([.ref (mad g 0), .int a1, .int a2, .int a3]) (n := 12) (Nat.le_of_ble_eq_true rfl)
  rw [lg_entry_eq]
  generalize (lg_sl ([.ref (mad g 0), .int a1, .int a2, .int a3]) ++ List.replicate (12 - (lg_sl ([.ref (mad g 0), .int a1, .int a2, .int a3])).length) Slot.unset).toArray = ls at hl ⊢
  have hl : lv_has ls 12 [(0, .ref (mad g 0)), (1, .int a1), (2, .int a2), (3, .int a3)] := hl
  refine lv_aload_n hx hb d_Mod_recursion_0 rfl (lv_at hl 0 rfl) ?_
  refine mf_one S E hI vt_1280 d_Mod_recursion_1 ?_
  refine lv_iload_n hx hb d_Mod_recursion_4 rfl (lv_at hl 2 rfl) ?_
  by_cases c1 : a2 < 0 ∨ 400000 ≤ (a2 : Int32).toNatClampNeg
  · replace h := Eq.trans (if_pos c1).symm h
    cases h
  · replace h := Eq.trans (if_neg c1).symm h
    refine ml_one S E hI c1 d_Mod_recursion_5 ?_
    refine lv_istore (lv' := [(4, .int (α.2 3 (a2 : Int32).toNatClampNeg)), (0, .ref (mad g 0)), (1, .int a1), (2, .int a2), (3, .int a3)]) hx hb d_Mod_recursion_6 hl (by decide) rfl (fun ls hl => ?_)
    refine lv_aload_n hx hb d_Mod_recursion_8 rfl (lv_at hl 1 rfl) ?_
    refine mf_parameters S E hI vt_1299 d_Mod_recursion_9 ?_
    refine lv_iload hx hb d_Mod_recursion_12 (lv_at hl 0 rfl) ?_
    by_cases c2 : (α.2 3 (a2 : Int32).toNatClampNeg) < 0 ∨ 301 ≤ ((α.2 3 (a2 : Int32).toNatClampNeg) : Int32).toNatClampNeg
    · replace h := Eq.trans (if_pos c2).symm h
      cases h
    · replace h := Eq.trans (if_neg c2).symm h
      refine ml_parameters S E hI c2 d_Mod_recursion_14 ?_
      refine lv_iconst (v := 1) hx hb d_Mod_recursion_15 (by decide) ?_
      refine lv_iadd hx hb d_Mod_recursion_16 ?_
      refine lv_aload_n hx hb d_Mod_recursion_17 rfl (lv_at hl 1 rfl) ?_
      refine mf_constructors S E hI vt_1301 d_Mod_recursion_18 ?_
      refine lv_iload hx hb d_Mod_recursion_21 (lv_at hl 0 rfl) ?_
      by_cases c3 : (α.2 3 (a2 : Int32).toNatClampNeg) < 0 ∨ 301 ≤ ((α.2 3 (a2 : Int32).toNatClampNeg) : Int32).toNatClampNeg
      · replace h := Eq.trans (if_pos c3).symm h
        cases h
      · replace h := Eq.trans (if_neg c3).symm h
        refine ml_constructors S E hI c3 d_Mod_recursion_23 ?_
        refine lv_iadd hx hb d_Mod_recursion_24 ?_
        refine lv_istore (lv' := [(5, .int (((α.2 15 ((α.2 3 (a2 : Int32).toNatClampNeg) : Int32).toNatClampNeg) + 1) + (α.2 17 ((α.2 3 (a2 : Int32).toNatClampNeg) : Int32).toNatClampNeg))), (4, .int (α.2 3 (a2 : Int32).toNatClampNeg)), (0, .ref (mad g 0)), (1, .int a1), (2, .int a2), (3, .int a3)]) hx hb d_Mod_recursion_25 hl (by decide) rfl (fun ls hl => ?_)
        refine lv_iload hx hb d_Mod_recursion_27 (lv_at hl 0 rfl) ?_
        refine lv_aload_n hx hb d_Mod_recursion_29 rfl (lv_at hl 2 rfl) ?_
        refine mf_indices S E hI vt_1300 d_Mod_recursion_30 ?_
        refine lv_iload hx hb d_Mod_recursion_33 (lv_at hl 1 rfl) ?_
        by_cases c4 : (α.2 3 (a2 : Int32).toNatClampNeg) < 0 ∨ 301 ≤ ((α.2 3 (a2 : Int32).toNatClampNeg) : Int32).toNatClampNeg
        · replace h := Eq.trans (if_pos c4).symm h
          cases h
        · replace h := Eq.trans (if_neg c4).symm h
          refine ml_indices S E hI c4 d_Mod_recursion_35 ?_
          refine lv_iadd hx hb d_Mod_recursion_36 ?_
          refine lv_istore (lv' := [(6, .int ((((α.2 15 ((α.2 3 (a2 : Int32).toNatClampNeg) : Int32).toNatClampNeg) + 1) + (α.2 17 ((α.2 3 (a2 : Int32).toNatClampNeg) : Int32).toNatClampNeg)) + (α.2 16 ((α.2 3 (a2 : Int32).toNatClampNeg) : Int32).toNatClampNeg))), (5, .int (((α.2 15 ((α.2 3 (a2 : Int32).toNatClampNeg) : Int32).toNatClampNeg) + 1) + (α.2 17 ((α.2 3 (a2 : Int32).toNatClampNeg) : Int32).toNatClampNeg))), (4, .int (α.2 3 (a2 : Int32).toNatClampNeg)), (0, .ref (mad g 0)), (1, .int a1), (2, .int a2), (3, .int a3)]) hx hb d_Mod_recursion_37 hl (by decide) rfl (fun ls hl => ?_)
          refine lv_iload_n hx hb d_Mod_recursion_39 rfl (lv_at hl 6 rfl) ?_
          refine lv_iload hx hb d_Mod_recursion_40 (lv_at hl 0 rfl) ?_
          refine lv_icmp_gt (tgt := 47) hx hb d_Mod_recursion_42 (by decide) (fun c5 => ?_) (fun c5 => ?_)
          · replace h := Eq.trans (if_pos c5).symm h
            refine lv_aload_n hx hb d_Mod_recursion_47 rfl (lv_at hl 3 rfl) ?_
            refine mf_majors S E hI vt_1326 d_Mod_recursion_48 ?_
            refine lv_bipush (v := 60) hx hb d_Mod_recursion_51 (by decide) ?_
            refine lv_icmp_ne (tgt := 62) hx hb d_Mod_recursion_53 (by decide) (fun c6 => ?_) (fun c6 => ?_)
            · replace h := Eq.trans (if_neg c6).symm h
              refine lv_aload_n hx hb d_Mod_recursion_62 rfl (lv_at hl 3 rfl) ?_
              refine lv_dup hx hb d_Mod_recursion_63 rfl ?_
              refine mf_majors S E hI vt_1326 d_Mod_recursion_64 ?_
              refine lv_iconst (v := 1) hx hb d_Mod_recursion_67 (by decide) ?_
              refine lv_iadd hx hb d_Mod_recursion_68 ?_
              refine mp_majors S E hI vt_1326 d_Mod_recursion_69 (fun H locs hI => ?_)
              refine lv_aload_n hx hb d_Mod_recursion_72 rfl (lv_at hl 3 rfl) ?_
              refine lv_aload_n hx hb d_Mod_recursion_73 rfl (lv_at hl 3 rfl) ?_
              refine lv_iload_n hx hb d_Mod_recursion_74 rfl (lv_at hl 4 rfl) ?_
              refine lv_iload_n hx hb d_Mod_recursion_75 rfl (lv_at hl 6 rfl) ?_
              refine lv_iload hx hb d_Mod_recursion_76 (lv_at hl 0 rfl) ?_
              obtain ⟨v7, e8, h⟩ := Option.bind_eq_some_iff.mp h
              refine mg_p (As := [.int a1, .int a3, .int ((((α.2 15 ((α.2 3 (a2 : Int32).toNatClampNeg) : Int32).toNatClampNeg) + 1) + (α.2 17 ((α.2 3 (a2 : Int32).toNatClampNeg) : Int32).toNatClampNeg)) + (α.2 16 ((α.2 3 (a2 : Int32).toNatClampNeg) : Int32).toNatClampNeg))]) (rest := [.ref (mad g 0)]) ((k_Mod_nth (l := l) (g := g) (α := (mSi α 24 ((α.1 24) + 1))) N a1 a3 ((((α.2 15 ((α.2 3 (a2 : Int32).toNatClampNeg) : Int32).toNatClampNeg) + 1) + (α.2 17 ((α.2 3 (a2 : Int32).toNatClampNeg) : Int32).toNatClampNeg)) + (α.2 16 ((α.2 3 (a2 : Int32).toNatClampNeg) : Int32).toNatClampNeg))) _ e8) S E hI kw_Mod_440 (Or.inl rfl) ⟨by omega, by omega⟩ (mv_Mod E hI) rfl hl.1 rfl (Nat.le_of_ble_eq_true rfl) d_Mod_recursion_78 rfl ?_
              refine mg_cI (As := [.int v7]) (rest := []) h (hk.2.2 v7 (mSi α 24 ((α.1 24) + 1))) S hlocks hno E hI kw_Mod_458 ⟨by omega, by omega⟩ (mv_Mod E hI) rfl hl.1 rfl (Nat.le_of_ble_eq_true rfl) d_Mod_recursion_81 (fun v11 α9 H locs e10 h hI => ?_)
              refine lv_istore (lv' := [(7, .int v11), (6, .int ((((α.2 15 ((α.2 3 (a2 : Int32).toNatClampNeg) : Int32).toNatClampNeg) + 1) + (α.2 17 ((α.2 3 (a2 : Int32).toNatClampNeg) : Int32).toNatClampNeg)) + (α.2 16 ((α.2 3 (a2 : Int32).toNatClampNeg) : Int32).toNatClampNeg))), (5, .int (((α.2 15 ((α.2 3 (a2 : Int32).toNatClampNeg) : Int32).toNatClampNeg) + 1) + (α.2 17 ((α.2 3 (a2 : Int32).toNatClampNeg) : Int32).toNatClampNeg))), (4, .int (α.2 3 (a2 : Int32).toNatClampNeg)), (0, .ref (mad g 0)), (1, .int a1), (2, .int a2), (3, .int a3)]) hx hb d_Mod_recursion_84 hl (by decide) rfl (fun ls hl => ?_)
              refine lv_aload_n hx hb d_Mod_recursion_86 rfl (lv_at hl 4 rfl) ?_
              refine lv_dup hx hb d_Mod_recursion_87 rfl ?_
              refine mf_majors S E hI vt_1326 d_Mod_recursion_88 ?_
              refine lv_iconst (v := 1) hx hb d_Mod_recursion_91 (by decide) ?_
              refine lv_isub hx hb d_Mod_recursion_92 ?_
              refine mp_majors S E hI vt_1326 d_Mod_recursion_93 (fun H locs hI => ?_)
              refine lv_aload_n hx hb d_Mod_recursion_96 rfl (lv_at hl 4 rfl) ?_
              refine lv_iload hx hb d_Mod_recursion_97 (lv_at hl 0 rfl) ?_
              obtain ⟨v12, e13, h⟩ := Option.bind_eq_some_iff.mp h
              refine mg_p (As := [.int v11]) (rest := []) ((k_Mod_head (l := l) (g := g) (α := (mSi α9 24 ((α9.1 24) - 1))) N v11) _ e13) S E hI kw_Mod_446 (Or.inl rfl) ⟨by omega, by omega⟩ (mv_Mod E hI) rfl hl.1 rfl (Nat.le_of_ble_eq_true rfl) d_Mod_recursion_99 rfl ?_
              refine lv_istore (lv' := [(8, .int v12), (7, .int v11), (6, .int ((((α.2 15 ((α.2 3 (a2 : Int32).toNatClampNeg) : Int32).toNatClampNeg) + 1) + (α.2 17 ((α.2 3 (a2 : Int32).toNatClampNeg) : Int32).toNatClampNeg)) + (α.2 16 ((α.2 3 (a2 : Int32).toNatClampNeg) : Int32).toNatClampNeg))), (5, .int (((α.2 15 ((α.2 3 (a2 : Int32).toNatClampNeg) : Int32).toNatClampNeg) + 1) + (α.2 17 ((α.2 3 (a2 : Int32).toNatClampNeg) : Int32).toNatClampNeg))), (4, .int (α.2 3 (a2 : Int32).toNatClampNeg)), (0, .ref (mad g 0)), (1, .int a1), (2, .int a2), (3, .int a3)]) hx hb d_Mod_recursion_102 hl (by decide) rfl (fun ls hl => ?_)
              refine lv_aload_n hx hb d_Mod_recursion_104 rfl (lv_at hl 5 rfl) ?_
              refine lv_iload hx hb d_Mod_recursion_105 (lv_at hl 1 rfl) ?_
              obtain ⟨v14, e15, h⟩ := Option.bind_eq_some_iff.mp h
              refine mg_p (As := [.int v11]) (rest := []) ((k_Mod_behind (l := l) (g := g) (α := (mSi α9 24 ((α9.1 24) - 1))) N v11) _ e15) S E hI kw_Mod_449 (Or.inl rfl) ⟨by omega, by omega⟩ (mv_Mod E hI) rfl hl.1 rfl (Nat.le_of_ble_eq_true rfl) d_Mod_recursion_107 rfl ?_
              refine lv_istore (lv' := [(9, .int v14), (8, .int v12), (7, .int v11), (6, .int ((((α.2 15 ((α.2 3 (a2 : Int32).toNatClampNeg) : Int32).toNatClampNeg) + 1) + (α.2 17 ((α.2 3 (a2 : Int32).toNatClampNeg) : Int32).toNatClampNeg)) + (α.2 16 ((α.2 3 (a2 : Int32).toNatClampNeg) : Int32).toNatClampNeg))), (5, .int (((α.2 15 ((α.2 3 (a2 : Int32).toNatClampNeg) : Int32).toNatClampNeg) + 1) + (α.2 17 ((α.2 3 (a2 : Int32).toNatClampNeg) : Int32).toNatClampNeg))), (4, .int (α.2 3 (a2 : Int32).toNatClampNeg)), (0, .ref (mad g 0)), (1, .int a1), (2, .int a2), (3, .int a3)]) hx hb d_Mod_recursion_110 hl (by decide) rfl (fun ls hl => ?_)
              refine lv_aload_n hx hb d_Mod_recursion_112 rfl (lv_at hl 6 rfl) ?_
              refine mf_kind S E hI vt_1279 d_Mod_recursion_113 ?_
              refine lv_iload hx hb d_Mod_recursion_116 (lv_at hl 1 rfl) ?_
              by_cases c16 : v12 < 0 ∨ 400000 ≤ (v12 : Int32).toNatClampNeg
              · replace h := Eq.trans (if_pos c16).symm h
                cases h
              · replace h := Eq.trans (if_neg c16).symm h
                refine ml_kind S E hI c16 d_Mod_recursion_118 ?_
                refine lv_iconst (v := 1) hx hb d_Mod_recursion_119 (by decide) ?_
                refine lv_icmp_ne (tgt := 181) hx hb d_Mod_recursion_120 (by decide) (fun c17 => ?_) (fun c17 => ?_)
                · replace h := Eq.trans (if_neg c17).symm h
                  refine lv_iconst (v := (-1)) hx hb d_Mod_recursion_181 (by decide) ?_
                  exact mc_iret (w := (-1)) hx hb hr rfl hlocks E hI h d_Mod_recursion_182
                · replace h := Eq.trans (if_pos c17).symm h
                  refine lv_aload_n hx hb d_Mod_recursion_123 rfl (lv_at hl 6 rfl) ?_
                  refine mf_sortOf S E hI vt_1296 d_Mod_recursion_124 ?_
                  refine lv_aload_n hx hb d_Mod_recursion_127 rfl (lv_at hl 6 rfl) ?_
                  refine mf_one S E hI vt_1280 d_Mod_recursion_128 ?_
                  refine lv_iload hx hb d_Mod_recursion_131 (lv_at hl 1 rfl) ?_
                  by_cases c18 : v12 < 0 ∨ 400000 ≤ (v12 : Int32).toNatClampNeg
                  · replace h := Eq.trans (if_pos c18).symm h
                    cases h
                  · replace h := Eq.trans (if_neg c18).symm h
                    refine ml_one S E hI c18 d_Mod_recursion_133 ?_
                    by_cases c19 : ((mSi α9 24 ((α9.1 24) - 1)).2 3 (v12 : Int32).toNatClampNeg) < 0 ∨ 301 ≤ (((mSi α9 24 ((α9.1 24) - 1)).2 3 (v12 : Int32).toNatClampNeg) : Int32).toNatClampNeg
                    · replace h := Eq.trans (if_pos c19).symm h
                      cases h
                    · replace h := Eq.trans (if_neg c19).symm h
                      refine ml_sortOf S E hI c19 d_Mod_recursion_134 ?_
                      refine lv_iconst (v := 4) hx hb d_Mod_recursion_135 (by decide) ?_
                      refine lv_icmp_ne (tgt := 181) hx hb d_Mod_recursion_136 (by decide) (fun c20 => ?_) (fun c20 => ?_)
                      · replace h := Eq.trans (if_neg c20).symm h
                        refine lv_iconst (v := (-1)) hx hb d_Mod_recursion_181 (by decide) ?_
                        exact mc_iret (w := (-1)) hx hb hr rfl hlocks E hI h d_Mod_recursion_182
                      · replace h := Eq.trans (if_pos c20).symm h
                        refine lv_aload_n hx hb d_Mod_recursion_139 rfl (lv_at hl 6 rfl) ?_
                        refine mf_family S E hI vt_1307 d_Mod_recursion_140 ?_
                        refine lv_aload_n hx hb d_Mod_recursion_143 rfl (lv_at hl 6 rfl) ?_
                        refine mf_one S E hI vt_1280 d_Mod_recursion_144 ?_
                        refine lv_iload hx hb d_Mod_recursion_147 (lv_at hl 1 rfl) ?_
                        by_cases c21 : v12 < 0 ∨ 400000 ≤ (v12 : Int32).toNatClampNeg
                        · replace h := Eq.trans (if_pos c21).symm h
                          cases h
                        · replace h := Eq.trans (if_neg c21).symm h
                          refine ml_one S E hI c21 d_Mod_recursion_149 ?_
                          by_cases c22 : ((mSi α9 24 ((α9.1 24) - 1)).2 3 (v12 : Int32).toNatClampNeg) < 0 ∨ 301 ≤ (((mSi α9 24 ((α9.1 24) - 1)).2 3 (v12 : Int32).toNatClampNeg) : Int32).toNatClampNeg
                          · replace h := Eq.trans (if_pos c22).symm h
                            cases h
                          · replace h := Eq.trans (if_neg c22).symm h
                            refine ml_family S E hI c22 d_Mod_recursion_150 ?_
                            refine lv_iload hx hb d_Mod_recursion_151 (lv_at hl 5 rfl) ?_
                            refine lv_icmp_ne (tgt := 181) hx hb d_Mod_recursion_153 (by decide) (fun c23 => ?_) (fun c23 => ?_)
                            · replace h := Eq.trans (if_neg c23).symm h
                              refine lv_iconst (v := (-1)) hx hb d_Mod_recursion_181 (by decide) ?_
                              exact mc_iret (w := (-1)) hx hb hr rfl hlocks E hI h d_Mod_recursion_182
                            · replace h := Eq.trans (if_pos c23).symm h
                              refine lv_iload hx hb d_Mod_recursion_156 (lv_at hl 0 rfl) ?_
                              refine lv_aload_n hx hb d_Mod_recursion_158 rfl (lv_at hl 6 rfl) ?_
                              refine mf_parameters S E hI vt_1299 d_Mod_recursion_159 ?_
                              refine lv_iload hx hb d_Mod_recursion_162 (lv_at hl 5 rfl) ?_
                              by_cases c24 : (α.2 3 (a2 : Int32).toNatClampNeg) < 0 ∨ 301 ≤ ((α.2 3 (a2 : Int32).toNatClampNeg) : Int32).toNatClampNeg
                              · replace h := Eq.trans (if_pos c24).symm h
                                cases h
                              · replace h := Eq.trans (if_neg c24).symm h
                                refine ml_parameters S E hI c24 d_Mod_recursion_164 ?_
                                refine lv_aload_n hx hb d_Mod_recursion_165 rfl (lv_at hl 6 rfl) ?_
                                refine mf_arguments S E hI vt_1302 d_Mod_recursion_166 ?_
                                refine lv_aload_n hx hb d_Mod_recursion_169 rfl (lv_at hl 6 rfl) ?_
                                refine mf_one S E hI vt_1280 d_Mod_recursion_170 ?_
                                refine lv_iload hx hb d_Mod_recursion_173 (lv_at hl 1 rfl) ?_
                                by_cases c25 : v12 < 0 ∨ 400000 ≤ (v12 : Int32).toNatClampNeg
                                · replace h := Eq.trans (if_pos c25).symm h
                                  cases h
                                · replace h := Eq.trans (if_neg c25).symm h
                                  refine ml_one S E hI c25 d_Mod_recursion_175 ?_
                                  by_cases c26 : ((mSi α9 24 ((α9.1 24) - 1)).2 3 (v12 : Int32).toNatClampNeg) < 0 ∨ 301 ≤ (((mSi α9 24 ((α9.1 24) - 1)).2 3 (v12 : Int32).toNatClampNeg) : Int32).toNatClampNeg
                                  · replace h := Eq.trans (if_pos c26).symm h
                                    cases h
                                  · replace h := Eq.trans (if_neg c26).symm h
                                    refine ml_arguments S E hI c26 d_Mod_recursion_176 ?_
                                    refine lv_iadd hx hb d_Mod_recursion_177 ?_
                                    refine lv_icmp_eq (tgt := 183) hx hb d_Mod_recursion_178 (by decide) (fun c27 => ?_) (fun c27 => ?_)
                                    · replace h := Eq.trans (if_pos c27).symm h
                                      refine lv_aload_n hx hb d_Mod_recursion_183 rfl (lv_at hl 6 rfl) ?_
                                      refine lv_aload_n hx hb d_Mod_recursion_184 rfl (lv_at hl 6 rfl) ?_
                                      refine mf_rule S E hI vt_1306 d_Mod_recursion_185 ?_
                                      refine lv_aload_n hx hb d_Mod_recursion_188 rfl (lv_at hl 6 rfl) ?_
                                      refine mf_one S E hI vt_1280 d_Mod_recursion_189 ?_
                                      refine lv_iload hx hb d_Mod_recursion_192 (lv_at hl 1 rfl) ?_
                                      by_cases c28 : v12 < 0 ∨ 400000 ≤ (v12 : Int32).toNatClampNeg
                                      · replace h := Eq.trans (if_pos c28).symm h
                                        cases h
                                      · replace h := Eq.trans (if_neg c28).symm h
                                        refine ml_one S E hI c28 d_Mod_recursion_194 ?_
                                        by_cases c29 : ((mSi α9 24 ((α9.1 24) - 1)).2 3 (v12 : Int32).toNatClampNeg) < 0 ∨ 301 ≤ (((mSi α9 24 ((α9.1 24) - 1)).2 3 (v12 : Int32).toNatClampNeg) : Int32).toNatClampNeg
                                        · replace h := Eq.trans (if_pos c29).symm h
                                          cases h
                                        · replace h := Eq.trans (if_neg c29).symm h
                                          refine ml_rule S E hI c29 d_Mod_recursion_195 ?_
                                          refine lv_aload_n hx hb d_Mod_recursion_196 rfl (lv_at hl 6 rfl) ?_
                                          refine mf_two S E hI vt_1281 d_Mod_recursion_197 ?_
                                          refine lv_iload_n hx hb d_Mod_recursion_200 rfl (lv_at hl 8 rfl) ?_
                                          by_cases c30 : a2 < 0 ∨ 400000 ≤ (a2 : Int32).toNatClampNeg
                                          · replace h := Eq.trans (if_pos c30).symm h
                                            cases h
                                          · replace h := Eq.trans (if_neg c30).symm h
                                            refine ml_two S E hI c30 d_Mod_recursion_201 ?_
                                            refine mg_cI (As := [.int ((mSi α9 24 ((α9.1 24) - 1)).2 22 (((mSi α9 24 ((α9.1 24) - 1)).2 3 (v12 : Int32).toNatClampNeg) : Int32).toNatClampNeg), .int ((mSi α9 24 ((α9.1 24) - 1)).2 4 (a2 : Int32).toNatClampNeg)]) (rest := []) h (k_Mod_leveled (l := l) (g := g) (α := (mSi α9 24 ((α9.1 24) - 1))) N ((mSi α9 24 ((α9.1 24) - 1)).2 22 (((mSi α9 24 ((α9.1 24) - 1)).2 3 (v12 : Int32).toNatClampNeg) : Int32).toNatClampNeg) ((mSi α9 24 ((α9.1 24) - 1)).2 4 (a2 : Int32).toNatClampNeg)) S hlocks hno E hI kw_Mod_461 ⟨by omega, by omega⟩ (mv_Mod E hI) rfl hl.1 rfl (Nat.le_of_ble_eq_true rfl) d_Mod_recursion_202 (fun v33 α31 H locs e32 h hI => ?_)
                                            refine lv_istore (lv' := [(10, .int v33), (9, .int v14), (8, .int v12), (7, .int v11), (6, .int ((((α.2 15 ((α.2 3 (a2 : Int32).toNatClampNeg) : Int32).toNatClampNeg) + 1) + (α.2 17 ((α.2 3 (a2 : Int32).toNatClampNeg) : Int32).toNatClampNeg)) + (α.2 16 ((α.2 3 (a2 : Int32).toNatClampNeg) : Int32).toNatClampNeg))), (5, .int (((α.2 15 ((α.2 3 (a2 : Int32).toNatClampNeg) : Int32).toNatClampNeg) + 1) + (α.2 17 ((α.2 3 (a2 : Int32).toNatClampNeg) : Int32).toNatClampNeg))), (4, .int (α.2 3 (a2 : Int32).toNatClampNeg)), (0, .ref (mad g 0)), (1, .int a1), (2, .int a2), (3, .int a3)]) hx hb d_Mod_recursion_205 hl (by decide) rfl (fun ls hl => ?_)
                                            refine lv_iconst (v := 0) hx hb d_Mod_recursion_207 (by decide) ?_
                                            refine lv_istore (lv' := [(11, .int 0), (10, .int v33), (9, .int v14), (8, .int v12), (7, .int v11), (6, .int ((((α.2 15 ((α.2 3 (a2 : Int32).toNatClampNeg) : Int32).toNatClampNeg) + 1) + (α.2 17 ((α.2 3 (a2 : Int32).toNatClampNeg) : Int32).toNatClampNeg)) + (α.2 16 ((α.2 3 (a2 : Int32).toNatClampNeg) : Int32).toNatClampNeg))), (5, .int (((α.2 15 ((α.2 3 (a2 : Int32).toNatClampNeg) : Int32).toNatClampNeg) + 1) + (α.2 17 ((α.2 3 (a2 : Int32).toNatClampNeg) : Int32).toNatClampNeg))), (4, .int (α.2 3 (a2 : Int32).toNatClampNeg)), (0, .ref (mad g 0)), (1, .int a1), (2, .int a2), (3, .int a3)]) hx hb d_Mod_recursion_208 hl (by decide) rfl (fun ls hl => ?_)
                                            have L210 : ∀ (n210 : Nat) (x11_210 : Int32) (x10_210 : Int32) (x9_210 : Int32) (x7_210 : Int32) (x6_210 : Int32) (x5_210 : Int32) (x4_210 : Int32) (x1_210 : Int32) (x3_210 : Int32) (β210 : mS) (H : Heap) (locs : List Loc) (ls : Array Slot), f_Mod_recursion_210 N kk n210 x11_210 x10_210 x9_210 x7_210 x6_210 x5_210 x4_210 x1_210 x3_210 β210 = some x → mI g A s β210 H locs → lv_has ls 12 [(11, .int x11_210), (10, .int x10_210), (9, .int x9_210), (7, .int x7_210), (6, .int x6_210), (5, .int x5_210), (4, .int x4_210), (0, .ref (mad g 0)), (1, .int x1_210), (3, .int x3_210)] → W p l e (mR (850 + (d + 1)) (23826 + 31 * (d + 1))) s m ([.ref (mad g 0), .int a1, .int a2, .int a3]).toArray below meth c H locs 0 0 (vEQ below (mQ g A (mQr x)) ([.ref (mad g 0), .int a1, .int a2, .int a3]).toArray s A) (F0 m 210 ls []) := by
                                              intro n210
                                              induction n210 with
                                              | zero => intro x11_210 x10_210 x9_210 x7_210 x6_210 x5_210 x4_210 x1_210 x3_210 β210 H locs ls h hI hl; rw [f_Mod_recursion_210] at h; cases h
                                              | succ n210 ih210 =>
                                                intro x11_210 x10_210 x9_210 x7_210 x6_210 x5_210 x4_210 x1_210 x3_210 β210 H locs ls h hI hl
                                                rw [f_Mod_recursion_210] at h
                                                refine lv_iload hx hb d_Mod_recursion_210 (lv_at hl 0 rfl) ?_
                                                refine lv_iload hx hb d_Mod_recursion_212 (lv_at hl 5 rfl) ?_
                                                refine lv_icmp_ge (tgt := 239) hx hb d_Mod_recursion_214 (by decide) (fun c34 => ?_) (fun c34 => ?_)
                                                · replace h := Eq.trans (if_pos c34).symm h
                                                  refine lv_aload_n hx hb d_Mod_recursion_239 rfl (lv_at hl 7 rfl) ?_
                                                  refine mf_parameters S E hI vt_1299 d_Mod_recursion_240 ?_
                                                  refine lv_iload hx hb d_Mod_recursion_243 (lv_at hl 6 rfl) ?_
                                                  by_cases c35 : x4_210 < 0 ∨ 301 ≤ (x4_210 : Int32).toNatClampNeg
                                                  · replace h := Eq.trans (if_pos c35).symm h
                                                    cases h
                                                  · replace h := Eq.trans (if_neg c35).symm h
                                                    refine ml_parameters S E hI c35 d_Mod_recursion_245 ?_
                                                    refine lv_istore (lv' := [(11, .int (β210.2 15 (x4_210 : Int32).toNatClampNeg)), (10, .int x10_210), (9, .int x9_210), (7, .int x7_210), (6, .int x6_210), (5, .int x5_210), (4, .int x4_210), (0, .ref (mad g 0)), (1, .int x1_210), (3, .int x3_210)]) hx hb d_Mod_recursion_246 hl (by decide) rfl (fun ls hl => ?_)
                                                    have L248 : ∀ (n248 : Nat) (x11_248 : Int32) (x10_248 : Int32) (x9_248 : Int32) (x7_248 : Int32) (x6_248 : Int32) (x1_248 : Int32) (x3_248 : Int32) (β248 : mS) (H : Heap) (locs : List Loc) (ls : Array Slot), f_Mod_recursion_248 N kk n248 x11_248 x10_248 x9_248 x7_248 x6_248 x1_248 x3_248 β248 = some x → mI g A s β248 H locs → lv_has ls 12 [(11, .int x11_248), (10, .int x10_248), (9, .int x9_248), (7, .int x7_248), (6, .int x6_248), (0, .ref (mad g 0)), (1, .int x1_248), (3, .int x3_248)] → W p l e (mR (850 + (d + 1)) (23826 + 31 * (d + 1))) s m ([.ref (mad g 0), .int a1, .int a2, .int a3]).toArray below meth c H locs 0 0 (vEQ below (mQ g A (mQr x)) ([.ref (mad g 0), .int a1, .int a2, .int a3]).toArray s A) (F0 m 248 ls []) := by
                                                      intro n248
                                                      induction n248 with
                                                      | zero => intro x11_248 x10_248 x9_248 x7_248 x6_248 x1_248 x3_248 β248 H locs ls h hI hl; rw [f_Mod_recursion_248] at h; cases h
                                                      | succ n248 ih248 =>
                                                        intro x11_248 x10_248 x9_248 x7_248 x6_248 x1_248 x3_248 β248 H locs ls h hI hl
                                                        rw [f_Mod_recursion_248] at h
                                                        refine lv_iload hx hb d_Mod_recursion_248 (lv_at hl 0 rfl) ?_
                                                        refine lv_iload hx hb d_Mod_recursion_250 (lv_at hl 2 rfl) ?_
                                                        refine lv_icmp_ge (tgt := 279) hx hb d_Mod_recursion_252 (by decide) (fun c36 => ?_) (fun c36 => ?_)
                                                        · replace h := Eq.trans (if_pos c36).symm h
                                                          refine lv_aload_n hx hb d_Mod_recursion_279 rfl (lv_at hl 5 rfl) ?_
                                                          refine lv_iload hx hb d_Mod_recursion_280 (lv_at hl 1 rfl) ?_
                                                          refine lv_iload_n hx hb d_Mod_recursion_282 rfl (lv_at hl 6 rfl) ?_
                                                          refine lv_iload_n hx hb d_Mod_recursion_283 rfl (lv_at hl 7 rfl) ?_
                                                          refine lv_iload hx hb d_Mod_recursion_284 (lv_at hl 4 rfl) ?_
                                                          refine lv_iconst (v := 1) hx hb d_Mod_recursion_286 (by decide) ?_
                                                          refine lv_iadd hx hb d_Mod_recursion_287 ?_
                                                          refine mg_cI (As := [.int x10_248, .int x1_248, .int x3_248, .int (x6_248 + 1)]) (rest := []) h (k_Mod_with (l := l) (g := g) (α := β248) N x10_248 x1_248 x3_248 (x6_248 + 1)) S hlocks hno E hI kw_Mod_452 ⟨by omega, by omega⟩ (mv_Mod E hI) rfl hl.1 rfl (Nat.le_of_ble_eq_true rfl) d_Mod_recursion_288 (fun v39 α37 H locs e38 h hI => ?_)
                                                          exact mc_iret (w := v39) hx hb hr rfl hlocks E hI h d_Mod_recursion_291
                                                        · replace h := Eq.trans (if_neg c36).symm h
                                                          refine lv_aload_n hx hb d_Mod_recursion_255 rfl (lv_at hl 5 rfl) ?_
                                                          refine lv_iload hx hb d_Mod_recursion_256 (lv_at hl 1 rfl) ?_
                                                          refine lv_aload_n hx hb d_Mod_recursion_258 rfl (lv_at hl 5 rfl) ?_
                                                          refine lv_iload hx hb d_Mod_recursion_259 (lv_at hl 3 rfl) ?_
                                                          refine lv_iload hx hb d_Mod_recursion_261 (lv_at hl 2 rfl) ?_
                                                          refine lv_iload hx hb d_Mod_recursion_263 (lv_at hl 0 rfl) ?_
                                                          obtain ⟨v40, e41, h⟩ := Option.bind_eq_some_iff.mp h
                                                          refine mg_p (As := [.int x7_248, .int x9_248, .int x11_248]) (rest := [.int x10_248, .ref (mad g 0)]) ((k_Mod_nth (l := l) (g := g) (α := β248) N x7_248 x9_248 x11_248) _ e41) S E hI kw_Mod_440 (Or.inl rfl) ⟨by omega, by omega⟩ (mv_Mod E hI) rfl hl.1 rfl (Nat.le_of_ble_eq_true rfl) d_Mod_recursion_265 rfl ?_
                                                          refine mg_cI (As := [.int x10_248, .int v40]) (rest := []) h (k_Mod_apply (l := l) (g := g) (α := β248) N x10_248 v40) S hlocks hno E hI kw_Mod_350 ⟨by omega, by omega⟩ (mv_Mod E hI) rfl hl.1 rfl (Nat.le_of_ble_eq_true rfl) d_Mod_recursion_268 (fun v44 α42 H locs e43 h hI => ?_)
                                                          refine lv_istore (lv' := [(10, .int v44), (11, .int x11_248), (9, .int x9_248), (7, .int x7_248), (6, .int x6_248), (0, .ref (mad g 0)), (1, .int x1_248), (3, .int x3_248)]) hx hb d_Mod_recursion_271 hl (by decide) rfl (fun ls hl => ?_)
                                                          refine lv_iinc (v := (x11_248 + 1)) (lv' := [(11, .int (x11_248 + 1)), (10, .int v44), (9, .int x9_248), (7, .int x7_248), (6, .int x6_248), (0, .ref (mad g 0)), (1, .int x1_248), (3, .int x3_248)]) hx hb d_Mod_recursion_273 hl (k := 1) rfl rfl (by decide) rfl (fun ls hl => ?_)
                                                          refine lv_goto (tgt := 248) hx hb d_Mod_recursion_276 (by decide) ?_
                                                          exact ih248 (x11_248 + 1) v44 x9_248 x7_248 x6_248 x1_248 x3_248 _ _ _ _ h hI (lv_sub hl [0, 1, 2, 3, 4, 5, 6, 7] rfl)
                                                    exact L248 N (β210.2 15 (x4_210 : Int32).toNatClampNeg) x10_210 x9_210 x7_210 x6_210 x1_210 x3_210 _ _ _ _ h hI (lv_sub hl [0, 1, 2, 3, 4, 7, 8, 9] rfl)
                                                · replace h := Eq.trans (if_neg c34).symm h
                                                  refine lv_aload_n hx hb d_Mod_recursion_217 rfl (lv_at hl 7 rfl) ?_
                                                  refine lv_iload hx hb d_Mod_recursion_218 (lv_at hl 1 rfl) ?_
                                                  refine lv_aload_n hx hb d_Mod_recursion_220 rfl (lv_at hl 7 rfl) ?_
                                                  refine lv_iload_n hx hb d_Mod_recursion_221 rfl (lv_at hl 8 rfl) ?_
                                                  refine lv_iload_n hx hb d_Mod_recursion_222 rfl (lv_at hl 9 rfl) ?_
                                                  refine lv_iload hx hb d_Mod_recursion_223 (lv_at hl 0 rfl) ?_
                                                  obtain ⟨v45, e46, h⟩ := Option.bind_eq_some_iff.mp h
                                                  refine mg_p (As := [.int x1_210, .int x3_210, .int x11_210]) (rest := [.int x10_210, .ref (mad g 0)]) ((k_Mod_nth (l := l) (g := g) (α := β210) N x1_210 x3_210 x11_210) _ e46) S E hI kw_Mod_440 (Or.inl rfl) ⟨by omega, by omega⟩ (mv_Mod E hI) rfl hl.1 rfl (Nat.le_of_ble_eq_true rfl) d_Mod_recursion_225 rfl ?_
                                                  refine mg_cI (As := [.int x10_210, .int v45]) (rest := []) h (k_Mod_apply (l := l) (g := g) (α := β210) N x10_210 v45) S hlocks hno E hI kw_Mod_350 ⟨by omega, by omega⟩ (mv_Mod E hI) rfl hl.1 rfl (Nat.le_of_ble_eq_true rfl) d_Mod_recursion_228 (fun v49 α47 H locs e48 h hI => ?_)
                                                  refine lv_istore (lv' := [(10, .int v49), (11, .int x11_210), (9, .int x9_210), (7, .int x7_210), (6, .int x6_210), (5, .int x5_210), (4, .int x4_210), (0, .ref (mad g 0)), (1, .int x1_210), (3, .int x3_210)]) hx hb d_Mod_recursion_231 hl (by decide) rfl (fun ls hl => ?_)
                                                  refine lv_iinc (v := (x11_210 + 1)) (lv' := [(11, .int (x11_210 + 1)), (10, .int v49), (9, .int x9_210), (7, .int x7_210), (6, .int x6_210), (5, .int x5_210), (4, .int x4_210), (0, .ref (mad g 0)), (1, .int x1_210), (3, .int x3_210)]) hx hb d_Mod_recursion_233 hl (k := 1) rfl rfl (by decide) rfl (fun ls hl => ?_)
                                                  refine lv_goto (tgt := 210) hx hb d_Mod_recursion_236 (by decide) ?_
                                                  exact ih210 (x11_210 + 1) v49 x9_210 x7_210 x6_210 x5_210 x4_210 x1_210 x3_210 _ _ _ _ h hI (lv_sub hl [0, 1, 2, 3, 4, 5, 6, 7, 8, 9] rfl)
                                            exact L210 N 0 v33 v14 v11 ((((α.2 15 ((α.2 3 (a2 : Int32).toNatClampNeg) : Int32).toNatClampNeg) + 1) + (α.2 17 ((α.2 3 (a2 : Int32).toNatClampNeg) : Int32).toNatClampNeg)) + (α.2 16 ((α.2 3 (a2 : Int32).toNatClampNeg) : Int32).toNatClampNeg)) (((α.2 15 ((α.2 3 (a2 : Int32).toNatClampNeg) : Int32).toNatClampNeg) + 1) + (α.2 17 ((α.2 3 (a2 : Int32).toNatClampNeg) : Int32).toNatClampNeg)) (α.2 3 (a2 : Int32).toNatClampNeg) a1 a3 _ _ _ _ h hI (lv_sub hl [0, 1, 2, 4, 5, 6, 7, 8, 9, 11] rfl)
                                    · replace h := Eq.trans (if_neg c27).symm h
                                      refine lv_iconst (v := (-1)) hx hb d_Mod_recursion_181 (by decide) ?_
                                      exact mc_iret (w := (-1)) hx hb hr rfl hlocks E hI h d_Mod_recursion_182
            · replace h := Eq.trans (if_pos c6).symm h
              refine lv_bipush (v := 10) hx hb d_Mod_recursion_56 (by decide) ?_
              refine mg_fails S E hI kw_Mod_323 hl.1 ⟨by omega, by omega⟩ (Nat.le_of_ble_eq_true rfl) d_Mod_recursion_58 (fun q H locs hN => ?_)
              exact mg_athrow S hlocks hno E hN h d_Mod_recursion_61
          · replace h := Eq.trans (if_neg c5).symm h
            refine lv_iconst (v := (-1)) hx hb d_Mod_recursion_45 (by decide) ?_
            exact mc_iret (w := (-1)) hx hb hr rfl hlocks E hI h d_Mod_recursion_46
theorem kw_Mod_455 : kWv "FamilyKernelModel" 455 "FamilyKernelModel" y_Mod_recursion b_Mod_recursion 12 (some .int) 3 := ⟨vt_1640, vt_1641, vt_1642, vt_1349, vt_1643, by decide, by decide, by decide +kernel⟩
theorem kw_Mod_431 : kWv "FamilyKernelModel" 431 "FamilyKernelModel" y_Mod_opened b_Mod_opened 3 (some .int) 2 := ⟨vt_1592, vt_1593, vt_1594, vt_1349, vt_1595, by decide, by decide, by decide +kernel⟩
def f_Mod_step (N : Nat) (kk : (Int32 → Int32 → Int32 → mS → Option (kO × mS)) × (Int32 → mS → Option (kO × mS)) × (Int32 → mS → Option (kO × mS))) (a1 : Int32) (α : mS) : Option (kO × mS) := ((f_Mod_head N a1 α)).bind fun v1 => (((f_Mod_behind N a1 α)).bind fun v3 => (if v1 < 0 ∨ 400000 ≤ (v1 : Int32).toNatClampNeg then none else (if (α.2 2 (v1 : Int32).toNatClampNeg) = 1 then (if v1 < 0 ∨ 400000 ≤ (v1 : Int32).toNatClampNeg then none else (if (α.2 3 (v1 : Int32).toNatClampNeg) < 0 ∨ 301 ≤ ((α.2 3 (v1 : Int32).toNatClampNeg) : Int32).toNatClampNeg then none else (if (α.2 12 ((α.2 3 (v1 : Int32).toNatClampNeg) : Int32).toNatClampNeg) = 1 then (if v1 < 0 ∨ 400000 ≤ (v1 : Int32).toNatClampNeg then none else (if (α.2 3 (v1 : Int32).toNatClampNeg) < 0 ∨ 301 ≤ ((α.2 3 (v1 : Int32).toNatClampNeg) : Int32).toNatClampNeg then none else (mBi (f_Mod_with N (α.2 14 ((α.2 3 (v1 : Int32).toNatClampNeg) : Int32).toNatClampNeg) a1 v3 0 α) fun v14 α12 => (some (some (some v14), α12))))) else (some (some (some (-1)), α))))) else (if (α.2 2 (v1 : Int32).toNatClampNeg) = 2 then (mBi (kk.1 a1 v1 v3 α) fun v18 α16 => (some (some (some v18), α16))) else (if (α.2 2 (v1 : Int32).toNatClampNeg) = 3 then (some (some (some (-1)), α)) else (if (α.2 2 (v1 : Int32).toNatClampNeg) = 4 then (some (some (some (-1)), α)) else (if (α.2 2 (v1 : Int32).toNatClampNeg) = 5 then (some (some (some (-1)), α)) else (if (α.2 2 (v1 : Int32).toNatClampNeg) = 6 then (some (some (some (-1)), α)) else (if (α.2 2 (v1 : Int32).toNatClampNeg) = 7 then (if v3 = 0 then (some (some (some (-1)), α)) else (if v1 < 0 ∨ 400000 ≤ (v1 : Int32).toNatClampNeg then none else (((f_Mod_nth N a1 v3 0 α)).bind fun v26 => (mBi (f_Mod_opened N (α.2 4 (v1 : Int32).toNatClampNeg) v26 α) fun v30 α28 => (mBi (f_Mod_with N v30 a1 v3 1 α28) fun v33 α31 => (some (some (some v33), α31))))))) else (if (α.2 2 (v1 : Int32).toNatClampNeg) = 8 then (some (some (some (-1)), α)) else (if (α.2 2 (v1 : Int32).toNatClampNeg) = 9 then (if v1 < 0 ∨ 400000 ≤ (v1 : Int32).toNatClampNeg then none else (if v1 < 0 ∨ 400000 ≤ (v1 : Int32).toNatClampNeg then none else (mBi (f_Mod_opened N (α.2 5 (v1 : Int32).toNatClampNeg) (α.2 4 (v1 : Int32).toNatClampNeg) α) fun v40 α38 => (mBi (f_Mod_with N v40 a1 v3 0 α38) fun v43 α41 => (some (some (some v43), α41)))))) else (some (some (some (-1)), α)))))))))))))
set_option maxHeartbeats 4000000 in
set_option maxRecDepth 100000 in
theorem k_Mod_step {l : Launch} {g : mG} {α : mS} (N : Nat) (kk : (Int32 → Int32 → Int32 → mS → Option (kO × mS)) × (Int32 → mS → Option (kO × mS)) × (Int32 → mS → Option (kO × mS))) (d : Nat) (hk : hk_recursion l g kk (850 + d) (23826 + 31 * d)) (a1 : Int32)  : ∀ x, f_Mod_step N kk a1 α = some x → mC l g y_Mod_step b_Mod_step 4 (some .int) (850 + (d + 1)) (23826 + 31 * (d + 1)) [.ref (mad g 0), .int a1] α (mQr x) := by
  intro x h
  unfold f_Mod_step at h
  refine mc_ofW (by decide) (fun A p e s m args below meth c S hr hlocks hno hargs E hI => ?_)
  have hx := S.1
  have hb := S.2.1
  have hown := S.2.2.2.1
  have hT := S.2.2.2.2
  subst hargs
  have hl := lv_entry ([.ref (mad g 0), .int a1]) (n := 4) (Nat.le_of_ble_eq_true rfl)
  rw [lg_entry_eq]
  generalize (lg_sl ([.ref (mad g 0), .int a1]) ++ List.replicate (4 - (lg_sl ([.ref (mad g 0), .int a1])).length) Slot.unset).toArray = ls at hl ⊢
  have hl : lv_has ls 4 [(0, .ref (mad g 0)), (1, .int a1)] := hl
  refine lv_aload_n hx hb d_Mod_step_0 rfl (lv_at hl 0 rfl) ?_
  refine lv_iload_n hx hb d_Mod_step_1 rfl (lv_at hl 1 rfl) ?_
  obtain ⟨v1, e2, h⟩ := Option.bind_eq_some_iff.mp h
  refine mg_p (As := [.int a1]) (rest := []) ((k_Mod_head (l := l) (g := g) (α := α) N a1) _ e2) S E hI kw_Mod_446 (Or.inl rfl) ⟨by omega, by omega⟩ (mv_Mod E hI) rfl hl.1 rfl (Nat.le_of_ble_eq_true rfl) d_Mod_step_2 rfl ?_
  refine lv_istore_n (lv' := [(2, .int v1), (0, .ref (mad g 0)), (1, .int a1)]) hx hb d_Mod_step_5 rfl hl (by decide) rfl (fun ls hl => ?_)
  refine lv_aload_n hx hb d_Mod_step_6 rfl (lv_at hl 1 rfl) ?_
  refine lv_iload_n hx hb d_Mod_step_7 rfl (lv_at hl 2 rfl) ?_
  obtain ⟨v3, e4, h⟩ := Option.bind_eq_some_iff.mp h
  refine mg_p (As := [.int a1]) (rest := []) ((k_Mod_behind (l := l) (g := g) (α := α) N a1) _ e4) S E hI kw_Mod_449 (Or.inl rfl) ⟨by omega, by omega⟩ (mv_Mod E hI) rfl hl.1 rfl (Nat.le_of_ble_eq_true rfl) d_Mod_step_8 rfl ?_
  refine lv_istore_n (lv' := [(3, .int v3), (2, .int v1), (0, .ref (mad g 0)), (1, .int a1)]) hx hb d_Mod_step_11 rfl hl (by decide) rfl (fun ls hl => ?_)
  refine lv_aload_n hx hb d_Mod_step_12 rfl (lv_at hl 2 rfl) ?_
  refine mf_kind S E hI vt_1279 d_Mod_step_13 ?_
  refine lv_iload_n hx hb d_Mod_step_16 rfl (lv_at hl 1 rfl) ?_
  by_cases c5 : v1 < 0 ∨ 400000 ≤ (v1 : Int32).toNatClampNeg
  · replace h := Eq.trans (if_pos c5).symm h
    cases h
  · replace h := Eq.trans (if_neg c5).symm h
    refine ml_kind S E hI c5 d_Mod_step_17 ?_
    by_cases c6 : (α.2 2 (v1 : Int32).toNatClampNeg) = 1
    · replace h := Eq.trans (if_pos c6).symm h
      refine lv_tableIn (off := 107) (tgt := 125) hx hb d_Mod_step_18 (by rw [c6]; decide) (by rw [c6]; decide) (by rw [c6]; rfl) (by decide) ?_
      refine lv_aload_n hx hb d_Mod_step_125 rfl (lv_at hl 2 rfl) ?_
      refine mf_sortOf S E hI vt_1296 d_Mod_step_126 ?_
      refine lv_aload_n hx hb d_Mod_step_129 rfl (lv_at hl 2 rfl) ?_
      refine mf_one S E hI vt_1280 d_Mod_step_130 ?_
      refine lv_iload_n hx hb d_Mod_step_133 rfl (lv_at hl 1 rfl) ?_
      by_cases c7 : v1 < 0 ∨ 400000 ≤ (v1 : Int32).toNatClampNeg
      · replace h := Eq.trans (if_pos c7).symm h
        cases h
      · replace h := Eq.trans (if_neg c7).symm h
        refine ml_one S E hI c7 d_Mod_step_134 ?_
        by_cases c8 : (α.2 3 (v1 : Int32).toNatClampNeg) < 0 ∨ 301 ≤ ((α.2 3 (v1 : Int32).toNatClampNeg) : Int32).toNatClampNeg
        · replace h := Eq.trans (if_pos c8).symm h
          cases h
        · replace h := Eq.trans (if_neg c8).symm h
          refine ml_sortOf S E hI c8 d_Mod_step_135 ?_
          refine lv_iconst (v := 1) hx hb d_Mod_step_136 (by decide) ?_
          refine lv_icmp_ne (tgt := 161) hx hb d_Mod_step_137 (by decide) (fun c9 => ?_) (fun c9 => ?_)
          · replace h := Eq.trans (if_neg c9).symm h
            refine lv_iconst (v := (-1)) hx hb d_Mod_step_161 (by decide) ?_
            exact mc_iret (w := (-1)) hx hb hr rfl hlocks E hI h d_Mod_step_162
          · replace h := Eq.trans (if_pos c9).symm h
            refine lv_aload_n hx hb d_Mod_step_140 rfl (lv_at hl 2 rfl) ?_
            refine lv_aload_n hx hb d_Mod_step_141 rfl (lv_at hl 2 rfl) ?_
            refine mf_valueOf S E hI vt_1298 d_Mod_step_142 ?_
            refine lv_aload_n hx hb d_Mod_step_145 rfl (lv_at hl 2 rfl) ?_
            refine mf_one S E hI vt_1280 d_Mod_step_146 ?_
            refine lv_iload_n hx hb d_Mod_step_149 rfl (lv_at hl 1 rfl) ?_
            by_cases c10 : v1 < 0 ∨ 400000 ≤ (v1 : Int32).toNatClampNeg
            · replace h := Eq.trans (if_pos c10).symm h
              cases h
            · replace h := Eq.trans (if_neg c10).symm h
              refine ml_one S E hI c10 d_Mod_step_150 ?_
              by_cases c11 : (α.2 3 (v1 : Int32).toNatClampNeg) < 0 ∨ 301 ≤ ((α.2 3 (v1 : Int32).toNatClampNeg) : Int32).toNatClampNeg
              · replace h := Eq.trans (if_pos c11).symm h
                cases h
              · replace h := Eq.trans (if_neg c11).symm h
                refine ml_valueOf S E hI c11 d_Mod_step_151 ?_
                refine lv_iload_n hx hb d_Mod_step_152 rfl (lv_at hl 3 rfl) ?_
                refine lv_iload_n hx hb d_Mod_step_153 rfl (lv_at hl 0 rfl) ?_
                refine lv_iconst (v := 0) hx hb d_Mod_step_154 (by decide) ?_
                refine mg_cI (As := [.int (α.2 14 ((α.2 3 (v1 : Int32).toNatClampNeg) : Int32).toNatClampNeg), .int a1, .int v3, .int 0]) (rest := []) h (k_Mod_with (l := l) (g := g) (α := α) N (α.2 14 ((α.2 3 (v1 : Int32).toNatClampNeg) : Int32).toNatClampNeg) a1 v3 0) S hlocks hno E hI kw_Mod_452 ⟨by omega, by omega⟩ (mv_Mod E hI) rfl hl.1 rfl (Nat.le_of_ble_eq_true rfl) d_Mod_step_155 (fun v14 α12 H locs e13 h hI => ?_)
                refine lv_goto (tgt := 162) hx hb d_Mod_step_158 (by decide) ?_
                exact mc_iret (w := v14) hx hb hr rfl hlocks E hI h d_Mod_step_162
    · replace h := Eq.trans (if_neg c6).symm h
      have nc6 := ksw (z := 1) rfl c6
      by_cases c15 : (α.2 2 (v1 : Int32).toNatClampNeg) = 2
      · replace h := Eq.trans (if_pos c15).symm h
        refine lv_tableIn (off := 145) (tgt := 163) hx hb d_Mod_step_18 (by rw [c15]; decide) (by rw [c15]; decide) (by rw [c15]; rfl) (by decide) ?_
        refine lv_aload_n hx hb d_Mod_step_163 rfl (lv_at hl 2 rfl) ?_
        refine lv_iload_n hx hb d_Mod_step_164 rfl (lv_at hl 3 rfl) ?_
        refine lv_iload_n hx hb d_Mod_step_165 rfl (lv_at hl 1 rfl) ?_
        refine lv_iload_n hx hb d_Mod_step_166 rfl (lv_at hl 0 rfl) ?_
        refine mg_cI (As := [.int a1, .int v1, .int v3]) (rest := []) h (hk.1 a1 v1 v3 α) S hlocks hno E hI kw_Mod_455 ⟨by omega, by omega⟩ (mv_Mod E hI) rfl hl.1 rfl (Nat.le_of_ble_eq_true rfl) d_Mod_step_167 (fun v18 α16 H locs e17 h hI => ?_)
        exact mc_iret (w := v18) hx hb hr rfl hlocks E hI h d_Mod_step_170
      · replace h := Eq.trans (if_neg c15).symm h
        have nc15 := ksw (z := 2) rfl c15
        by_cases c19 : (α.2 2 (v1 : Int32).toNatClampNeg) = 3
        · replace h := Eq.trans (if_pos c19).symm h
          refine lv_tableIn (off := 153) (tgt := 171) hx hb d_Mod_step_18 (by rw [c19]; decide) (by rw [c19]; decide) (by rw [c19]; rfl) (by decide) ?_
          refine lv_iconst (v := (-1)) hx hb d_Mod_step_171 (by decide) ?_
          exact mc_iret (w := (-1)) hx hb hr rfl hlocks E hI h d_Mod_step_172
        · replace h := Eq.trans (if_neg c19).symm h
          have nc19 := ksw (z := 3) rfl c19
          by_cases c20 : (α.2 2 (v1 : Int32).toNatClampNeg) = 4
          · replace h := Eq.trans (if_pos c20).symm h
            refine lv_tableIn (off := 153) (tgt := 171) hx hb d_Mod_step_18 (by rw [c20]; decide) (by rw [c20]; decide) (by rw [c20]; rfl) (by decide) ?_
            refine lv_iconst (v := (-1)) hx hb d_Mod_step_171 (by decide) ?_
            exact mc_iret (w := (-1)) hx hb hr rfl hlocks E hI h d_Mod_step_172
          · replace h := Eq.trans (if_neg c20).symm h
            have nc20 := ksw (z := 4) rfl c20
            by_cases c21 : (α.2 2 (v1 : Int32).toNatClampNeg) = 5
            · replace h := Eq.trans (if_pos c21).symm h
              refine lv_tableIn (off := 153) (tgt := 171) hx hb d_Mod_step_18 (by rw [c21]; decide) (by rw [c21]; decide) (by rw [c21]; rfl) (by decide) ?_
              refine lv_iconst (v := (-1)) hx hb d_Mod_step_171 (by decide) ?_
              exact mc_iret (w := (-1)) hx hb hr rfl hlocks E hI h d_Mod_step_172
            · replace h := Eq.trans (if_neg c21).symm h
              have nc21 := ksw (z := 5) rfl c21
              by_cases c22 : (α.2 2 (v1 : Int32).toNatClampNeg) = 6
              · replace h := Eq.trans (if_pos c22).symm h
                refine lv_tableIn (off := 153) (tgt := 171) hx hb d_Mod_step_18 (by rw [c22]; decide) (by rw [c22]; decide) (by rw [c22]; rfl) (by decide) ?_
                refine lv_iconst (v := (-1)) hx hb d_Mod_step_171 (by decide) ?_
                exact mc_iret (w := (-1)) hx hb hr rfl hlocks E hI h d_Mod_step_172
              · replace h := Eq.trans (if_neg c22).symm h
                have nc22 := ksw (z := 6) rfl c22
                by_cases c23 : (α.2 2 (v1 : Int32).toNatClampNeg) = 7
                · replace h := Eq.trans (if_pos c23).symm h
                  refine lv_tableIn (off := 50) (tgt := 68) hx hb d_Mod_step_18 (by rw [c23]; decide) (by rw [c23]; decide) (by rw [c23]; rfl) (by decide) ?_
                  refine lv_iload_n hx hb d_Mod_step_68 rfl (lv_at hl 0 rfl) ?_
                  refine lv_if_ne (tgt := 76) hx hb d_Mod_step_69 (by decide) (fun c24 => ?_) (fun c24 => ?_)
                  · replace h := Eq.trans (if_neg c24).symm h
                    refine lv_aload_n hx hb d_Mod_step_76 rfl (lv_at hl 2 rfl) ?_
                    refine lv_aload_n hx hb d_Mod_step_77 rfl (lv_at hl 2 rfl) ?_
                    refine lv_aload_n hx hb d_Mod_step_78 rfl (lv_at hl 2 rfl) ?_
                    refine mf_two S E hI vt_1281 d_Mod_step_79 ?_
                    refine lv_iload_n hx hb d_Mod_step_82 rfl (lv_at hl 1 rfl) ?_
                    by_cases c25 : v1 < 0 ∨ 400000 ≤ (v1 : Int32).toNatClampNeg
                    · replace h := Eq.trans (if_pos c25).symm h
                      cases h
                    · replace h := Eq.trans (if_neg c25).symm h
                      refine ml_two S E hI c25 d_Mod_step_83 ?_
                      refine lv_aload_n hx hb d_Mod_step_84 rfl (lv_at hl 2 rfl) ?_
                      refine lv_iload_n hx hb d_Mod_step_85 rfl (lv_at hl 3 rfl) ?_
                      refine lv_iload_n hx hb d_Mod_step_86 rfl (lv_at hl 0 rfl) ?_
                      refine lv_iconst (v := 0) hx hb d_Mod_step_87 (by decide) ?_
                      obtain ⟨v26, e27, h⟩ := Option.bind_eq_some_iff.mp h
                      refine mg_p (As := [.int a1, .int v3, .int 0]) (rest := [.int (α.2 4 (v1 : Int32).toNatClampNeg), .ref (mad g 0), .ref (mad g 0)]) ((k_Mod_nth (l := l) (g := g) (α := α) N a1 v3 0) _ e27) S E hI kw_Mod_440 (Or.inl rfl) ⟨by omega, by omega⟩ (mv_Mod E hI) rfl hl.1 rfl (Nat.le_of_ble_eq_true rfl) d_Mod_step_88 rfl ?_
                      refine mg_cI (As := [.int (α.2 4 (v1 : Int32).toNatClampNeg), .int v26]) (rest := [.ref (mad g 0)]) h (k_Mod_opened (l := l) (g := g) (α := α) N (α.2 4 (v1 : Int32).toNatClampNeg) v26) S hlocks hno E hI kw_Mod_431 ⟨by omega, by omega⟩ (mv_Mod E hI) rfl hl.1 rfl (Nat.le_of_ble_eq_true rfl) d_Mod_step_91 (fun v30 α28 H locs e29 h hI => ?_)
                      refine lv_iload_n hx hb d_Mod_step_94 rfl (lv_at hl 3 rfl) ?_
                      refine lv_iload_n hx hb d_Mod_step_95 rfl (lv_at hl 0 rfl) ?_
                      refine lv_iconst (v := 1) hx hb d_Mod_step_96 (by decide) ?_
                      refine mg_cI (As := [.int v30, .int a1, .int v3, .int 1]) (rest := []) h (k_Mod_with (l := l) (g := g) (α := α28) N v30 a1 v3 1) S hlocks hno E hI kw_Mod_452 ⟨by omega, by omega⟩ (mv_Mod E hI) rfl hl.1 rfl (Nat.le_of_ble_eq_true rfl) d_Mod_step_97 (fun v33 α31 H locs e32 h hI => ?_)
                      exact mc_iret (w := v33) hx hb hr rfl hlocks E hI h d_Mod_step_100
                  · replace h := Eq.trans (if_pos c24).symm h
                    refine lv_iconst (v := (-1)) hx hb d_Mod_step_72 (by decide) ?_
                    refine lv_goto (tgt := 100) hx hb d_Mod_step_73 (by decide) ?_
                    exact mc_iret (w := (-1)) hx hb hr rfl hlocks E hI h d_Mod_step_100
                · replace h := Eq.trans (if_neg c23).symm h
                  have nc23 := ksw (z := 7) rfl c23
                  by_cases c34 : (α.2 2 (v1 : Int32).toNatClampNeg) = 8
                  · replace h := Eq.trans (if_pos c34).symm h
                    refine lv_tableIn (off := 153) (tgt := 171) hx hb d_Mod_step_18 (by rw [c34]; decide) (by rw [c34]; decide) (by rw [c34]; rfl) (by decide) ?_
                    refine lv_iconst (v := (-1)) hx hb d_Mod_step_171 (by decide) ?_
                    exact mc_iret (w := (-1)) hx hb hr rfl hlocks E hI h d_Mod_step_172
                  · replace h := Eq.trans (if_neg c34).symm h
                    have nc34 := ksw (z := 8) rfl c34
                    by_cases c35 : (α.2 2 (v1 : Int32).toNatClampNeg) = 9
                    · replace h := Eq.trans (if_pos c35).symm h
                      refine lv_tableIn (off := 83) (tgt := 101) hx hb d_Mod_step_18 (by rw [c35]; decide) (by rw [c35]; decide) (by rw [c35]; rfl) (by decide) ?_
                      refine lv_aload_n hx hb d_Mod_step_101 rfl (lv_at hl 2 rfl) ?_
                      refine lv_aload_n hx hb d_Mod_step_102 rfl (lv_at hl 2 rfl) ?_
                      refine lv_aload_n hx hb d_Mod_step_103 rfl (lv_at hl 2 rfl) ?_
                      refine mf_three S E hI vt_1282 d_Mod_step_104 ?_
                      refine lv_iload_n hx hb d_Mod_step_107 rfl (lv_at hl 1 rfl) ?_
                      by_cases c36 : v1 < 0 ∨ 400000 ≤ (v1 : Int32).toNatClampNeg
                      · replace h := Eq.trans (if_pos c36).symm h
                        cases h
                      · replace h := Eq.trans (if_neg c36).symm h
                        refine ml_three S E hI c36 d_Mod_step_108 ?_
                        refine lv_aload_n hx hb d_Mod_step_109 rfl (lv_at hl 2 rfl) ?_
                        refine mf_two S E hI vt_1281 d_Mod_step_110 ?_
                        refine lv_iload_n hx hb d_Mod_step_113 rfl (lv_at hl 1 rfl) ?_
                        by_cases c37 : v1 < 0 ∨ 400000 ≤ (v1 : Int32).toNatClampNeg
                        · replace h := Eq.trans (if_pos c37).symm h
                          cases h
                        · replace h := Eq.trans (if_neg c37).symm h
                          refine ml_two S E hI c37 d_Mod_step_114 ?_
                          refine mg_cI (As := [.int (α.2 5 (v1 : Int32).toNatClampNeg), .int (α.2 4 (v1 : Int32).toNatClampNeg)]) (rest := [.ref (mad g 0)]) h (k_Mod_opened (l := l) (g := g) (α := α) N (α.2 5 (v1 : Int32).toNatClampNeg) (α.2 4 (v1 : Int32).toNatClampNeg)) S hlocks hno E hI kw_Mod_431 ⟨by omega, by omega⟩ (mv_Mod E hI) rfl hl.1 rfl (Nat.le_of_ble_eq_true rfl) d_Mod_step_115 (fun v40 α38 H locs e39 h hI => ?_)
                          refine lv_iload_n hx hb d_Mod_step_118 rfl (lv_at hl 3 rfl) ?_
                          refine lv_iload_n hx hb d_Mod_step_119 rfl (lv_at hl 0 rfl) ?_
                          refine lv_iconst (v := 0) hx hb d_Mod_step_120 (by decide) ?_
                          refine mg_cI (As := [.int v40, .int a1, .int v3, .int 0]) (rest := []) h (k_Mod_with (l := l) (g := g) (α := α38) N v40 a1 v3 0) S hlocks hno E hI kw_Mod_452 ⟨by omega, by omega⟩ (mv_Mod E hI) rfl hl.1 rfl (Nat.le_of_ble_eq_true rfl) d_Mod_step_121 (fun v43 α41 H locs e42 h hI => ?_)
                          exact mc_iret (w := v43) hx hb hr rfl hlocks E hI h d_Mod_step_124
                    · replace h := Eq.trans (if_neg c35).symm h
                      have nc35 := ksw (z := 9) rfl c35
                      refine lv_tableOut (tgt := 171) hx hb d_Mod_step_18 (by omega) (by decide) ?_
                      refine lv_iconst (v := (-1)) hx hb d_Mod_step_171 (by decide) ?_
                      exact mc_iret (w := (-1)) hx hb hr rfl hlocks E hI h d_Mod_step_172
theorem kw_Mod_443 : kWv "FamilyKernelModel" 443 "FamilyKernelModel" y_Mod_step b_Mod_step 4 (some .int) 1 := ⟨vt_1620, vt_1621, vt_1622, vt_1349, vt_1623, by decide, by decide, by decide +kernel⟩
theorem kw_Mod_402 : kWv "FamilyKernelModel" 402 "FamilyKernelModel" y_Mod_fits b_Mod_fits 2 (some .int) 1 := ⟨vt_1500, vt_1501, vt_1502, vt_1349, vt_1503, by decide, by decide, by decide +kernel⟩
theorem kw_Mod_434 : kWv "FamilyKernelModel" 434 "FamilyKernelModel" y_Mod_costs b_Mod_costs 2 none 1 := ⟨vt_1571, vt_1572, vt_1573, vt_1349, vt_1574, by decide, by decide, by decide +kernel⟩
def f_Mod_whnf_2 (N : Nat)  (kk : (Int32 → Int32 → Int32 → mS → Option (kO × mS)) × (Int32 → mS → Option (kO × mS)) × (Int32 → mS → Option (kO × mS))) : Nat → Int32 → mS → Option (kO × mS)
  | 0, _, _ => none
  | n + 1, x2_2, β2 => mBi (kk.2.1 x2_2 β2) fun v3 α1 => (if 0 ≤ v3 then (mBi (f_Mod_fits N v3 α1) fun v7 α5 => (if v7 < 0 ∨ 400000 ≤ (v7 : Int32).toNatClampNeg then none else (mBv (f_Mod_costs N (α5.2 6 (v7 : Int32).toNatClampNeg) α5) fun α9 => (f_Mod_whnf_2 N kk n v7 α9)))) else (some (some (some x2_2), α1)))
def f_Mod_whnf (N : Nat) (kk : (Int32 → Int32 → Int32 → mS → Option (kO × mS)) × (Int32 → mS → Option (kO × mS)) × (Int32 → mS → Option (kO × mS))) (a1 : Int32) (α : mS) : Option (kO × mS) := f_Mod_whnf_2 N kk N a1 α
set_option maxHeartbeats 4000000 in
set_option maxRecDepth 100000 in
theorem k_Mod_whnf {l : Launch} {g : mG} {α : mS} (N : Nat) (kk : (Int32 → Int32 → Int32 → mS → Option (kO × mS)) × (Int32 → mS → Option (kO × mS)) × (Int32 → mS → Option (kO × mS))) (d : Nat) (hk : hk_recursion l g kk (850 + d) (23826 + 31 * d)) (a1 : Int32)  : ∀ x, f_Mod_whnf N kk a1 α = some x → mC l g y_Mod_whnf b_Mod_whnf 4 (some .int) (850 + (d + 1)) (23826 + 31 * (d + 1)) [.ref (mad g 0), .int a1] α (mQr x) := by
  intro x h
  unfold f_Mod_whnf at h
  refine mc_ofW (by decide) (fun A p e s m args below meth c S hr hlocks hno hargs E hI => ?_)
  have hx := S.1
  have hb := S.2.1
  have hown := S.2.2.2.1
  have hT := S.2.2.2.2
  subst hargs
  have hl := lv_entry ([.ref (mad g 0), .int a1]) (n := 4) (Nat.le_of_ble_eq_true rfl)
  rw [lg_entry_eq]
  generalize (lg_sl ([.ref (mad g 0), .int a1]) ++ List.replicate (4 - (lg_sl ([.ref (mad g 0), .int a1])).length) Slot.unset).toArray = ls at hl ⊢
  have hl : lv_has ls 4 [(0, .ref (mad g 0)), (1, .int a1)] := hl
  refine lv_iload_n hx hb d_Mod_whnf_0 rfl (lv_at hl 1 rfl) ?_
  refine lv_istore_n (lv' := [(2, .int a1), (0, .ref (mad g 0)), (1, .int a1)]) hx hb d_Mod_whnf_1 rfl hl (by decide) rfl (fun ls hl => ?_)
  have L2 : ∀ (n2 : Nat) (x2_2 : Int32) (β2 : mS) (H : Heap) (locs : List Loc) (ls : Array Slot), f_Mod_whnf_2 N kk n2 x2_2 β2 = some x → mI g A s β2 H locs → lv_has ls 4 [(2, .int x2_2), (0, .ref (mad g 0))] → W p l e (mR (850 + (d + 1)) (23826 + 31 * (d + 1))) s m ([.ref (mad g 0), .int a1]).toArray below meth c H locs 0 0 (vEQ below (mQ g A (mQr x)) ([.ref (mad g 0), .int a1]).toArray s A) (F0 m 2 ls []) := by
    intro n2
    induction n2 with
    | zero => intro x2_2 β2 H locs ls h hI hl; rw [f_Mod_whnf_2] at h; cases h
    | succ n2 ih2 =>
      intro x2_2 β2 H locs ls h hI hl
      rw [f_Mod_whnf_2] at h
      refine lv_aload_n hx hb d_Mod_whnf_2 rfl (lv_at hl 1 rfl) ?_
      refine lv_iload_n hx hb d_Mod_whnf_3 rfl (lv_at hl 0 rfl) ?_
      refine mg_cI (As := [.int x2_2]) (rest := []) h (hk.2.1 x2_2 β2) S hlocks hno E hI kw_Mod_443 ⟨by omega, by omega⟩ (mv_Mod E hI) rfl hl.1 rfl (Nat.le_of_ble_eq_true rfl) d_Mod_whnf_4 (fun v3 α1 H locs e2 h hI => ?_)
      refine lv_istore_n (lv' := [(3, .int v3), (2, .int x2_2), (0, .ref (mad g 0))]) hx hb d_Mod_whnf_7 rfl hl (by decide) rfl (fun ls hl => ?_)
      refine lv_iload_n hx hb d_Mod_whnf_8 rfl (lv_at hl 0 rfl) ?_
      refine lv_if_ge (tgt := 14) hx hb d_Mod_whnf_9 (by decide) (fun c4 => ?_) (fun c4 => ?_)
      · replace h := Eq.trans (if_pos c4).symm h
        refine lv_aload_n hx hb d_Mod_whnf_14 rfl (lv_at hl 2 rfl) ?_
        refine lv_iload_n hx hb d_Mod_whnf_15 rfl (lv_at hl 0 rfl) ?_
        refine mg_cI (As := [.int v3]) (rest := []) h (k_Mod_fits (l := l) (g := g) (α := α1) N v3) S hlocks hno E hI kw_Mod_402 ⟨by omega, by omega⟩ (mv_Mod E hI) rfl hl.1 rfl (Nat.le_of_ble_eq_true rfl) d_Mod_whnf_16 (fun v7 α5 H locs e6 h hI => ?_)
        refine lv_istore_n (lv' := [(2, .int v7), (3, .int v3), (0, .ref (mad g 0))]) hx hb d_Mod_whnf_19 rfl hl (by decide) rfl (fun ls hl => ?_)
        refine lv_aload_n hx hb d_Mod_whnf_20 rfl (lv_at hl 2 rfl) ?_
        refine lv_aload_n hx hb d_Mod_whnf_21 rfl (lv_at hl 2 rfl) ?_
        refine mf_big S E hI vt_1283 d_Mod_whnf_22 ?_
        refine lv_iload_n hx hb d_Mod_whnf_25 rfl (lv_at hl 0 rfl) ?_
        by_cases c8 : v7 < 0 ∨ 400000 ≤ (v7 : Int32).toNatClampNeg
        · replace h := Eq.trans (if_pos c8).symm h
          cases h
        · replace h := Eq.trans (if_neg c8).symm h
          refine ml_big S E hI c8 d_Mod_whnf_26 ?_
          refine mg_cV (As := [.int (α5.2 6 (v7 : Int32).toNatClampNeg)]) (rest := []) h (k_Mod_costs (l := l) (g := g) (α := α5) N (α5.2 6 (v7 : Int32).toNatClampNeg)) S hlocks hno E hI kw_Mod_434 ⟨by omega, by omega⟩ (mv_Mod E hI) rfl hl.1 rfl (Nat.le_of_ble_eq_true rfl) d_Mod_whnf_27 (fun α9 H locs e10 h hI => ?_)
          refine lv_goto (tgt := 2) hx hb d_Mod_whnf_30 (by decide) ?_
          exact ih2 v7 _ _ _ _ h hI (lv_sub hl [0, 2] rfl)
      · replace h := Eq.trans (if_neg c4).symm h
        refine lv_iload_n hx hb d_Mod_whnf_12 rfl (lv_at hl 1 rfl) ?_
        exact mc_iret (w := x2_2) hx hb hr rfl hlocks E hI h d_Mod_whnf_13
  exact L2 N a1 _ _ _ _ h hI (lv_sub hl [0, 1] rfl)
def G_recursion (N : Nat) : Nat → (Int32 → Int32 → Int32 → mS → Option (kO × mS)) × (Int32 → mS → Option (kO × mS)) × (Int32 → mS → Option (kO × mS))
  | 0 => (fun _ _ _ _ => none, fun _ _ => none, fun _ _ => none)
  | d + 1 => (f_Mod_recursion N (G_recursion N d), f_Mod_step N (G_recursion N d), f_Mod_whnf N (G_recursion N d))
theorem ok_recursion {l : Launch} {g : mG} (N : Nat) : ∀ d, hk_recursion l g (G_recursion N d) (850 + d) (23826 + 31 * d)
  | 0 => ⟨(fun a1 a2 a3  α x h => by cases h), (fun a1  α x h => by cases h), (fun a1  α x h => by cases h)⟩
  | d + 1 => by
    have ih := ok_recursion (l := l) (g := g) N d
    exact ⟨(fun a1 a2 a3  α x h => k_Mod_recursion (α := α) N _ d ih a1 a2 a3  x h), (fun a1  α x h => k_Mod_step (α := α) N _ d ih a1  x h), (fun a1  α x h => k_Mod_whnf (α := α) N _ d ih a1  x h)⟩
def dp_recursion : Nat := 200
