def hk_alike (l : Launch) (g : mG) (kk : (Int32 → Int32 → Int32 → mS → Option (kO × mS)) × (Int32 → Int32 → Int32 → mS → Option (kO × mS))) (fr lo : Nat) : Prop := (∀ (a1 : Int32) (a2 : Int32) (a3 : Int32)  (α : mS) (x : kO × mS), kk.1 a1 a2 a3 α = some x → mC l g y_Mod_alike b_Mod_alike 8 (some .boolean) fr lo [.ref (mad g 0), .int a1, .int a2, .int a3] α (mQr x)) ∧ (∀ (a1 : Int32) (a2 : Int32) (a3 : Int32)  (α : mS) (x : kO × mS), kk.2 a1 a2 a3 α = some x → mC l g y_Mod_conv b_Mod_conv 10 (some .boolean) fr lo [.ref (mad g 0), .int a1, .int a2, .int a3] α (mQr x))
theorem kw_Mod_464 : kWv "FamilyKernelModel" 464 "FamilyKernelModel" y_Mod_conv b_Mod_conv 10 (some .boolean) 3 := ⟨vt_1608, vt_1609, vt_1610, vt_1349, vt_1611, by decide, by decide, by decide +kernel⟩
def f_Mod_alike_81 (N : Nat)  (kk : (Int32 → Int32 → Int32 → mS → Option (kO × mS)) × (Int32 → Int32 → Int32 → mS → Option (kO × mS))) : Nat → Int32 → Int32 → Int32 → Int32 → Int32 → mS → Option (kO × mS)
  | 0, _, _, _, _, _, _ => none
  | n + 1, x7_81, x6_81, x1_81, x2_81, x3_81, β81 => if x6_81 ≤ x7_81 then (some (some (some 1), β81)) else (((f_Mod_nth N x1_81 x6_81 x7_81 β81)).bind fun v20 => (((f_Mod_nth N x2_81 x6_81 x7_81 β81)).bind fun v22 => (mBi (kk.2 v20 v22 (x3_81 + 1) β81) fun v26 α24 => (if v26 = 0 then (some (some (some 0), α24)) else (f_Mod_alike_81 N kk n (x7_81 + 1) x6_81 x1_81 x2_81 x3_81 α24)))))
def f_Mod_alike (N : Nat) (kk : (Int32 → Int32 → Int32 → mS → Option (kO × mS)) × (Int32 → Int32 → Int32 → mS → Option (kO × mS))) (a1 : Int32) (a2 : Int32) (a3 : Int32) (α : mS) : Option (kO × mS) := ((f_Mod_head N a1 α)).bind fun v1 => (((f_Mod_head N a2 α)).bind fun v3 => (((f_Mod_behind N a1 α)).bind fun v5 => (if v1 < 0 ∨ 400000 ≤ (v1 : Int32).toNatClampNeg then none else (if (α.2 2 (v1 : Int32).toNatClampNeg) = 6 then (some (some (some 0), α)) else (if v1 < 0 ∨ 400000 ≤ (v1 : Int32).toNatClampNeg then none else (if (α.2 2 (v1 : Int32).toNatClampNeg) = 7 then (some (some (some 0), α)) else (if v1 < 0 ∨ 400000 ≤ (v1 : Int32).toNatClampNeg then none else (if (α.2 2 (v1 : Int32).toNatClampNeg) = 0 then (some (some (some 0), α)) else ((((G_same N dp_same) v1 v3 α)).bind fun v13 => (if v13 = 0 then (some (some (some 0), α)) else (((f_Mod_behind N a2 α)).bind fun v16 => (if v5 = v16 then (f_Mod_alike_81 N kk N 0 v5 a1 a2 a3 α) else (some (some (some 0), α))))))))))))))
set_option maxHeartbeats 4000000 in
set_option maxRecDepth 100000 in
theorem k_Mod_alike {l : Launch} {g : mG} {α : mS} (N : Nat) (kk : (Int32 → Int32 → Int32 → mS → Option (kO × mS)) × (Int32 → Int32 → Int32 → mS → Option (kO × mS))) (d : Nat) (hk : hk_alike l g kk (1051 + d) (30049 + 29 * d)) (a1 : Int32) (a2 : Int32) (a3 : Int32)  : ∀ x, f_Mod_alike N kk a1 a2 a3 α = some x → mC l g y_Mod_alike b_Mod_alike 8 (some .boolean) (1051 + (d + 1)) (30049 + 29 * (d + 1)) [.ref (mad g 0), .int a1, .int a2, .int a3] α (mQr x) := by
  intro x h
  unfold f_Mod_alike at h
  refine mc_ofW (by decide) (fun A p e s m args below meth c S hr hlocks hno hargs E hI => ?_)
  have hx := S.1
  have hb := S.2.1
  have hown := S.2.2.2.1
  have hT := S.2.2.2.2
  subst hargs
  have hl := lv_entry ([.ref (mad g 0), .int a1, .int a2, .int a3]) (n := 8) (Nat.le_of_ble_eq_true rfl)
  rw [lg_entry_eq]
  generalize (lg_sl ([.ref (mad g 0), .int a1, .int a2, .int a3]) ++ List.replicate (8 - (lg_sl ([.ref (mad g 0), .int a1, .int a2, .int a3])).length) Slot.unset).toArray = ls at hl ⊢
  have hl : lv_has ls 8 [(0, .ref (mad g 0)), (1, .int a1), (2, .int a2), (3, .int a3)] := hl
  refine lv_aload_n hx hb d_Mod_alike_0 rfl (lv_at hl 0 rfl) ?_
  refine lv_iload_n hx hb d_Mod_alike_1 rfl (lv_at hl 1 rfl) ?_
  obtain ⟨v1, e2, h⟩ := Option.bind_eq_some_iff.mp h
  refine mg_p (As := [.int a1]) (rest := []) ((k_Mod_head (l := l) (g := g) (α := α) N a1) _ e2) S E hI kw_Mod_446 (Or.inl rfl) ⟨by omega, by omega⟩ (mv_Mod E hI) rfl hl.1 rfl (Nat.le_of_ble_eq_true rfl) d_Mod_alike_2 rfl ?_
  refine lv_istore (lv' := [(4, .int v1), (0, .ref (mad g 0)), (1, .int a1), (2, .int a2), (3, .int a3)]) hx hb d_Mod_alike_5 hl (by decide) rfl (fun ls hl => ?_)
  refine lv_aload_n hx hb d_Mod_alike_7 rfl (lv_at hl 1 rfl) ?_
  refine lv_iload_n hx hb d_Mod_alike_8 rfl (lv_at hl 3 rfl) ?_
  obtain ⟨v3, e4, h⟩ := Option.bind_eq_some_iff.mp h
  refine mg_p (As := [.int a2]) (rest := []) ((k_Mod_head (l := l) (g := g) (α := α) N a2) _ e4) S E hI kw_Mod_446 (Or.inl rfl) ⟨by omega, by omega⟩ (mv_Mod E hI) rfl hl.1 rfl (Nat.le_of_ble_eq_true rfl) d_Mod_alike_9 rfl ?_
  refine lv_istore (lv' := [(5, .int v3), (4, .int v1), (0, .ref (mad g 0)), (1, .int a1), (2, .int a2), (3, .int a3)]) hx hb d_Mod_alike_12 hl (by decide) rfl (fun ls hl => ?_)
  refine lv_aload_n hx hb d_Mod_alike_14 rfl (lv_at hl 2 rfl) ?_
  refine lv_iload_n hx hb d_Mod_alike_15 rfl (lv_at hl 3 rfl) ?_
  obtain ⟨v5, e6, h⟩ := Option.bind_eq_some_iff.mp h
  refine mg_p (As := [.int a1]) (rest := []) ((k_Mod_behind (l := l) (g := g) (α := α) N a1) _ e6) S E hI kw_Mod_449 (Or.inl rfl) ⟨by omega, by omega⟩ (mv_Mod E hI) rfl hl.1 rfl (Nat.le_of_ble_eq_true rfl) d_Mod_alike_16 rfl ?_
  refine lv_istore (lv' := [(6, .int v5), (5, .int v3), (4, .int v1), (0, .ref (mad g 0)), (1, .int a1), (2, .int a2), (3, .int a3)]) hx hb d_Mod_alike_19 hl (by decide) rfl (fun ls hl => ?_)
  refine lv_aload_n hx hb d_Mod_alike_21 rfl (lv_at hl 3 rfl) ?_
  refine mf_kind S E hI vt_1279 d_Mod_alike_22 ?_
  refine lv_iload hx hb d_Mod_alike_25 (lv_at hl 2 rfl) ?_
  by_cases c7 : v1 < 0 ∨ 400000 ≤ (v1 : Int32).toNatClampNeg
  · replace h := Eq.trans (if_pos c7).symm h
    cases h
  · replace h := Eq.trans (if_neg c7).symm h
    refine ml_kind S E hI c7 d_Mod_alike_27 ?_
    refine lv_bipush (v := 6) hx hb d_Mod_alike_28 (by decide) ?_
    refine lv_icmp_eq (tgt := 76) hx hb d_Mod_alike_30 (by decide) (fun c8 => ?_) (fun c8 => ?_)
    · replace h := Eq.trans (if_pos c8).symm h
      refine lv_iconst (v := 0) hx hb d_Mod_alike_76 (by decide) ?_
      exact mc_iret (w := 0) hx hb hr (by decide) hlocks E hI h d_Mod_alike_77
    · replace h := Eq.trans (if_neg c8).symm h
      refine lv_aload_n hx hb d_Mod_alike_33 rfl (lv_at hl 3 rfl) ?_
      refine mf_kind S E hI vt_1279 d_Mod_alike_34 ?_
      refine lv_iload hx hb d_Mod_alike_37 (lv_at hl 2 rfl) ?_
      by_cases c9 : v1 < 0 ∨ 400000 ≤ (v1 : Int32).toNatClampNeg
      · replace h := Eq.trans (if_pos c9).symm h
        cases h
      · replace h := Eq.trans (if_neg c9).symm h
        refine ml_kind S E hI c9 d_Mod_alike_39 ?_
        refine lv_bipush (v := 7) hx hb d_Mod_alike_40 (by decide) ?_
        refine lv_icmp_eq (tgt := 76) hx hb d_Mod_alike_42 (by decide) (fun c10 => ?_) (fun c10 => ?_)
        · replace h := Eq.trans (if_pos c10).symm h
          refine lv_iconst (v := 0) hx hb d_Mod_alike_76 (by decide) ?_
          exact mc_iret (w := 0) hx hb hr (by decide) hlocks E hI h d_Mod_alike_77
        · replace h := Eq.trans (if_neg c10).symm h
          refine lv_aload_n hx hb d_Mod_alike_45 rfl (lv_at hl 3 rfl) ?_
          refine mf_kind S E hI vt_1279 d_Mod_alike_46 ?_
          refine lv_iload hx hb d_Mod_alike_49 (lv_at hl 2 rfl) ?_
          by_cases c11 : v1 < 0 ∨ 400000 ≤ (v1 : Int32).toNatClampNeg
          · replace h := Eq.trans (if_pos c11).symm h
            cases h
          · replace h := Eq.trans (if_neg c11).symm h
            refine ml_kind S E hI c11 d_Mod_alike_51 ?_
            refine lv_if_eq (tgt := 76) hx hb d_Mod_alike_52 (by decide) (fun c12 => ?_) (fun c12 => ?_)
            · replace h := Eq.trans (if_pos c12).symm h
              refine lv_iconst (v := 0) hx hb d_Mod_alike_76 (by decide) ?_
              exact mc_iret (w := 0) hx hb hr (by decide) hlocks E hI h d_Mod_alike_77
            · replace h := Eq.trans (if_neg c12).symm h
              refine lv_aload_n hx hb d_Mod_alike_55 rfl (lv_at hl 3 rfl) ?_
              refine lv_iload hx hb d_Mod_alike_56 (lv_at hl 2 rfl) ?_
              refine lv_iload hx hb d_Mod_alike_58 (lv_at hl 1 rfl) ?_
              obtain ⟨v13, e14, h⟩ := Option.bind_eq_some_iff.mp h
              refine mg_p (As := [.int v1, .int v3]) (rest := []) ((((ok_same (l := l) (g := g) N dp_same)) v1 v3 α) _ e14) S E hI kw_Mod_340 (Or.inl rfl) ⟨by unfold dp_same; omega, by unfold dp_same; omega⟩ (mv_Mod E hI) rfl hl.1 rfl (Nat.le_of_ble_eq_true rfl) d_Mod_alike_60 rfl ?_
              refine lv_if_eq (tgt := 76) hx hb d_Mod_alike_63 (by decide) (fun c15 => ?_) (fun c15 => ?_)
              · replace h := Eq.trans (if_pos c15).symm h
                refine lv_iconst (v := 0) hx hb d_Mod_alike_76 (by decide) ?_
                exact mc_iret (w := 0) hx hb hr (by decide) hlocks E hI h d_Mod_alike_77
              · replace h := Eq.trans (if_neg c15).symm h
                refine lv_iload hx hb d_Mod_alike_66 (lv_at hl 0 rfl) ?_
                refine lv_aload_n hx hb d_Mod_alike_68 rfl (lv_at hl 3 rfl) ?_
                refine lv_iload_n hx hb d_Mod_alike_69 rfl (lv_at hl 5 rfl) ?_
                obtain ⟨v16, e17, h⟩ := Option.bind_eq_some_iff.mp h
                refine mg_p (As := [.int a2]) (rest := [.int v5]) ((k_Mod_behind (l := l) (g := g) (α := α) N a2) _ e17) S E hI kw_Mod_449 (Or.inl rfl) ⟨by omega, by omega⟩ (mv_Mod E hI) rfl hl.1 rfl (Nat.le_of_ble_eq_true rfl) d_Mod_alike_70 rfl ?_
                refine lv_icmp_eq (tgt := 78) hx hb d_Mod_alike_73 (by decide) (fun c18 => ?_) (fun c18 => ?_)
                · replace h := Eq.trans (if_pos c18).symm h
                  refine lv_iconst (v := 0) hx hb d_Mod_alike_78 (by decide) ?_
                  refine lv_istore (lv' := [(7, .int 0), (6, .int v5), (5, .int v3), (4, .int v1), (0, .ref (mad g 0)), (1, .int a1), (2, .int a2), (3, .int a3)]) hx hb d_Mod_alike_79 hl (by decide) rfl (fun ls hl => ?_)
                  have L81 : ∀ (n81 : Nat) (x7_81 : Int32) (x6_81 : Int32) (x1_81 : Int32) (x2_81 : Int32) (x3_81 : Int32) (β81 : mS) (H : Heap) (locs : List Loc) (ls : Array Slot), f_Mod_alike_81 N kk n81 x7_81 x6_81 x1_81 x2_81 x3_81 β81 = some x → mI g A s β81 H locs → lv_has ls 8 [(7, .int x7_81), (6, .int x6_81), (0, .ref (mad g 0)), (1, .int x1_81), (2, .int x2_81), (3, .int x3_81)] → W p l e (mR (1051 + (d + 1)) (30049 + 29 * (d + 1))) s m ([.ref (mad g 0), .int a1, .int a2, .int a3]).toArray below meth c H locs 0 0 (vEQ below (mQ g A (mQr x)) ([.ref (mad g 0), .int a1, .int a2, .int a3]).toArray s A) (F0 m 81 ls []) := by
                    intro n81
                    induction n81 with
                    | zero => intro x7_81 x6_81 x1_81 x2_81 x3_81 β81 H locs ls h hI hl; rw [f_Mod_alike_81] at h; cases h
                    | succ n81 ih81 =>
                      intro x7_81 x6_81 x1_81 x2_81 x3_81 β81 H locs ls h hI hl
                      rw [f_Mod_alike_81] at h
                      refine lv_iload hx hb d_Mod_alike_81 (lv_at hl 0 rfl) ?_
                      refine lv_iload hx hb d_Mod_alike_83 (lv_at hl 1 rfl) ?_
                      refine lv_icmp_ge (tgt := 124) hx hb d_Mod_alike_85 (by decide) (fun c19 => ?_) (fun c19 => ?_)
                      · replace h := Eq.trans (if_pos c19).symm h
                        refine lv_iconst (v := 1) hx hb d_Mod_alike_124 (by decide) ?_
                        exact mc_iret (w := 1) hx hb hr (by decide) hlocks E hI h d_Mod_alike_125
                      · replace h := Eq.trans (if_neg c19).symm h
                        refine lv_aload_n hx hb d_Mod_alike_88 rfl (lv_at hl 2 rfl) ?_
                        refine lv_aload_n hx hb d_Mod_alike_89 rfl (lv_at hl 2 rfl) ?_
                        refine lv_iload_n hx hb d_Mod_alike_90 rfl (lv_at hl 3 rfl) ?_
                        refine lv_iload hx hb d_Mod_alike_91 (lv_at hl 1 rfl) ?_
                        refine lv_iload hx hb d_Mod_alike_93 (lv_at hl 0 rfl) ?_
                        obtain ⟨v20, e21, h⟩ := Option.bind_eq_some_iff.mp h
                        refine mg_p (As := [.int x1_81, .int x6_81, .int x7_81]) (rest := [.ref (mad g 0)]) ((k_Mod_nth (l := l) (g := g) (α := β81) N x1_81 x6_81 x7_81) _ e21) S E hI kw_Mod_440 (Or.inl rfl) ⟨by omega, by omega⟩ (mv_Mod E hI) rfl hl.1 rfl (Nat.le_of_ble_eq_true rfl) d_Mod_alike_95 rfl ?_
                        refine lv_aload_n hx hb d_Mod_alike_98 rfl (lv_at hl 2 rfl) ?_
                        refine lv_iload_n hx hb d_Mod_alike_99 rfl (lv_at hl 4 rfl) ?_
                        refine lv_iload hx hb d_Mod_alike_100 (lv_at hl 1 rfl) ?_
                        refine lv_iload hx hb d_Mod_alike_102 (lv_at hl 0 rfl) ?_
                        obtain ⟨v22, e23, h⟩ := Option.bind_eq_some_iff.mp h
                        refine mg_p (As := [.int x2_81, .int x6_81, .int x7_81]) (rest := [.int v20, .ref (mad g 0)]) ((k_Mod_nth (l := l) (g := g) (α := β81) N x2_81 x6_81 x7_81) _ e23) S E hI kw_Mod_440 (Or.inl rfl) ⟨by omega, by omega⟩ (mv_Mod E hI) rfl hl.1 rfl (Nat.le_of_ble_eq_true rfl) d_Mod_alike_104 rfl ?_
                        refine lv_iload_n hx hb d_Mod_alike_107 rfl (lv_at hl 5 rfl) ?_
                        refine lv_iconst (v := 1) hx hb d_Mod_alike_108 (by decide) ?_
                        refine lv_iadd hx hb d_Mod_alike_109 ?_
                        refine mg_cI (As := [.int v20, .int v22, .int (x3_81 + 1)]) (rest := []) h (hk.2 v20 v22 (x3_81 + 1) β81) S hlocks hno E hI kw_Mod_464 ⟨by omega, by omega⟩ (mv_Mod E hI) rfl hl.1 rfl (Nat.le_of_ble_eq_true rfl) d_Mod_alike_110 (fun v26 α24 H locs e25 h hI => ?_)
                        refine lv_if_ne (tgt := 118) hx hb d_Mod_alike_113 (by decide) (fun c27 => ?_) (fun c27 => ?_)
                        · replace h := Eq.trans (if_neg c27).symm h
                          refine lv_iinc (v := (x7_81 + 1)) (lv' := [(7, .int (x7_81 + 1)), (6, .int x6_81), (0, .ref (mad g 0)), (1, .int x1_81), (2, .int x2_81), (3, .int x3_81)]) hx hb d_Mod_alike_118 hl (k := 0) rfl rfl (by decide) rfl (fun ls hl => ?_)
                          refine lv_goto (tgt := 81) hx hb d_Mod_alike_121 (by decide) ?_
                          exact ih81 (x7_81 + 1) x6_81 x1_81 x2_81 x3_81 _ _ _ _ h hI (lv_sub hl [0, 1, 2, 3, 4, 5] rfl)
                        · replace h := Eq.trans (if_pos c27).symm h
                          refine lv_iconst (v := 0) hx hb d_Mod_alike_116 (by decide) ?_
                          exact mc_iret (w := 0) hx hb hr (by decide) hlocks E hI h d_Mod_alike_117
                  exact L81 N 0 v5 a1 a2 a3 _ _ _ _ h hI (lv_sub hl [0, 1, 4, 5, 6, 7] rfl)
                · replace h := Eq.trans (if_neg c18).symm h
                  refine lv_iconst (v := 0) hx hb d_Mod_alike_76 (by decide) ?_
                  exact mc_iret (w := 0) hx hb hr (by decide) hlocks E hI h d_Mod_alike_77
theorem kw_Mod_474 : kWv "FamilyKernelModel" 474 "FamilyKernelModel" y_Mod_alike b_Mod_alike 8 (some .boolean) 3 := ⟨vt_1616, vt_1617, vt_1618, vt_1349, vt_1619, by decide, by decide, by decide +kernel⟩
theorem kw_Mod_468 : kWv "FamilyKernelModel" 468 "FamilyKernelModel" y_Mod_fresh b_Mod_fresh 2 (some .int) 1 := ⟨vt_1575, vt_1576, vt_1577, vt_1349, vt_1578, by decide, by decide, by decide +kernel⟩
theorem kw_Mod_471 : kWv "FamilyKernelModel" 471 "FamilyKernelModel" y_Mod_open b_Mod_open 4 (some .int) 2 := ⟨vt_1579, vt_1580, vt_1581, vt_1349, vt_1582, by decide, by decide, by decide +kernel⟩
def f_Mod_conv_j312 (N : Nat)  (kk : (Int32 → Int32 → Int32 → mS → Option (kO × mS)) × (Int32 → Int32 → Int32 → mS → Option (kO × mS))) (y5 : Int32) (y4 : Int32) (y3 : Int32) (γ : mS) : Option (kO × mS) := mBi (kk.1 y4 y5 y3 γ) fun v24 α22 => (some (some (some (v24 &&& 1)), α22))
def f_Mod_conv_j243 (N : Nat)  (kk : (Int32 → Int32 → Int32 → mS → Option (kO × mS)) × (Int32 → Int32 → Int32 → mS → Option (kO × mS))) (y7 : Int32) (y6 : Int32) (y5 : Int32) (y4 : Int32) (y3 : Int32) (γ : mS) : Option (kO × mS) := if y7 = 7 then (if y6 = 6 then (f_Mod_conv_j312 N kk y5 y4 y3 γ) else (if y6 = 0 then (f_Mod_conv_j312 N kk y5 y4 y3 γ) else (if y5 < 0 ∨ 400000 ≤ (y5 : Int32).toNatClampNeg then none else (mBi (f_Mod_fresh N (γ.2 3 (y5 : Int32).toNatClampNeg) γ) fun v30 α28 => (if y5 < 0 ∨ 400000 ≤ (y5 : Int32).toNatClampNeg then none else (mBi (f_Mod_open N (α28.2 4 (y5 : Int32).toNatClampNeg) v30 α28) fun v34 α32 => (mBi (f_Mod_apply N y4 v30 α32) fun v37 α35 => (mBi (f_Mod_fits N v37 α35) fun v40 α38 => (mBi (kk.2 v40 v34 (y3 + 1) α38) fun v43 α41 => (some (some (some (v43 &&& 1)), α41))))))))))) else (f_Mod_conv_j312 N kk y5 y4 y3 γ)
def f_Mod_conv_j178 (N : Nat)  (kk : (Int32 → Int32 → Int32 → mS → Option (kO × mS)) × (Int32 → Int32 → Int32 → mS → Option (kO × mS))) (y7 : Int32) (y6 : Int32) (y5 : Int32) (y4 : Int32) (y3 : Int32) (γ : mS) : Option (kO × mS) := if y6 = 7 then (if y7 = 6 then (f_Mod_conv_j243 N kk y7 y6 y5 y4 y3 γ) else (if y7 = 0 then (f_Mod_conv_j243 N kk y7 y6 y5 y4 y3 γ) else (if y4 < 0 ∨ 400000 ≤ (y4 : Int32).toNatClampNeg then none else (mBi (f_Mod_fresh N (γ.2 3 (y4 : Int32).toNatClampNeg) γ) fun v49 α47 => (if y4 < 0 ∨ 400000 ≤ (y4 : Int32).toNatClampNeg then none else (mBi (f_Mod_open N (α47.2 4 (y4 : Int32).toNatClampNeg) v49 α47) fun v53 α51 => (mBi (f_Mod_apply N y5 v49 α51) fun v56 α54 => (mBi (f_Mod_fits N v56 α54) fun v59 α57 => (mBi (kk.2 v53 v59 (y3 + 1) α57) fun v62 α60 => (some (some (some (v62 &&& 1)), α60))))))))))) else (f_Mod_conv_j243 N kk y7 y6 y5 y4 y3 γ)
def f_Mod_conv_j101 (N : Nat)  (kk : (Int32 → Int32 → Int32 → mS → Option (kO × mS)) × (Int32 → Int32 → Int32 → mS → Option (kO × mS))) (y5 : Int32) (y4 : Int32) (y3 : Int32) (γ : mS) : Option (kO × mS) := if y4 < 0 ∨ 400000 ≤ (y4 : Int32).toNatClampNeg then none else (if y5 < 0 ∨ 400000 ≤ (y5 : Int32).toNatClampNeg then none else (mBi (kk.2 (γ.2 3 (y4 : Int32).toNatClampNeg) (γ.2 3 (y5 : Int32).toNatClampNeg) (y3 + 1) γ) fun v68 α66 => (if v68 = 0 then (some (some (some 0), α66)) else (if y4 < 0 ∨ 400000 ≤ (y4 : Int32).toNatClampNeg then none else (mBi (f_Mod_fresh N (α66.2 3 (y4 : Int32).toNatClampNeg) α66) fun v73 α71 => (if y4 < 0 ∨ 400000 ≤ (y4 : Int32).toNatClampNeg then none else (mBi (f_Mod_open N (α71.2 4 (y4 : Int32).toNatClampNeg) v73 α71) fun v77 α75 => (if y5 < 0 ∨ 400000 ≤ (y5 : Int32).toNatClampNeg then none else (mBi (f_Mod_open N (α75.2 4 (y5 : Int32).toNatClampNeg) v73 α75) fun v81 α79 => (mBi (kk.2 v77 v81 (y3 + 1) α79) fun v84 α82 => (some (some (some (v84 &&& 1)), α82))))))))))))
def f_Mod_conv_j87 (N : Nat)  (kk : (Int32 → Int32 → Int32 → mS → Option (kO × mS)) × (Int32 → Int32 → Int32 → mS → Option (kO × mS))) (y7 : Int32) (y6 : Int32) (y5 : Int32) (y4 : Int32) (y3 : Int32) (γ : mS) : Option (kO × mS) := if y6 = 7 then (if y7 = 7 then (f_Mod_conv_j101 N kk y5 y4 y3 γ) else (f_Mod_conv_j178 N kk y7 y6 y5 y4 y3 γ)) else (f_Mod_conv_j178 N kk y7 y6 y5 y4 y3 γ)
def f_Mod_conv (N : Nat) (kk : (Int32 → Int32 → Int32 → mS → Option (kO × mS)) × (Int32 → Int32 → Int32 → mS → Option (kO × mS))) (a1 : Int32) (a2 : Int32) (a3 : Int32) (α : mS) : Option (kO × mS) := if a3 ≤ 120 then (mBv (f_Mod_costs N 1 α) fun α2 => ((((G_same N dp_same) a1 a2 α2)).bind fun v4 => (if v4 = 0 then (mBi ((G_recursion N dp_recursion).2.2 a1 α2) fun v9 α7 => (mBi ((G_recursion N dp_recursion).2.2 a2 α7) fun v12 α10 => ((((G_same N dp_same) v9 v12 α10)).bind fun v13 => (if v13 = 0 then (if v9 < 0 ∨ 400000 ≤ (v9 : Int32).toNatClampNeg then none else (if v12 < 0 ∨ 400000 ≤ (v12 : Int32).toNatClampNeg then none else (if (α10.2 2 (v9 : Int32).toNatClampNeg) = 6 then (if (α10.2 2 (v12 : Int32).toNatClampNeg) = 6 then (f_Mod_conv_j101 N kk v12 v9 a3 α10) else (f_Mod_conv_j87 N kk (α10.2 2 (v12 : Int32).toNatClampNeg) (α10.2 2 (v9 : Int32).toNatClampNeg) v12 v9 a3 α10)) else (f_Mod_conv_j87 N kk (α10.2 2 (v12 : Int32).toNatClampNeg) (α10.2 2 (v9 : Int32).toNatClampNeg) v12 v9 a3 α10)))) else (some (some (some 1), α10)))))) else (some (some (some 1), α2))))) else (some (none, (mTh α 10 (-1))))
set_option maxHeartbeats 4000000 in
set_option maxRecDepth 100000 in
theorem k_Mod_conv {l : Launch} {g : mG} {α : mS} (N : Nat) (kk : (Int32 → Int32 → Int32 → mS → Option (kO × mS)) × (Int32 → Int32 → Int32 → mS → Option (kO × mS))) (d : Nat) (hk : hk_alike l g kk (1051 + d) (30049 + 29 * d)) (a1 : Int32) (a2 : Int32) (a3 : Int32)  : ∀ x, f_Mod_conv N kk a1 a2 a3 α = some x → mC l g y_Mod_conv b_Mod_conv 10 (some .boolean) (1051 + (d + 1)) (30049 + 29 * (d + 1)) [.ref (mad g 0), .int a1, .int a2, .int a3] α (mQr x) := by
  intro x h
  unfold f_Mod_conv at h
  refine mc_ofW (by decide) (fun A p e s m args below meth c S hr hlocks hno hargs E hI => ?_)
  have hx := S.1
  have hb := S.2.1
  have hown := S.2.2.2.1
  have hT := S.2.2.2.2
  subst hargs
  have hl := lv_entry ([.ref (mad g 0), .int a1, .int a2, .int a3]) (n := 10) (Nat.le_of_ble_eq_true rfl)
  rw [lg_entry_eq]
  generalize (lg_sl ([.ref (mad g 0), .int a1, .int a2, .int a3]) ++ List.replicate (10 - (lg_sl ([.ref (mad g 0), .int a1, .int a2, .int a3])).length) Slot.unset).toArray = ls at hl ⊢
  have hl : lv_has ls 10 [(0, .ref (mad g 0)), (1, .int a1), (2, .int a2), (3, .int a3)] := hl
  have J312 : ∀ (y5 : Int32) (y4 : Int32) (y3 : Int32) (γ : mS) (H : Heap) (locs : List Loc) (ls : Array Slot), f_Mod_conv_j312 N kk y5 y4 y3 γ = some x → mI g A s γ H locs → lv_has ls 10 [(5, .int y5), (4, .int y4), (0, .ref (mad g 0)), (3, .int y3)] → W p l e (mR (1051 + (d + 1)) (30049 + 29 * (d + 1))) s m ([.ref (mad g 0), .int a1, .int a2, .int a3]).toArray below meth c H locs 0 0 (vEQ below (mQ g A (mQr x)) ([.ref (mad g 0), .int a1, .int a2, .int a3]).toArray s A) (F0 m 312 ls []) := by
    intro y5 y4 y3 γ H locs ls h hI hl
    unfold f_Mod_conv_j312 at h
    refine lv_aload_n hx hb d_Mod_conv_312 rfl (lv_at hl 2 rfl) ?_
    refine lv_iload hx hb d_Mod_conv_313 (lv_at hl 1 rfl) ?_
    refine lv_iload hx hb d_Mod_conv_315 (lv_at hl 0 rfl) ?_
    refine lv_iload_n hx hb d_Mod_conv_317 rfl (lv_at hl 3 rfl) ?_
    refine mg_cI (As := [.int y4, .int y5, .int y3]) (rest := []) h (hk.1 y4 y5 y3 γ) S hlocks hno E hI kw_Mod_474 ⟨by omega, by omega⟩ (mv_Mod E hI) rfl hl.1 rfl (Nat.le_of_ble_eq_true rfl) d_Mod_conv_318 (fun v24 α22 H locs e23 h hI => ?_)
    exact mc_iret (w := (v24 &&& 1)) hx hb hr rfl hlocks E hI h d_Mod_conv_321
  have J243 : ∀ (y7 : Int32) (y6 : Int32) (y5 : Int32) (y4 : Int32) (y3 : Int32) (γ : mS) (H : Heap) (locs : List Loc) (ls : Array Slot), f_Mod_conv_j243 N kk y7 y6 y5 y4 y3 γ = some x → mI g A s γ H locs → lv_has ls 10 [(7, .int y7), (6, .int y6), (5, .int y5), (4, .int y4), (0, .ref (mad g 0)), (3, .int y3)] → W p l e (mR (1051 + (d + 1)) (30049 + 29 * (d + 1))) s m ([.ref (mad g 0), .int a1, .int a2, .int a3]).toArray below meth c H locs 0 0 (vEQ below (mQ g A (mQr x)) ([.ref (mad g 0), .int a1, .int a2, .int a3]).toArray s A) (F0 m 243 ls []) := by
    intro y7 y6 y5 y4 y3 γ H locs ls h hI hl
    unfold f_Mod_conv_j243 at h
    refine lv_iload hx hb d_Mod_conv_243 (lv_at hl 0 rfl) ?_
    refine lv_bipush (v := 7) hx hb d_Mod_conv_245 (by decide) ?_
    refine lv_icmp_ne (tgt := 312) hx hb d_Mod_conv_247 (by decide) (fun c21 => ?_) (fun c21 => ?_)
    · replace h := Eq.trans (if_neg c21).symm h
      exact J312 y5 y4 y3 _ _ _ _ h hI (lv_sub hl [2, 3, 4, 5] rfl)
    · replace h := Eq.trans (if_pos c21).symm h
      refine lv_iload hx hb d_Mod_conv_250 (lv_at hl 1 rfl) ?_
      refine lv_bipush (v := 6) hx hb d_Mod_conv_252 (by decide) ?_
      refine lv_icmp_eq (tgt := 312) hx hb d_Mod_conv_254 (by decide) (fun c25 => ?_) (fun c25 => ?_)
      · replace h := Eq.trans (if_pos c25).symm h
        exact J312 y5 y4 y3 _ _ _ _ h hI (lv_sub hl [2, 3, 4, 5] rfl)
      · replace h := Eq.trans (if_neg c25).symm h
        refine lv_iload hx hb d_Mod_conv_257 (lv_at hl 1 rfl) ?_
        refine lv_if_eq (tgt := 312) hx hb d_Mod_conv_259 (by decide) (fun c26 => ?_) (fun c26 => ?_)
        · replace h := Eq.trans (if_pos c26).symm h
          exact J312 y5 y4 y3 _ _ _ _ h hI (lv_sub hl [2, 3, 4, 5] rfl)
        · replace h := Eq.trans (if_neg c26).symm h
          refine lv_aload_n hx hb d_Mod_conv_262 rfl (lv_at hl 4 rfl) ?_
          refine lv_aload_n hx hb d_Mod_conv_263 rfl (lv_at hl 4 rfl) ?_
          refine mf_one S E hI vt_1280 d_Mod_conv_264 ?_
          refine lv_iload hx hb d_Mod_conv_267 (lv_at hl 2 rfl) ?_
          by_cases c27 : y5 < 0 ∨ 400000 ≤ (y5 : Int32).toNatClampNeg
          · replace h := Eq.trans (if_pos c27).symm h
            cases h
          · replace h := Eq.trans (if_neg c27).symm h
            refine ml_one S E hI c27 d_Mod_conv_269 ?_
            refine mg_cI (As := [.int (γ.2 3 (y5 : Int32).toNatClampNeg)]) (rest := []) h (k_Mod_fresh (l := l) (g := g) (α := γ) N (γ.2 3 (y5 : Int32).toNatClampNeg)) S hlocks hno E hI kw_Mod_468 ⟨by omega, by omega⟩ (mv_Mod E hI) rfl hl.1 rfl (Nat.le_of_ble_eq_true rfl) d_Mod_conv_270 (fun v30 α28 H locs e29 h hI => ?_)
            refine lv_istore (lv' := [(8, .int v30), (7, .int y7), (6, .int y6), (5, .int y5), (4, .int y4), (0, .ref (mad g 0)), (3, .int y3)]) hx hb d_Mod_conv_273 hl (by decide) rfl (fun ls hl => ?_)
            refine lv_aload_n hx hb d_Mod_conv_275 rfl (lv_at hl 5 rfl) ?_
            refine lv_aload_n hx hb d_Mod_conv_276 rfl (lv_at hl 5 rfl) ?_
            refine mf_two S E hI vt_1281 d_Mod_conv_277 ?_
            refine lv_iload hx hb d_Mod_conv_280 (lv_at hl 3 rfl) ?_
            by_cases c31 : y5 < 0 ∨ 400000 ≤ (y5 : Int32).toNatClampNeg
            · replace h := Eq.trans (if_pos c31).symm h
              cases h
            · replace h := Eq.trans (if_neg c31).symm h
              refine ml_two S E hI c31 d_Mod_conv_282 ?_
              refine lv_iload hx hb d_Mod_conv_283 (lv_at hl 0 rfl) ?_
              refine mg_cI (As := [.int (α28.2 4 (y5 : Int32).toNatClampNeg), .int v30]) (rest := []) h (k_Mod_open (l := l) (g := g) (α := α28) N (α28.2 4 (y5 : Int32).toNatClampNeg) v30) S hlocks hno E hI kw_Mod_471 ⟨by omega, by omega⟩ (mv_Mod E hI) rfl hl.1 rfl (Nat.le_of_ble_eq_true rfl) d_Mod_conv_285 (fun v34 α32 H locs e33 h hI => ?_)
              refine lv_istore (lv' := [(9, .int v34), (8, .int v30), (7, .int y7), (6, .int y6), (5, .int y5), (4, .int y4), (0, .ref (mad g 0)), (3, .int y3)]) hx hb d_Mod_conv_288 hl (by decide) rfl (fun ls hl => ?_)
              refine lv_aload_n hx hb d_Mod_conv_290 rfl (lv_at hl 6 rfl) ?_
              refine lv_aload_n hx hb d_Mod_conv_291 rfl (lv_at hl 6 rfl) ?_
              refine lv_aload_n hx hb d_Mod_conv_292 rfl (lv_at hl 6 rfl) ?_
              refine lv_iload hx hb d_Mod_conv_293 (lv_at hl 5 rfl) ?_
              refine lv_iload hx hb d_Mod_conv_295 (lv_at hl 1 rfl) ?_
              refine mg_cI (As := [.int y4, .int v30]) (rest := [.ref (mad g 0), .ref (mad g 0)]) h (k_Mod_apply (l := l) (g := g) (α := α32) N y4 v30) S hlocks hno E hI kw_Mod_350 ⟨by omega, by omega⟩ (mv_Mod E hI) rfl hl.1 rfl (Nat.le_of_ble_eq_true rfl) d_Mod_conv_297 (fun v37 α35 H locs e36 h hI => ?_)
              refine mg_cI (As := [.int v37]) (rest := [.ref (mad g 0)]) h (k_Mod_fits (l := l) (g := g) (α := α35) N v37) S hlocks hno E hI kw_Mod_402 ⟨by omega, by omega⟩ (mv_Mod E hI) rfl hl.1 rfl (Nat.le_of_ble_eq_true rfl) d_Mod_conv_300 (fun v40 α38 H locs e39 h hI => ?_)
              refine lv_iload hx hb d_Mod_conv_303 (lv_at hl 0 rfl) ?_
              refine lv_iload_n hx hb d_Mod_conv_305 rfl (lv_at hl 7 rfl) ?_
              refine lv_iconst (v := 1) hx hb d_Mod_conv_306 (by decide) ?_
              refine lv_iadd hx hb d_Mod_conv_307 ?_
              refine mg_cI (As := [.int v40, .int v34, .int (y3 + 1)]) (rest := []) h (hk.2 v40 v34 (y3 + 1) α38) S hlocks hno E hI kw_Mod_464 ⟨by omega, by omega⟩ (mv_Mod E hI) rfl hl.1 rfl (Nat.le_of_ble_eq_true rfl) d_Mod_conv_308 (fun v43 α41 H locs e42 h hI => ?_)
              exact mc_iret (w := (v43 &&& 1)) hx hb hr rfl hlocks E hI h d_Mod_conv_311
  have J178 : ∀ (y7 : Int32) (y6 : Int32) (y5 : Int32) (y4 : Int32) (y3 : Int32) (γ : mS) (H : Heap) (locs : List Loc) (ls : Array Slot), f_Mod_conv_j178 N kk y7 y6 y5 y4 y3 γ = some x → mI g A s γ H locs → lv_has ls 10 [(7, .int y7), (6, .int y6), (5, .int y5), (4, .int y4), (0, .ref (mad g 0)), (3, .int y3)] → W p l e (mR (1051 + (d + 1)) (30049 + 29 * (d + 1))) s m ([.ref (mad g 0), .int a1, .int a2, .int a3]).toArray below meth c H locs 0 0 (vEQ below (mQ g A (mQr x)) ([.ref (mad g 0), .int a1, .int a2, .int a3]).toArray s A) (F0 m 178 ls []) := by
    intro y7 y6 y5 y4 y3 γ H locs ls h hI hl
    unfold f_Mod_conv_j178 at h
    refine lv_iload hx hb d_Mod_conv_178 (lv_at hl 1 rfl) ?_
    refine lv_bipush (v := 7) hx hb d_Mod_conv_180 (by decide) ?_
    refine lv_icmp_ne (tgt := 243) hx hb d_Mod_conv_182 (by decide) (fun c20 => ?_) (fun c20 => ?_)
    · replace h := Eq.trans (if_neg c20).symm h
      exact J243 y7 y6 y5 y4 y3 _ _ _ _ h hI (lv_sub hl [0, 1, 2, 3, 4, 5] rfl)
    · replace h := Eq.trans (if_pos c20).symm h
      refine lv_iload hx hb d_Mod_conv_185 (lv_at hl 0 rfl) ?_
      refine lv_bipush (v := 6) hx hb d_Mod_conv_187 (by decide) ?_
      refine lv_icmp_eq (tgt := 243) hx hb d_Mod_conv_189 (by decide) (fun c44 => ?_) (fun c44 => ?_)
      · replace h := Eq.trans (if_pos c44).symm h
        exact J243 y7 y6 y5 y4 y3 _ _ _ _ h hI (lv_sub hl [0, 1, 2, 3, 4, 5] rfl)
      · replace h := Eq.trans (if_neg c44).symm h
        refine lv_iload hx hb d_Mod_conv_192 (lv_at hl 0 rfl) ?_
        refine lv_if_eq (tgt := 243) hx hb d_Mod_conv_194 (by decide) (fun c45 => ?_) (fun c45 => ?_)
        · replace h := Eq.trans (if_pos c45).symm h
          exact J243 y7 y6 y5 y4 y3 _ _ _ _ h hI (lv_sub hl [0, 1, 2, 3, 4, 5] rfl)
        · replace h := Eq.trans (if_neg c45).symm h
          refine lv_aload_n hx hb d_Mod_conv_197 rfl (lv_at hl 4 rfl) ?_
          refine lv_aload_n hx hb d_Mod_conv_198 rfl (lv_at hl 4 rfl) ?_
          refine mf_one S E hI vt_1280 d_Mod_conv_199 ?_
          refine lv_iload hx hb d_Mod_conv_202 (lv_at hl 3 rfl) ?_
          by_cases c46 : y4 < 0 ∨ 400000 ≤ (y4 : Int32).toNatClampNeg
          · replace h := Eq.trans (if_pos c46).symm h
            cases h
          · replace h := Eq.trans (if_neg c46).symm h
            refine ml_one S E hI c46 d_Mod_conv_204 ?_
            refine mg_cI (As := [.int (γ.2 3 (y4 : Int32).toNatClampNeg)]) (rest := []) h (k_Mod_fresh (l := l) (g := g) (α := γ) N (γ.2 3 (y4 : Int32).toNatClampNeg)) S hlocks hno E hI kw_Mod_468 ⟨by omega, by omega⟩ (mv_Mod E hI) rfl hl.1 rfl (Nat.le_of_ble_eq_true rfl) d_Mod_conv_205 (fun v49 α47 H locs e48 h hI => ?_)
            refine lv_istore (lv' := [(8, .int v49), (7, .int y7), (6, .int y6), (5, .int y5), (4, .int y4), (0, .ref (mad g 0)), (3, .int y3)]) hx hb d_Mod_conv_208 hl (by decide) rfl (fun ls hl => ?_)
            refine lv_aload_n hx hb d_Mod_conv_210 rfl (lv_at hl 5 rfl) ?_
            refine lv_aload_n hx hb d_Mod_conv_211 rfl (lv_at hl 5 rfl) ?_
            refine lv_aload_n hx hb d_Mod_conv_212 rfl (lv_at hl 5 rfl) ?_
            refine mf_two S E hI vt_1281 d_Mod_conv_213 ?_
            refine lv_iload hx hb d_Mod_conv_216 (lv_at hl 4 rfl) ?_
            by_cases c50 : y4 < 0 ∨ 400000 ≤ (y4 : Int32).toNatClampNeg
            · replace h := Eq.trans (if_pos c50).symm h
              cases h
            · replace h := Eq.trans (if_neg c50).symm h
              refine ml_two S E hI c50 d_Mod_conv_218 ?_
              refine lv_iload hx hb d_Mod_conv_219 (lv_at hl 0 rfl) ?_
              refine mg_cI (As := [.int (α47.2 4 (y4 : Int32).toNatClampNeg), .int v49]) (rest := [.ref (mad g 0)]) h (k_Mod_open (l := l) (g := g) (α := α47) N (α47.2 4 (y4 : Int32).toNatClampNeg) v49) S hlocks hno E hI kw_Mod_471 ⟨by omega, by omega⟩ (mv_Mod E hI) rfl hl.1 rfl (Nat.le_of_ble_eq_true rfl) d_Mod_conv_221 (fun v53 α51 H locs e52 h hI => ?_)
              refine lv_aload_n hx hb d_Mod_conv_224 rfl (lv_at hl 5 rfl) ?_
              refine lv_aload_n hx hb d_Mod_conv_225 rfl (lv_at hl 5 rfl) ?_
              refine lv_iload hx hb d_Mod_conv_226 (lv_at hl 3 rfl) ?_
              refine lv_iload hx hb d_Mod_conv_228 (lv_at hl 0 rfl) ?_
              refine mg_cI (As := [.int y5, .int v49]) (rest := [.ref (mad g 0), .int v53, .ref (mad g 0)]) h (k_Mod_apply (l := l) (g := g) (α := α51) N y5 v49) S hlocks hno E hI kw_Mod_350 ⟨by omega, by omega⟩ (mv_Mod E hI) rfl hl.1 rfl (Nat.le_of_ble_eq_true rfl) d_Mod_conv_230 (fun v56 α54 H locs e55 h hI => ?_)
              refine mg_cI (As := [.int v56]) (rest := [.int v53, .ref (mad g 0)]) h (k_Mod_fits (l := l) (g := g) (α := α54) N v56) S hlocks hno E hI kw_Mod_402 ⟨by omega, by omega⟩ (mv_Mod E hI) rfl hl.1 rfl (Nat.le_of_ble_eq_true rfl) d_Mod_conv_233 (fun v59 α57 H locs e58 h hI => ?_)
              refine lv_iload_n hx hb d_Mod_conv_236 rfl (lv_at hl 6 rfl) ?_
              refine lv_iconst (v := 1) hx hb d_Mod_conv_237 (by decide) ?_
              refine lv_iadd hx hb d_Mod_conv_238 ?_
              refine mg_cI (As := [.int v53, .int v59, .int (y3 + 1)]) (rest := []) h (hk.2 v53 v59 (y3 + 1) α57) S hlocks hno E hI kw_Mod_464 ⟨by omega, by omega⟩ (mv_Mod E hI) rfl hl.1 rfl (Nat.le_of_ble_eq_true rfl) d_Mod_conv_239 (fun v62 α60 H locs e61 h hI => ?_)
              exact mc_iret (w := (v62 &&& 1)) hx hb hr rfl hlocks E hI h d_Mod_conv_242
  have J101 : ∀ (y5 : Int32) (y4 : Int32) (y3 : Int32) (γ : mS) (H : Heap) (locs : List Loc) (ls : Array Slot), f_Mod_conv_j101 N kk y5 y4 y3 γ = some x → mI g A s γ H locs → lv_has ls 10 [(5, .int y5), (4, .int y4), (0, .ref (mad g 0)), (3, .int y3)] → W p l e (mR (1051 + (d + 1)) (30049 + 29 * (d + 1))) s m ([.ref (mad g 0), .int a1, .int a2, .int a3]).toArray below meth c H locs 0 0 (vEQ below (mQ g A (mQr x)) ([.ref (mad g 0), .int a1, .int a2, .int a3]).toArray s A) (F0 m 101 ls []) := by
    intro y5 y4 y3 γ H locs ls h hI hl
    unfold f_Mod_conv_j101 at h
    refine lv_aload_n hx hb d_Mod_conv_101 rfl (lv_at hl 2 rfl) ?_
    refine lv_aload_n hx hb d_Mod_conv_102 rfl (lv_at hl 2 rfl) ?_
    refine mf_one S E hI vt_1280 d_Mod_conv_103 ?_
    refine lv_iload hx hb d_Mod_conv_106 (lv_at hl 1 rfl) ?_
    by_cases c64 : y4 < 0 ∨ 400000 ≤ (y4 : Int32).toNatClampNeg
    · replace h := Eq.trans (if_pos c64).symm h
      cases h
    · replace h := Eq.trans (if_neg c64).symm h
      refine ml_one S E hI c64 d_Mod_conv_108 ?_
      refine lv_aload_n hx hb d_Mod_conv_109 rfl (lv_at hl 2 rfl) ?_
      refine mf_one S E hI vt_1280 d_Mod_conv_110 ?_
      refine lv_iload hx hb d_Mod_conv_113 (lv_at hl 0 rfl) ?_
      by_cases c65 : y5 < 0 ∨ 400000 ≤ (y5 : Int32).toNatClampNeg
      · replace h := Eq.trans (if_pos c65).symm h
        cases h
      · replace h := Eq.trans (if_neg c65).symm h
        refine ml_one S E hI c65 d_Mod_conv_115 ?_
        refine lv_iload_n hx hb d_Mod_conv_116 rfl (lv_at hl 3 rfl) ?_
        refine lv_iconst (v := 1) hx hb d_Mod_conv_117 (by decide) ?_
        refine lv_iadd hx hb d_Mod_conv_118 ?_
        refine mg_cI (As := [.int (γ.2 3 (y4 : Int32).toNatClampNeg), .int (γ.2 3 (y5 : Int32).toNatClampNeg), .int (y3 + 1)]) (rest := []) h (hk.2 (γ.2 3 (y4 : Int32).toNatClampNeg) (γ.2 3 (y5 : Int32).toNatClampNeg) (y3 + 1) γ) S hlocks hno E hI kw_Mod_464 ⟨by omega, by omega⟩ (mv_Mod E hI) rfl hl.1 rfl (Nat.le_of_ble_eq_true rfl) d_Mod_conv_119 (fun v68 α66 H locs e67 h hI => ?_)
        refine lv_if_ne (tgt := 127) hx hb d_Mod_conv_122 (by decide) (fun c69 => ?_) (fun c69 => ?_)
        · replace h := Eq.trans (if_neg c69).symm h
          refine lv_aload_n hx hb d_Mod_conv_127 rfl (lv_at hl 2 rfl) ?_
          refine lv_aload_n hx hb d_Mod_conv_128 rfl (lv_at hl 2 rfl) ?_
          refine mf_one S E hI vt_1280 d_Mod_conv_129 ?_
          refine lv_iload hx hb d_Mod_conv_132 (lv_at hl 1 rfl) ?_
          by_cases c70 : y4 < 0 ∨ 400000 ≤ (y4 : Int32).toNatClampNeg
          · replace h := Eq.trans (if_pos c70).symm h
            cases h
          · replace h := Eq.trans (if_neg c70).symm h
            refine ml_one S E hI c70 d_Mod_conv_134 ?_
            refine mg_cI (As := [.int (α66.2 3 (y4 : Int32).toNatClampNeg)]) (rest := []) h (k_Mod_fresh (l := l) (g := g) (α := α66) N (α66.2 3 (y4 : Int32).toNatClampNeg)) S hlocks hno E hI kw_Mod_468 ⟨by omega, by omega⟩ (mv_Mod E hI) rfl hl.1 rfl (Nat.le_of_ble_eq_true rfl) d_Mod_conv_135 (fun v73 α71 H locs e72 h hI => ?_)
            refine lv_istore (lv' := [(8, .int v73), (5, .int y5), (4, .int y4), (0, .ref (mad g 0)), (3, .int y3)]) hx hb d_Mod_conv_138 hl (by decide) rfl (fun ls hl => ?_)
            refine lv_aload_n hx hb d_Mod_conv_140 rfl (lv_at hl 3 rfl) ?_
            refine lv_aload_n hx hb d_Mod_conv_141 rfl (lv_at hl 3 rfl) ?_
            refine mf_two S E hI vt_1281 d_Mod_conv_142 ?_
            refine lv_iload hx hb d_Mod_conv_145 (lv_at hl 2 rfl) ?_
            by_cases c74 : y4 < 0 ∨ 400000 ≤ (y4 : Int32).toNatClampNeg
            · replace h := Eq.trans (if_pos c74).symm h
              cases h
            · replace h := Eq.trans (if_neg c74).symm h
              refine ml_two S E hI c74 d_Mod_conv_147 ?_
              refine lv_iload hx hb d_Mod_conv_148 (lv_at hl 0 rfl) ?_
              refine mg_cI (As := [.int (α71.2 4 (y4 : Int32).toNatClampNeg), .int v73]) (rest := []) h (k_Mod_open (l := l) (g := g) (α := α71) N (α71.2 4 (y4 : Int32).toNatClampNeg) v73) S hlocks hno E hI kw_Mod_471 ⟨by omega, by omega⟩ (mv_Mod E hI) rfl hl.1 rfl (Nat.le_of_ble_eq_true rfl) d_Mod_conv_150 (fun v77 α75 H locs e76 h hI => ?_)
              refine lv_istore (lv' := [(9, .int v77), (8, .int v73), (5, .int y5), (4, .int y4), (0, .ref (mad g 0)), (3, .int y3)]) hx hb d_Mod_conv_153 hl (by decide) rfl (fun ls hl => ?_)
              refine lv_aload_n hx hb d_Mod_conv_155 rfl (lv_at hl 4 rfl) ?_
              refine lv_iload hx hb d_Mod_conv_156 (lv_at hl 0 rfl) ?_
              refine lv_aload_n hx hb d_Mod_conv_158 rfl (lv_at hl 4 rfl) ?_
              refine lv_aload_n hx hb d_Mod_conv_159 rfl (lv_at hl 4 rfl) ?_
              refine mf_two S E hI vt_1281 d_Mod_conv_160 ?_
              refine lv_iload hx hb d_Mod_conv_163 (lv_at hl 2 rfl) ?_
              by_cases c78 : y5 < 0 ∨ 400000 ≤ (y5 : Int32).toNatClampNeg
              · replace h := Eq.trans (if_pos c78).symm h
                cases h
              · replace h := Eq.trans (if_neg c78).symm h
                refine ml_two S E hI c78 d_Mod_conv_165 ?_
                refine lv_iload hx hb d_Mod_conv_166 (lv_at hl 1 rfl) ?_
                refine mg_cI (As := [.int (α75.2 4 (y5 : Int32).toNatClampNeg), .int v73]) (rest := [.int v77, .ref (mad g 0)]) h (k_Mod_open (l := l) (g := g) (α := α75) N (α75.2 4 (y5 : Int32).toNatClampNeg) v73) S hlocks hno E hI kw_Mod_471 ⟨by omega, by omega⟩ (mv_Mod E hI) rfl hl.1 rfl (Nat.le_of_ble_eq_true rfl) d_Mod_conv_168 (fun v81 α79 H locs e80 h hI => ?_)
                refine lv_iload_n hx hb d_Mod_conv_171 rfl (lv_at hl 5 rfl) ?_
                refine lv_iconst (v := 1) hx hb d_Mod_conv_172 (by decide) ?_
                refine lv_iadd hx hb d_Mod_conv_173 ?_
                refine mg_cI (As := [.int v77, .int v81, .int (y3 + 1)]) (rest := []) h (hk.2 v77 v81 (y3 + 1) α79) S hlocks hno E hI kw_Mod_464 ⟨by omega, by omega⟩ (mv_Mod E hI) rfl hl.1 rfl (Nat.le_of_ble_eq_true rfl) d_Mod_conv_174 (fun v84 α82 H locs e83 h hI => ?_)
                exact mc_iret (w := (v84 &&& 1)) hx hb hr rfl hlocks E hI h d_Mod_conv_177
        · replace h := Eq.trans (if_pos c69).symm h
          refine lv_iconst (v := 0) hx hb d_Mod_conv_125 (by decide) ?_
          exact mc_iret (w := 0) hx hb hr (by decide) hlocks E hI h d_Mod_conv_126
  have J87 : ∀ (y7 : Int32) (y6 : Int32) (y5 : Int32) (y4 : Int32) (y3 : Int32) (γ : mS) (H : Heap) (locs : List Loc) (ls : Array Slot), f_Mod_conv_j87 N kk y7 y6 y5 y4 y3 γ = some x → mI g A s γ H locs → lv_has ls 10 [(7, .int y7), (6, .int y6), (5, .int y5), (4, .int y4), (0, .ref (mad g 0)), (3, .int y3)] → W p l e (mR (1051 + (d + 1)) (30049 + 29 * (d + 1))) s m ([.ref (mad g 0), .int a1, .int a2, .int a3]).toArray below meth c H locs 0 0 (vEQ below (mQ g A (mQr x)) ([.ref (mad g 0), .int a1, .int a2, .int a3]).toArray s A) (F0 m 87 ls []) := by
    intro y7 y6 y5 y4 y3 γ H locs ls h hI hl
    unfold f_Mod_conv_j87 at h
    refine lv_iload hx hb d_Mod_conv_87 (lv_at hl 1 rfl) ?_
    refine lv_bipush (v := 7) hx hb d_Mod_conv_89 (by decide) ?_
    refine lv_icmp_ne (tgt := 178) hx hb d_Mod_conv_91 (by decide) (fun c19 => ?_) (fun c19 => ?_)
    · replace h := Eq.trans (if_neg c19).symm h
      exact J178 y7 y6 y5 y4 y3 _ _ _ _ h hI (lv_sub hl [0, 1, 2, 3, 4, 5] rfl)
    · replace h := Eq.trans (if_pos c19).symm h
      refine lv_iload hx hb d_Mod_conv_94 (lv_at hl 0 rfl) ?_
      refine lv_bipush (v := 7) hx hb d_Mod_conv_96 (by decide) ?_
      refine lv_icmp_ne (tgt := 178) hx hb d_Mod_conv_98 (by decide) (fun c63 => ?_) (fun c63 => ?_)
      · replace h := Eq.trans (if_neg c63).symm h
        exact J178 y7 y6 y5 y4 y3 _ _ _ _ h hI (lv_sub hl [0, 1, 2, 3, 4, 5] rfl)
      · replace h := Eq.trans (if_pos c63).symm h
        exact J101 y5 y4 y3 _ _ _ _ h hI (lv_sub hl [2, 3, 4, 5] rfl)
  refine lv_iload_n hx hb d_Mod_conv_0 rfl (lv_at hl 3 rfl) ?_
  refine lv_bipush (v := 120) hx hb d_Mod_conv_1 (by decide) ?_
  refine lv_icmp_le (tgt := 12) hx hb d_Mod_conv_3 (by decide) (fun c1 => ?_) (fun c1 => ?_)
  · replace h := Eq.trans (if_pos c1).symm h
    refine lv_aload_n hx hb d_Mod_conv_12 rfl (lv_at hl 0 rfl) ?_
    refine lv_iconst (v := 1) hx hb d_Mod_conv_13 (by decide) ?_
    refine mg_cV (As := [.int 1]) (rest := []) h (k_Mod_costs (l := l) (g := g) (α := α) N 1) S hlocks hno E hI kw_Mod_434 ⟨by omega, by omega⟩ (mv_Mod E hI) rfl hl.1 rfl (Nat.le_of_ble_eq_true rfl) d_Mod_conv_14 (fun α2 H locs e3 h hI => ?_)
    refine lv_aload_n hx hb d_Mod_conv_17 rfl (lv_at hl 0 rfl) ?_
    refine lv_iload_n hx hb d_Mod_conv_18 rfl (lv_at hl 1 rfl) ?_
    refine lv_iload_n hx hb d_Mod_conv_19 rfl (lv_at hl 2 rfl) ?_
    obtain ⟨v4, e5, h⟩ := Option.bind_eq_some_iff.mp h
    refine mg_p (As := [.int a1, .int a2]) (rest := []) ((((ok_same (l := l) (g := g) N dp_same)) a1 a2 α2) _ e5) S E hI kw_Mod_340 (Or.inl rfl) ⟨by unfold dp_same; omega, by unfold dp_same; omega⟩ (mv_Mod E hI) rfl hl.1 rfl (Nat.le_of_ble_eq_true rfl) d_Mod_conv_20 rfl ?_
    refine lv_if_eq (tgt := 28) hx hb d_Mod_conv_23 (by decide) (fun c6 => ?_) (fun c6 => ?_)
    · replace h := Eq.trans (if_pos c6).symm h
      refine lv_aload_n hx hb d_Mod_conv_28 rfl (lv_at hl 0 rfl) ?_
      refine lv_iload_n hx hb d_Mod_conv_29 rfl (lv_at hl 1 rfl) ?_
      refine mg_cI (As := [.int a1]) (rest := []) h (((ok_recursion (l := l) (g := g) N dp_recursion).2.2) a1 α2) S hlocks hno E hI kw_Mod_458 ⟨by unfold dp_recursion; omega, by unfold dp_recursion; omega⟩ (mv_Mod E hI) rfl hl.1 rfl (Nat.le_of_ble_eq_true rfl) d_Mod_conv_30 (fun v9 α7 H locs e8 h hI => ?_)
      refine lv_istore (lv' := [(4, .int v9), (0, .ref (mad g 0)), (1, .int a1), (2, .int a2), (3, .int a3)]) hx hb d_Mod_conv_33 hl (by decide) rfl (fun ls hl => ?_)
      refine lv_aload_n hx hb d_Mod_conv_35 rfl (lv_at hl 1 rfl) ?_
      refine lv_iload_n hx hb d_Mod_conv_36 rfl (lv_at hl 3 rfl) ?_
      refine mg_cI (As := [.int a2]) (rest := []) h (((ok_recursion (l := l) (g := g) N dp_recursion).2.2) a2 α7) S hlocks hno E hI kw_Mod_458 ⟨by unfold dp_recursion; omega, by unfold dp_recursion; omega⟩ (mv_Mod E hI) rfl hl.1 rfl (Nat.le_of_ble_eq_true rfl) d_Mod_conv_37 (fun v12 α10 H locs e11 h hI => ?_)
      refine lv_istore (lv' := [(5, .int v12), (4, .int v9), (0, .ref (mad g 0)), (1, .int a1), (2, .int a2), (3, .int a3)]) hx hb d_Mod_conv_40 hl (by decide) rfl (fun ls hl => ?_)
      refine lv_aload_n hx hb d_Mod_conv_42 rfl (lv_at hl 2 rfl) ?_
      refine lv_iload hx hb d_Mod_conv_43 (lv_at hl 1 rfl) ?_
      refine lv_iload hx hb d_Mod_conv_45 (lv_at hl 0 rfl) ?_
      obtain ⟨v13, e14, h⟩ := Option.bind_eq_some_iff.mp h
      refine mg_p (As := [.int v9, .int v12]) (rest := []) ((((ok_same (l := l) (g := g) N dp_same)) v9 v12 α10) _ e14) S E hI kw_Mod_340 (Or.inl rfl) ⟨by unfold dp_same; omega, by unfold dp_same; omega⟩ (mv_Mod E hI) rfl hl.1 rfl (Nat.le_of_ble_eq_true rfl) d_Mod_conv_47 rfl ?_
      refine lv_if_eq (tgt := 55) hx hb d_Mod_conv_50 (by decide) (fun c15 => ?_) (fun c15 => ?_)
      · replace h := Eq.trans (if_pos c15).symm h
        refine lv_aload_n hx hb d_Mod_conv_55 rfl (lv_at hl 2 rfl) ?_
        refine mf_kind S E hI vt_1279 d_Mod_conv_56 ?_
        refine lv_iload hx hb d_Mod_conv_59 (lv_at hl 1 rfl) ?_
        by_cases c16 : v9 < 0 ∨ 400000 ≤ (v9 : Int32).toNatClampNeg
        · replace h := Eq.trans (if_pos c16).symm h
          cases h
        · replace h := Eq.trans (if_neg c16).symm h
          refine ml_kind S E hI c16 d_Mod_conv_61 ?_
          refine lv_istore (lv' := [(6, .int (α10.2 2 (v9 : Int32).toNatClampNeg)), (5, .int v12), (4, .int v9), (0, .ref (mad g 0)), (1, .int a1), (2, .int a2), (3, .int a3)]) hx hb d_Mod_conv_62 hl (by decide) rfl (fun ls hl => ?_)
          refine lv_aload_n hx hb d_Mod_conv_64 rfl (lv_at hl 3 rfl) ?_
          refine mf_kind S E hI vt_1279 d_Mod_conv_65 ?_
          refine lv_iload hx hb d_Mod_conv_68 (lv_at hl 1 rfl) ?_
          by_cases c17 : v12 < 0 ∨ 400000 ≤ (v12 : Int32).toNatClampNeg
          · replace h := Eq.trans (if_pos c17).symm h
            cases h
          · replace h := Eq.trans (if_neg c17).symm h
            refine ml_kind S E hI c17 d_Mod_conv_70 ?_
            refine lv_istore (lv' := [(7, .int (α10.2 2 (v12 : Int32).toNatClampNeg)), (6, .int (α10.2 2 (v9 : Int32).toNatClampNeg)), (5, .int v12), (4, .int v9), (0, .ref (mad g 0)), (1, .int a1), (2, .int a2), (3, .int a3)]) hx hb d_Mod_conv_71 hl (by decide) rfl (fun ls hl => ?_)
            refine lv_iload hx hb d_Mod_conv_73 (lv_at hl 1 rfl) ?_
            refine lv_bipush (v := 6) hx hb d_Mod_conv_75 (by decide) ?_
            refine lv_icmp_ne (tgt := 87) hx hb d_Mod_conv_77 (by decide) (fun c18 => ?_) (fun c18 => ?_)
            · replace h := Eq.trans (if_neg c18).symm h
              exact J87 (α10.2 2 (v12 : Int32).toNatClampNeg) (α10.2 2 (v9 : Int32).toNatClampNeg) v12 v9 a3 _ _ _ _ h hI (lv_sub hl [0, 1, 2, 3, 4, 7] rfl)
            · replace h := Eq.trans (if_pos c18).symm h
              refine lv_iload hx hb d_Mod_conv_80 (lv_at hl 0 rfl) ?_
              refine lv_bipush (v := 6) hx hb d_Mod_conv_82 (by decide) ?_
              refine lv_icmp_eq (tgt := 101) hx hb d_Mod_conv_84 (by decide) (fun c85 => ?_) (fun c85 => ?_)
              · replace h := Eq.trans (if_pos c85).symm h
                exact J101 v12 v9 a3 _ _ _ _ h hI (lv_sub hl [2, 3, 4, 7] rfl)
              · replace h := Eq.trans (if_neg c85).symm h
                exact J87 (α10.2 2 (v12 : Int32).toNatClampNeg) (α10.2 2 (v9 : Int32).toNatClampNeg) v12 v9 a3 _ _ _ _ h hI (lv_sub hl [0, 1, 2, 3, 4, 7] rfl)
      · replace h := Eq.trans (if_neg c15).symm h
        refine lv_iconst (v := 1) hx hb d_Mod_conv_53 (by decide) ?_
        exact mc_iret (w := 1) hx hb hr (by decide) hlocks E hI h d_Mod_conv_54
    · replace h := Eq.trans (if_neg c6).symm h
      refine lv_iconst (v := 1) hx hb d_Mod_conv_26 (by decide) ?_
      exact mc_iret (w := 1) hx hb hr (by decide) hlocks E hI h d_Mod_conv_27
  · replace h := Eq.trans (if_neg c1).symm h
    refine lv_bipush (v := 10) hx hb d_Mod_conv_6 (by decide) ?_
    refine mg_fails S E hI kw_Mod_323 hl.1 ⟨by omega, by omega⟩ (Nat.le_of_ble_eq_true rfl) d_Mod_conv_8 (fun q H locs hN => ?_)
    exact mg_athrow S hlocks hno E hN h d_Mod_conv_11
def G_alike (N : Nat) : Nat → (Int32 → Int32 → Int32 → mS → Option (kO × mS)) × (Int32 → Int32 → Int32 → mS → Option (kO × mS))
  | 0 => (fun _ _ _ _ => none, fun _ _ _ _ => none)
  | d + 1 => (f_Mod_alike N (G_alike N d), f_Mod_conv N (G_alike N d))
theorem ok_alike {l : Launch} {g : mG} (N : Nat) : ∀ d, hk_alike l g (G_alike N d) (1051 + d) (30049 + 29 * d)
  | 0 => ⟨(fun a1 a2 a3  α x h => by cases h), (fun a1 a2 a3  α x h => by cases h)⟩
  | d + 1 => by
    have ih := ok_alike (l := l) (g := g) N d
    exact ⟨(fun a1 a2 a3  α x h => k_Mod_alike (α := α) N _ d ih a1 a2 a3  x h), (fun a1 a2 a3  α x h => k_Mod_conv (α := α) N _ d ih a1 a2 a3  x h)⟩
def dp_alike : Nat := 260
