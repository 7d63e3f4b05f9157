def hk_normal (l : Launch) (g : mG) (kk : (Int32 → Int32 → mS → Option (kO × mS))) (fr lo : Nat) : Prop := (∀ (a1 : Int32) (a2 : Int32)  (α : mS) (x : kO × mS), kk a1 a2 α = some x → mC l g y_Mod_normal b_Mod_normal 7 (some .int) fr lo [.ref (mad g 0), .int a1, .int a2] α (mQr x))
theorem kw_Mod_491 : kWv "FamilyKernelModel" 491 "FamilyKernelModel" y_Mod_normal b_Mod_normal 7 (some .int) 2 := ⟨vt_1701, vt_1702, vt_1703, vt_1349, vt_1704, by decide, by decide, by decide +kernel⟩
def f_Mod_normal_j40 (N : Nat)  (kk : (Int32 → Int32 → mS → Option (kO × mS))) (y3 : Int32) (y2 : Int32) (γ : mS) : Option (kO × mS) := if y3 < 0 ∨ 400000 ≤ (y3 : Int32).toNatClampNeg then none else (mBi (kk (γ.2 3 (y3 : Int32).toNatClampNeg) (y2 + 1) γ) fun v10 α8 => (if y3 < 0 ∨ 400000 ≤ (y3 : Int32).toNatClampNeg then none else (mBi (f_Mod_fresh N (α8.2 3 (y3 : Int32).toNatClampNeg) α8) fun v14 α12 => (if y3 < 0 ∨ 400000 ≤ (y3 : Int32).toNatClampNeg then none else (mBi (f_Mod_open N (α12.2 4 (y3 : Int32).toNatClampNeg) v14 α12) fun v18 α16 => (mBi (kk v18 (y2 + 1) α16) fun v21 α19 => (if y3 < 0 ∨ 400000 ≤ (y3 : Int32).toNatClampNeg then none else (if v14 < 0 ∨ 400000 ≤ (v14 : Int32).toNatClampNeg then none else (mBi (f_Mod_close N v21 (α19.2 3 (v14 : Int32).toNatClampNeg) α19) fun v26 α24 => (mBi (f_Mod_node N (α19.2 2 (y3 : Int32).toNatClampNeg) v10 v26 0 α24) fun v29 α27 => (mBi (f_Mod_fits N v29 α27) fun v32 α30 => (some (some (some v32), α30)))))))))))))
def f_Mod_normal_136 (N : Nat)  (kk : (Int32 → Int32 → mS → Option (kO × mS))) : Nat → Int32 → Int32 → Int32 → Int32 → Int32 → mS → Option (kO × mS)
  | 0, _, _, _, _, _, _ => none
  | n + 1, x6_136, x5_136, x4_136, x3_136, x2_136, β136 => if x4_136 ≤ x6_136 then (some (some (some x5_136), β136)) else (((f_Mod_nth N x3_136 x4_136 x6_136 β136)).bind fun v40 => (mBi (kk v40 (x2_136 + 1) β136) fun v44 α42 => (mBi (f_Mod_apply N x5_136 v44 α42) fun v47 α45 => (mBi (f_Mod_fits N v47 α45) fun v50 α48 => (f_Mod_normal_136 N kk n (x6_136 + 1) v50 x4_136 x3_136 x2_136 α48)))))
def f_Mod_normal (N : Nat) (kk : (Int32 → Int32 → mS → Option (kO × mS))) (a1 : Int32) (a2 : Int32) (α : mS) : Option (kO × mS) := if a2 ≤ 120 then (mBi ((G_recursion N dp_recursion).2.2 a1 α) fun v4 α2 => (if v4 < 0 ∨ 400000 ≤ (v4 : Int32).toNatClampNeg then none else (if (α2.2 2 (v4 : Int32).toNatClampNeg) = 6 then (f_Mod_normal_j40 N kk v4 a2 α2) else (if v4 < 0 ∨ 400000 ≤ (v4 : Int32).toNatClampNeg then none else (if (α2.2 2 (v4 : Int32).toNatClampNeg) = 7 then (f_Mod_normal_j40 N kk v4 a2 α2) else (((f_Mod_behind N v4 α2)).bind fun v35 => (((f_Mod_head N v4 α2)).bind fun v37 => (f_Mod_normal_136 N kk N 0 v37 v35 v4 a2 α2)))))))) else (some (none, (mTh α 10 (-1))))
set_option maxHeartbeats 4000000 in
set_option maxRecDepth 100000 in
theorem k_Mod_normal {l : Launch} {g : mG} {α : mS} (N : Nat) (kk : (Int32 → Int32 → mS → Option (kO × mS))) (d : Nat) (hk : hk_normal l g kk (1051 + d) (30049 + 26 * d)) (a1 : Int32) (a2 : Int32)  : ∀ x, f_Mod_normal N kk a1 a2 α = some x → mC l g y_Mod_normal b_Mod_normal 7 (some .int) (1051 + (d + 1)) (30049 + 26 * (d + 1)) [.ref (mad g 0), .int a1, .int a2] α (mQr x) := by
  intro x h
  unfold f_Mod_normal at h
  refine mc_ofW (by decide) (fun A p e s m args below meth c S hr hlocks hno hargs E hI => ?_)
  have hx := S.1
  have hb := S.2.1
  have hown := S.2.2.2.1
  have hT := S.2.2.2.2
  subst hargs
  have hl := lv_entry ([.ref (mad g 0), .int a1, .int a2]) (n := 7) (Nat.le_of_ble_eq_true rfl)
  rw [lg_entry_eq]
  generalize (lg_sl ([.ref (mad g 0), .int a1, .int a2]) ++ List.replicate (7 - (lg_sl ([.ref (mad g 0), .int a1, .int a2])).length) Slot.unset).toArray = ls at hl ⊢
  have hl : lv_has ls 7 [(0, .ref (mad g 0)), (1, .int a1), (2, .int a2)] := hl
  have J40 : ∀ (y3 : Int32) (y2 : Int32) (γ : mS) (H : Heap) (locs : List Loc) (ls : Array Slot), f_Mod_normal_j40 N kk y3 y2 γ = some x → mI g A s γ H locs → lv_has ls 7 [(3, .int y3), (0, .ref (mad g 0)), (2, .int y2)] → W p l e (mR (1051 + (d + 1)) (30049 + 26 * (d + 1))) s m ([.ref (mad g 0), .int a1, .int a2]).toArray below meth c H locs 0 0 (vEQ below (mQ g A (mQr x)) ([.ref (mad g 0), .int a1, .int a2]).toArray s A) (F0 m 40 ls []) := by
    intro y3 y2 γ H locs ls h hI hl
    unfold f_Mod_normal_j40 at h
    refine lv_aload_n hx hb d_Mod_normal_40 rfl (lv_at hl 1 rfl) ?_
    refine lv_aload_n hx hb d_Mod_normal_41 rfl (lv_at hl 1 rfl) ?_
    refine mf_one S E hI vt_1280 d_Mod_normal_42 ?_
    refine lv_iload_n hx hb d_Mod_normal_45 rfl (lv_at hl 0 rfl) ?_
    by_cases c7 : y3 < 0 ∨ 400000 ≤ (y3 : Int32).toNatClampNeg
    · replace h := Eq.trans (if_pos c7).symm h
      cases h
    · replace h := Eq.trans (if_neg c7).symm h
      refine ml_one S E hI c7 d_Mod_normal_46 ?_
      refine lv_iload_n hx hb d_Mod_normal_47 rfl (lv_at hl 2 rfl) ?_
      refine lv_iconst (v := 1) hx hb d_Mod_normal_48 (by decide) ?_
      refine lv_iadd hx hb d_Mod_normal_49 ?_
      refine mg_cI (As := [.int (γ.2 3 (y3 : Int32).toNatClampNeg), .int (y2 + 1)]) (rest := []) h (hk (γ.2 3 (y3 : Int32).toNatClampNeg) (y2 + 1) γ) S hlocks hno E hI kw_Mod_491 ⟨by omega, by omega⟩ (mv_Mod E hI) rfl hl.1 rfl (Nat.le_of_ble_eq_true rfl) d_Mod_normal_50 (fun v10 α8 H locs e9 h hI => ?_)
      refine lv_istore (lv' := [(4, .int v10), (3, .int y3), (0, .ref (mad g 0)), (2, .int y2)]) hx hb d_Mod_normal_53 hl (by decide) rfl (fun ls hl => ?_)
      refine lv_aload_n hx hb d_Mod_normal_55 rfl (lv_at hl 2 rfl) ?_
      refine lv_aload_n hx hb d_Mod_normal_56 rfl (lv_at hl 2 rfl) ?_
      refine mf_one S E hI vt_1280 d_Mod_normal_57 ?_
      refine lv_iload_n hx hb d_Mod_normal_60 rfl (lv_at hl 1 rfl) ?_
      by_cases c11 : y3 < 0 ∨ 400000 ≤ (y3 : Int32).toNatClampNeg
      · replace h := Eq.trans (if_pos c11).symm h
        cases h
      · replace h := Eq.trans (if_neg c11).symm h
        refine ml_one S E hI c11 d_Mod_normal_61 ?_
        refine mg_cI (As := [.int (α8.2 3 (y3 : Int32).toNatClampNeg)]) (rest := []) h (k_Mod_fresh (l := l) (g := g) (α := α8) N (α8.2 3 (y3 : Int32).toNatClampNeg)) S hlocks hno E hI kw_Mod_468 ⟨by omega, by omega⟩ (mv_Mod E hI) rfl hl.1 rfl (Nat.le_of_ble_eq_true rfl) d_Mod_normal_62 (fun v14 α12 H locs e13 h hI => ?_)
        refine lv_istore (lv' := [(5, .int v14), (4, .int v10), (3, .int y3), (0, .ref (mad g 0)), (2, .int y2)]) hx hb d_Mod_normal_65 hl (by decide) rfl (fun ls hl => ?_)
        refine lv_aload_n hx hb d_Mod_normal_67 rfl (lv_at hl 3 rfl) ?_
        refine lv_aload_n hx hb d_Mod_normal_68 rfl (lv_at hl 3 rfl) ?_
        refine lv_aload_n hx hb d_Mod_normal_69 rfl (lv_at hl 3 rfl) ?_
        refine mf_two S E hI vt_1281 d_Mod_normal_70 ?_
        refine lv_iload_n hx hb d_Mod_normal_73 rfl (lv_at hl 2 rfl) ?_
        by_cases c15 : y3 < 0 ∨ 400000 ≤ (y3 : Int32).toNatClampNeg
        · replace h := Eq.trans (if_pos c15).symm h
          cases h
        · replace h := Eq.trans (if_neg c15).symm h
          refine ml_two S E hI c15 d_Mod_normal_74 ?_
          refine lv_iload hx hb d_Mod_normal_75 (lv_at hl 0 rfl) ?_
          refine mg_cI (As := [.int (α12.2 4 (y3 : Int32).toNatClampNeg), .int v14]) (rest := [.ref (mad g 0)]) h (k_Mod_open (l := l) (g := g) (α := α12) N (α12.2 4 (y3 : Int32).toNatClampNeg) v14) S hlocks hno E hI kw_Mod_471 ⟨by omega, by omega⟩ (mv_Mod E hI) rfl hl.1 rfl (Nat.le_of_ble_eq_true rfl) d_Mod_normal_77 (fun v18 α16 H locs e17 h hI => ?_)
          refine lv_iload_n hx hb d_Mod_normal_80 rfl (lv_at hl 4 rfl) ?_
          refine lv_iconst (v := 1) hx hb d_Mod_normal_81 (by decide) ?_
          refine lv_iadd hx hb d_Mod_normal_82 ?_
          refine mg_cI (As := [.int v18, .int (y2 + 1)]) (rest := []) h (hk v18 (y2 + 1) α16) S hlocks hno E hI kw_Mod_491 ⟨by omega, by omega⟩ (mv_Mod E hI) rfl hl.1 rfl (Nat.le_of_ble_eq_true rfl) d_Mod_normal_83 (fun v21 α19 H locs e20 h hI => ?_)
          refine lv_istore (lv' := [(6, .int v21), (5, .int v14), (4, .int v10), (3, .int y3), (0, .ref (mad g 0)), (2, .int y2)]) hx hb d_Mod_normal_86 hl (by decide) rfl (fun ls hl => ?_)
          refine lv_aload_n hx hb d_Mod_normal_88 rfl (lv_at hl 4 rfl) ?_
          refine lv_aload_n hx hb d_Mod_normal_89 rfl (lv_at hl 4 rfl) ?_
          refine lv_aload_n hx hb d_Mod_normal_90 rfl (lv_at hl 4 rfl) ?_
          refine mf_kind S E hI vt_1279 d_Mod_normal_91 ?_
          refine lv_iload_n hx hb d_Mod_normal_94 rfl (lv_at hl 3 rfl) ?_
          by_cases c22 : y3 < 0 ∨ 400000 ≤ (y3 : Int32).toNatClampNeg
          · replace h := Eq.trans (if_pos c22).symm h
            cases h
          · replace h := Eq.trans (if_neg c22).symm h
            refine ml_kind S E hI c22 d_Mod_normal_95 ?_
            refine lv_iload hx hb d_Mod_normal_96 (lv_at hl 2 rfl) ?_
            refine lv_aload_n hx hb d_Mod_normal_98 rfl (lv_at hl 4 rfl) ?_
            refine lv_iload hx hb d_Mod_normal_99 (lv_at hl 0 rfl) ?_
            refine lv_aload_n hx hb d_Mod_normal_101 rfl (lv_at hl 4 rfl) ?_
            refine mf_one S E hI vt_1280 d_Mod_normal_102 ?_
            refine lv_iload hx hb d_Mod_normal_105 (lv_at hl 1 rfl) ?_
            by_cases c23 : v14 < 0 ∨ 400000 ≤ (v14 : Int32).toNatClampNeg
            · replace h := Eq.trans (if_pos c23).symm h
              cases h
            · replace h := Eq.trans (if_neg c23).symm h
              refine ml_one S E hI c23 d_Mod_normal_107 ?_
              refine mg_cI (As := [.int v21, .int (α19.2 3 (v14 : Int32).toNatClampNeg)]) (rest := [.int v10, .int (α19.2 2 (y3 : Int32).toNatClampNeg), .ref (mad g 0), .ref (mad g 0)]) h (k_Mod_close (l := l) (g := g) (α := α19) N v21 (α19.2 3 (v14 : Int32).toNatClampNeg)) S hlocks hno E hI kw_Mod_482 ⟨by omega, by omega⟩ (mv_Mod E hI) rfl hl.1 rfl (Nat.le_of_ble_eq_true rfl) d_Mod_normal_108 (fun v26 α24 H locs e25 h hI => ?_)
              refine lv_iconst (v := 0) hx hb d_Mod_normal_111 (by decide) ?_
              refine mg_cI (As := [.int (α19.2 2 (y3 : Int32).toNatClampNeg), .int v10, .int v26, .int 0]) (rest := [.ref (mad g 0)]) h (k_Mod_node (l := l) (g := g) (α := α24) N (α19.2 2 (y3 : Int32).toNatClampNeg) v10 v26 0) S hlocks hno E hI kw_Mod_336 ⟨by omega, by omega⟩ (mv_Mod E hI) rfl hl.1 rfl (Nat.le_of_ble_eq_true rfl) d_Mod_normal_112 (fun v29 α27 H locs e28 h hI => ?_)
              refine mg_cI (As := [.int v29]) (rest := []) h (k_Mod_fits (l := l) (g := g) (α := α27) N v29) S hlocks hno E hI kw_Mod_402 ⟨by omega, by omega⟩ (mv_Mod E hI) rfl hl.1 rfl (Nat.le_of_ble_eq_true rfl) d_Mod_normal_115 (fun v32 α30 H locs e31 h hI => ?_)
              exact mc_iret (w := v32) hx hb hr rfl hlocks E hI h d_Mod_normal_118
  refine lv_iload_n hx hb d_Mod_normal_0 rfl (lv_at hl 2 rfl) ?_
  refine lv_bipush (v := 120) hx hb d_Mod_normal_1 (by decide) ?_
  refine lv_icmp_le (tgt := 12) hx hb d_Mod_normal_3 (by decide) (fun c1 => ?_) (fun c1 => ?_)
  · replace h := Eq.trans (if_pos c1).symm h
    refine lv_aload_n hx hb d_Mod_normal_12 rfl (lv_at hl 0 rfl) ?_
    refine lv_iload_n hx hb d_Mod_normal_13 rfl (lv_at hl 1 rfl) ?_
    refine mg_cI (As := [.int a1]) (rest := []) h (((ok_recursion (l := l) (g := g) N dp_recursion).2.2) a1 α) S hlocks hno E hI kw_Mod_458 ⟨by unfold dp_recursion; omega, by unfold dp_recursion; omega⟩ (mv_Mod E hI) rfl hl.1 rfl (Nat.le_of_ble_eq_true rfl) d_Mod_normal_14 (fun v4 α2 H locs e3 h hI => ?_)
    refine lv_istore_n (lv' := [(3, .int v4), (0, .ref (mad g 0)), (1, .int a1), (2, .int a2)]) hx hb d_Mod_normal_17 rfl hl (by decide) rfl (fun ls hl => ?_)
    refine lv_aload_n hx hb d_Mod_normal_18 rfl (lv_at hl 1 rfl) ?_
    refine mf_kind S E hI vt_1279 d_Mod_normal_19 ?_
    refine lv_iload_n hx hb d_Mod_normal_22 rfl (lv_at hl 0 rfl) ?_
    by_cases c5 : v4 < 0 ∨ 400000 ≤ (v4 : Int32).toNatClampNeg
    · replace h := Eq.trans (if_pos c5).symm h
      cases h
    · replace h := Eq.trans (if_neg c5).symm h
      refine ml_kind S E hI c5 d_Mod_normal_23 ?_
      refine lv_bipush (v := 6) hx hb d_Mod_normal_24 (by decide) ?_
      refine lv_icmp_eq (tgt := 40) hx hb d_Mod_normal_26 (by decide) (fun c6 => ?_) (fun c6 => ?_)
      · replace h := Eq.trans (if_pos c6).symm h
        exact J40 v4 a2 _ _ _ _ h hI (lv_sub hl [0, 1, 3] rfl)
      · replace h := Eq.trans (if_neg c6).symm h
        refine lv_aload_n hx hb d_Mod_normal_29 rfl (lv_at hl 1 rfl) ?_
        refine mf_kind S E hI vt_1279 d_Mod_normal_30 ?_
        refine lv_iload_n hx hb d_Mod_normal_33 rfl (lv_at hl 0 rfl) ?_
        by_cases c33 : v4 < 0 ∨ 400000 ≤ (v4 : Int32).toNatClampNeg
        · replace h := Eq.trans (if_pos c33).symm h
          cases h
        · replace h := Eq.trans (if_neg c33).symm h
          refine ml_kind S E hI c33 d_Mod_normal_34 ?_
          refine lv_bipush (v := 7) hx hb d_Mod_normal_35 (by decide) ?_
          refine lv_icmp_ne (tgt := 119) hx hb d_Mod_normal_37 (by decide) (fun c34 => ?_) (fun c34 => ?_)
          · replace h := Eq.trans (if_neg c34).symm h
            refine lv_aload_n hx hb d_Mod_normal_119 rfl (lv_at hl 1 rfl) ?_
            refine lv_iload_n hx hb d_Mod_normal_120 rfl (lv_at hl 0 rfl) ?_
            obtain ⟨v35, e36, h⟩ := Option.bind_eq_some_iff.mp h
            refine mg_p (As := [.int v4]) (rest := []) ((k_Mod_behind (l := l) (g := g) (α := α2) N v4) _ e36) S E hI kw_Mod_449 (Or.inl rfl) ⟨by omega, by omega⟩ (mv_Mod E hI) rfl hl.1 rfl (Nat.le_of_ble_eq_true rfl) d_Mod_normal_121 rfl ?_
            refine lv_istore (lv' := [(4, .int v35), (3, .int v4), (0, .ref (mad g 0)), (1, .int a1), (2, .int a2)]) hx hb d_Mod_normal_124 hl (by decide) rfl (fun ls hl => ?_)
            refine lv_aload_n hx hb d_Mod_normal_126 rfl (lv_at hl 2 rfl) ?_
            refine lv_iload_n hx hb d_Mod_normal_127 rfl (lv_at hl 1 rfl) ?_
            obtain ⟨v37, e38, h⟩ := Option.bind_eq_some_iff.mp h
            refine mg_p (As := [.int v4]) (rest := []) ((k_Mod_head (l := l) (g := g) (α := α2) N v4) _ e38) S E hI kw_Mod_446 (Or.inl rfl) ⟨by omega, by omega⟩ (mv_Mod E hI) rfl hl.1 rfl (Nat.le_of_ble_eq_true rfl) d_Mod_normal_128 rfl ?_
            refine lv_istore (lv' := [(5, .int v37), (4, .int v35), (3, .int v4), (0, .ref (mad g 0)), (1, .int a1), (2, .int a2)]) hx hb d_Mod_normal_131 hl (by decide) rfl (fun ls hl => ?_)
            refine lv_iconst (v := 0) hx hb d_Mod_normal_133 (by decide) ?_
            refine lv_istore (lv' := [(6, .int 0), (5, .int v37), (4, .int v35), (3, .int v4), (0, .ref (mad g 0)), (1, .int a1), (2, .int a2)]) hx hb d_Mod_normal_134 hl (by decide) rfl (fun ls hl => ?_)
            have L136 : ∀ (n136 : Nat) (x6_136 : Int32) (x5_136 : Int32) (x4_136 : Int32) (x3_136 : Int32) (x2_136 : Int32) (β136 : mS) (H : Heap) (locs : List Loc) (ls : Array Slot), f_Mod_normal_136 N kk n136 x6_136 x5_136 x4_136 x3_136 x2_136 β136 = some x → mI g A s β136 H locs → lv_has ls 7 [(6, .int x6_136), (5, .int x5_136), (4, .int x4_136), (3, .int x3_136), (0, .ref (mad g 0)), (2, .int x2_136)] → W p l e (mR (1051 + (d + 1)) (30049 + 26 * (d + 1))) s m ([.ref (mad g 0), .int a1, .int a2]).toArray below meth c H locs 0 0 (vEQ below (mQ g A (mQr x)) ([.ref (mad g 0), .int a1, .int a2]).toArray s A) (F0 m 136 ls []) := by
              intro n136
              induction n136 with
              | zero => intro x6_136 x5_136 x4_136 x3_136 x2_136 β136 H locs ls h hI hl; rw [f_Mod_normal_136] at h; cases h
              | succ n136 ih136 =>
                intro x6_136 x5_136 x4_136 x3_136 x2_136 β136 H locs ls h hI hl
                rw [f_Mod_normal_136] at h
                refine lv_iload hx hb d_Mod_normal_136 (lv_at hl 0 rfl) ?_
                refine lv_iload hx hb d_Mod_normal_138 (lv_at hl 2 rfl) ?_
                refine lv_icmp_ge (tgt := 177) hx hb d_Mod_normal_140 (by decide) (fun c39 => ?_) (fun c39 => ?_)
                · replace h := Eq.trans (if_pos c39).symm h
                  refine lv_iload hx hb d_Mod_normal_177 (lv_at hl 1 rfl) ?_
                  exact mc_iret (w := x5_136) hx hb hr rfl hlocks E hI h d_Mod_normal_179
                · replace h := Eq.trans (if_neg c39).symm h
                  refine lv_aload_n hx hb d_Mod_normal_143 rfl (lv_at hl 4 rfl) ?_
                  refine lv_aload_n hx hb d_Mod_normal_144 rfl (lv_at hl 4 rfl) ?_
                  refine lv_iload hx hb d_Mod_normal_145 (lv_at hl 1 rfl) ?_
                  refine lv_aload_n hx hb d_Mod_normal_147 rfl (lv_at hl 4 rfl) ?_
                  refine lv_aload_n hx hb d_Mod_normal_148 rfl (lv_at hl 4 rfl) ?_
                  refine lv_iload_n hx hb d_Mod_normal_149 rfl (lv_at hl 3 rfl) ?_
                  refine lv_iload hx hb d_Mod_normal_150 (lv_at hl 2 rfl) ?_
                  refine lv_iload hx hb d_Mod_normal_152 (lv_at hl 0 rfl) ?_
                  obtain ⟨v40, e41, h⟩ := Option.bind_eq_some_iff.mp h
                  refine mg_p (As := [.int x3_136, .int x4_136, .int x6_136]) (rest := [.ref (mad g 0), .int x5_136, .ref (mad g 0), .ref (mad g 0)]) ((k_Mod_nth (l := l) (g := g) (α := β136) N x3_136 x4_136 x6_136) _ e41) S E hI kw_Mod_440 (Or.inl rfl) ⟨by omega, by omega⟩ (mv_Mod E hI) rfl hl.1 rfl (Nat.le_of_ble_eq_true rfl) d_Mod_normal_154 rfl ?_
                  refine lv_iload_n hx hb d_Mod_normal_157 rfl (lv_at hl 5 rfl) ?_
                  refine lv_iconst (v := 1) hx hb d_Mod_normal_158 (by decide) ?_
                  refine lv_iadd hx hb d_Mod_normal_159 ?_
                  refine mg_cI (As := [.int v40, .int (x2_136 + 1)]) (rest := [.int x5_136, .ref (mad g 0), .ref (mad g 0)]) h (hk v40 (x2_136 + 1) β136) S hlocks hno E hI kw_Mod_491 ⟨by omega, by omega⟩ (mv_Mod E hI) rfl hl.1 rfl (Nat.le_of_ble_eq_true rfl) d_Mod_normal_160 (fun v44 α42 H locs e43 h hI => ?_)
                  refine mg_cI (As := [.int x5_136, .int v44]) (rest := [.ref (mad g 0)]) h (k_Mod_apply (l := l) (g := g) (α := α42) N x5_136 v44) S hlocks hno E hI kw_Mod_350 ⟨by omega, by omega⟩ (mv_Mod E hI) rfl hl.1 rfl (Nat.le_of_ble_eq_true rfl) d_Mod_normal_163 (fun v47 α45 H locs e46 h hI => ?_)
                  refine mg_cI (As := [.int v47]) (rest := []) h (k_Mod_fits (l := l) (g := g) (α := α45) N v47) S hlocks hno E hI kw_Mod_402 ⟨by omega, by omega⟩ (mv_Mod E hI) rfl hl.1 rfl (Nat.le_of_ble_eq_true rfl) d_Mod_normal_166 (fun v50 α48 H locs e49 h hI => ?_)
                  refine lv_istore (lv' := [(5, .int v50), (6, .int x6_136), (4, .int x4_136), (3, .int x3_136), (0, .ref (mad g 0)), (2, .int x2_136)]) hx hb d_Mod_normal_169 hl (by decide) rfl (fun ls hl => ?_)
                  refine lv_iinc (v := (x6_136 + 1)) (lv' := [(6, .int (x6_136 + 1)), (5, .int v50), (4, .int x4_136), (3, .int x3_136), (0, .ref (mad g 0)), (2, .int x2_136)]) hx hb d_Mod_normal_171 hl (k := 1) rfl rfl (by decide) rfl (fun ls hl => ?_)
                  refine lv_goto (tgt := 136) hx hb d_Mod_normal_174 (by decide) ?_
                  exact ih136 (x6_136 + 1) v50 x4_136 x3_136 x2_136 _ _ _ _ h hI (lv_sub hl [0, 1, 2, 3, 4, 5] rfl)
            exact L136 N 0 v37 v35 v4 a2 _ _ _ _ h hI (lv_sub hl [0, 1, 2, 3, 4, 6] rfl)
          · replace h := Eq.trans (if_pos c34).symm h
            exact J40 v4 a2 _ _ _ _ h hI (lv_sub hl [0, 1, 3] rfl)
  · replace h := Eq.trans (if_neg c1).symm h
    refine lv_bipush (v := 10) hx hb d_Mod_normal_6 (by decide) ?_
    refine mg_fails S E hI kw_Mod_323 hl.1 ⟨by omega, by omega⟩ (Nat.le_of_ble_eq_true rfl) d_Mod_normal_8 (fun q H locs hN => ?_)
    exact mg_athrow S hlocks hno E hN h d_Mod_normal_11
def G_normal (N : Nat) : Nat → (Int32 → Int32 → mS → Option (kO × mS))
  | 0 => (fun _ _ _ => none)
  | d + 1 => (f_Mod_normal N (G_normal N d))
theorem ok_normal {l : Launch} {g : mG} (N : Nat) : ∀ d, hk_normal l g (G_normal N d) (1051 + d) (30049 + 26 * d)
  | 0 => (fun a1 a2  α x h => by cases h)
  | d + 1 => by
    have ih := ok_normal (l := l) (g := g) N d
    exact (fun a1 a2  α x h => k_Mod_normal (α := α) N _ d ih a1 a2  x h)
def dp_normal : Nat := 130
