def hk_map (l : Launch) (g : mG) (kk : (Int32 → Int32 → mS → Option (kO × mS))) (fr lo : Nat) : Prop := (∀ (a1 : Int32) (a2 : Int32)  (α : mS) (x : kO × mS), kk a1 a2 α = some x → mC l g y_Mod_map b_Mod_map 9 (some .int) fr lo [.ref (mad g 0), .int a1, .int a2] α (mQr x))
theorem kw_Mod_344 : kWv "FamilyKernelModel" 344 "FamilyKernelModel" y_Mod_map b_Mod_map 9 (some .int) 2 := ⟨vt_1547, vt_1548, vt_1549, vt_1349, vt_1550, by decide, by decide, by decide +kernel⟩
theorem kw_Mod_350 : kWv "FamilyKernelModel" 350 "FamilyKernelModel" y_Mod_apply b_Mod_apply 3 (some .int) 2 := ⟨vt_1523, vt_1524, vt_1525, vt_1349, vt_1526, by decide, by decide, by decide +kernel⟩
theorem kw_Mod_347 : kWv "FamilyKernelModel" 347 "FamilyKernelModel" y_Mod_leaf b_Mod_leaf 4 (some .int) 2 := ⟨vt_1551, vt_1552, vt_1553, vt_1349, vt_1554, by decide, by decide, by decide +kernel⟩
def f_Mod_map_201 (N : Nat)  (kk : (Int32 → Int32 → mS → Option (kO × mS))) : Nat → Int32 → Int32 → Int32 → mS → Option (kO × mS)
  | 0, _, _, _, _ => none
  | n + 1, x5_201, x3_201, x2_201, β201 => if (β201.1 11) ≤ x3_201 then (some (some (some x5_201), β201)) else (if ((β201.1 11) - 1) < 0 ∨ 8000 ≤ (((β201.1 11) - 1) : Int32).toNatClampNeg then none else (if ((mSi β201 11 ((β201.1 11) - 1)).2 8 (((β201.1 11) - 1) : Int32).toNatClampNeg) < 0 ∨ 400000 ≤ (((mSi β201 11 ((β201.1 11) - 1)).2 8 (((β201.1 11) - 1) : Int32).toNatClampNeg) : Int32).toNatClampNeg then none else (mBi (kk ((mSi β201 11 ((β201.1 11) - 1)).2 4 (((mSi β201 11 ((β201.1 11) - 1)).2 8 (((β201.1 11) - 1) : Int32).toNatClampNeg) : Int32).toNatClampNeg) x2_201 (mSi β201 11 ((β201.1 11) - 1))) fun v22 α20 => (mBi (f_Mod_apply N x5_201 v22 α20) fun v25 α23 => (f_Mod_map_201 N kk n v25 x3_201 x2_201 α23)))))
def f_Mod_map_j88 (N : Nat)  (kk : (Int32 → Int32 → mS → Option (kO × mS))) (y4 : Int32) (y3 : Int32) (y2 : Int32) (γ : mS) : Option (kO × mS) := if y4 < 0 ∨ 400000 ≤ (y4 : Int32).toNatClampNeg then none else (mBi (kk (γ.2 3 (y4 : Int32).toNatClampNeg) y2 γ) fun v8 α6 => (if y4 < 0 ∨ 400000 ≤ (y4 : Int32).toNatClampNeg then none else (if y4 < 0 ∨ 400000 ≤ (y4 : Int32).toNatClampNeg then none else (mBi (kk (α6.2 4 (y4 : Int32).toNatClampNeg) (y2 + 1) α6) fun v13 α11 => (mBi (f_Mod_node N (α6.2 2 (y4 : Int32).toNatClampNeg) v8 v13 0 α11) fun v16 α14 => (f_Mod_map_201 N kk N v16 y3 y2 α14))))))
def f_Mod_map_8 (N : Nat)  (kk : (Int32 → Int32 → mS → Option (kO × mS))) : Nat → Int32 → Int32 → Int32 → mS → Option (kO × mS)
  | 0, _, _, _, _ => none
  | n + 1, x4_8, x3_8, x2_8, β8 => if x4_8 < 0 ∨ 400000 ≤ (x4_8 : Int32).toNatClampNeg then none else (if (β8.2 2 (x4_8 : Int32).toNatClampNeg) = 8 then (if (β8.1 11) < 0 ∨ 8000 ≤ ((β8.1 11) : Int32).toNatClampNeg then none else (if x4_8 < 0 ∨ 400000 ≤ (x4_8 : Int32).toNatClampNeg then none else (f_Mod_map_8 N kk n ((mSA (mSi β8 11 ((β8.1 11) + 1)) 8 (upd ((mSi β8 11 ((β8.1 11) + 1)).2 8) ((β8.1 11) : Int32).toNatClampNeg x4_8)).2 3 (x4_8 : Int32).toNatClampNeg) x3_8 x2_8 (mSA (mSi β8 11 ((β8.1 11) + 1)) 8 (upd ((mSi β8 11 ((β8.1 11) + 1)).2 8) ((β8.1 11) : Int32).toNatClampNeg x4_8))))) else (if x4_8 < 0 ∨ 400000 ≤ (x4_8 : Int32).toNatClampNeg then none else (if (β8.2 2 (x4_8 : Int32).toNatClampNeg) = 6 then (f_Mod_map_j88 N kk x4_8 x3_8 x2_8 β8) else (if (β8.2 2 (x4_8 : Int32).toNatClampNeg) = 7 then (f_Mod_map_j88 N kk x4_8 x3_8 x2_8 β8) else (if (β8.2 2 (x4_8 : Int32).toNatClampNeg) = 8 then (mBi (f_Mod_leaf N x4_8 x2_8 β8) fun v30 α28 => (f_Mod_map_201 N kk N v30 x3_8 x2_8 α28)) else (if (β8.2 2 (x4_8 : Int32).toNatClampNeg) = 9 then (if x4_8 < 0 ∨ 400000 ≤ (x4_8 : Int32).toNatClampNeg then none else (mBi (kk (β8.2 3 (x4_8 : Int32).toNatClampNeg) x2_8 β8) fun v44 α42 => (if x4_8 < 0 ∨ 400000 ≤ (x4_8 : Int32).toNatClampNeg then none else (mBi (kk (α42.2 4 (x4_8 : Int32).toNatClampNeg) x2_8 α42) fun v48 α46 => (if x4_8 < 0 ∨ 400000 ≤ (x4_8 : Int32).toNatClampNeg then none else (mBi (kk (α46.2 5 (x4_8 : Int32).toNatClampNeg) (x2_8 + 1) α46) fun v52 α50 => (mBi (f_Mod_node N 9 v44 v48 v52 α50) fun v55 α53 => (f_Mod_map_201 N kk N v55 x3_8 x2_8 α53)))))))) else (mBi (f_Mod_leaf N x4_8 x2_8 β8) fun v67 α65 => (f_Mod_map_201 N kk N v67 x3_8 x2_8 α65))))))))
def f_Mod_map (N : Nat) (kk : (Int32 → Int32 → mS → Option (kO × mS))) (a1 : Int32) (a2 : Int32) (α : mS) : Option (kO × mS) := f_Mod_map_8 N kk N a1 (α.1 11) a2 α
set_option maxHeartbeats 4000000 in
set_option maxRecDepth 100000 in
theorem k_Mod_map {l : Launch} {g : mG} {α : mS} (N : Nat) (kk : (Int32 → Int32 → mS → Option (kO × mS))) (d : Nat) (hk : hk_map l g kk (46 + d) (1329 + 28 * d)) (a1 : Int32) (a2 : Int32)  : ∀ x, f_Mod_map N kk a1 a2 α = some x → mC l g y_Mod_map b_Mod_map 9 (some .int) (46 + (d + 1)) (1329 + 28 * (d + 1)) [.ref (mad g 0), .int a1, .int a2] α (mQr x) := by
  intro x h
  unfold f_Mod_map at h
  refine mc_ofW (by decide) (fun A p e s m args below meth c S hr hlocks hno hargs E hI => ?_)
  have hx := S.1
  have hb := S.2.1
  have hown := S.2.2.2.1
  have hT := S.2.2.2.2
  subst hargs
  have hl := lv_entry ([.ref (mad g 0), .int a1, .int a2]) (n := 9) (Nat.le_of_ble_eq_true rfl)
  rw [lg_entry_eq]
  generalize (lg_sl ([.ref (mad g 0), .int a1, .int a2]) ++ List.replicate (9 - (lg_sl ([.ref (mad g 0), .int a1, .int a2])).length) Slot.unset).toArray = ls at hl ⊢
  have hl : lv_has ls 9 [(0, .ref (mad g 0)), (1, .int a1), (2, .int a2)] := hl
  refine lv_aload_n hx hb d_Mod_map_0 rfl (lv_at hl 0 rfl) ?_
  refine mf_spineTop S E hI vt_1287 d_Mod_map_1 ?_
  refine lv_istore_n (lv' := [(3, .int (α.1 11)), (0, .ref (mad g 0)), (1, .int a1), (2, .int a2)]) hx hb d_Mod_map_4 rfl hl (by decide) rfl (fun ls hl => ?_)
  refine lv_iload_n hx hb d_Mod_map_5 rfl (lv_at hl 2 rfl) ?_
  refine lv_istore (lv' := [(4, .int a1), (3, .int (α.1 11)), (0, .ref (mad g 0)), (1, .int a1), (2, .int a2)]) hx hb d_Mod_map_6 hl (by decide) rfl (fun ls hl => ?_)
  have L8 : ∀ (n8 : Nat) (x4_8 : Int32) (x3_8 : Int32) (x2_8 : Int32) (β8 : mS) (H : Heap) (locs : List Loc) (ls : Array Slot), f_Mod_map_8 N kk n8 x4_8 x3_8 x2_8 β8 = some x → mI g A s β8 H locs → lv_has ls 9 [(4, .int x4_8), (3, .int x3_8), (0, .ref (mad g 0)), (2, .int x2_8)] → W p l e (mR (46 + (d + 1)) (1329 + 28 * (d + 1))) s m ([.ref (mad g 0), .int a1, .int a2]).toArray below meth c H locs 0 0 (vEQ below (mQ g A (mQr x)) ([.ref (mad g 0), .int a1, .int a2]).toArray s A) (F0 m 8 ls []) := by
    intro n8
    induction n8 with
    | zero => intro x4_8 x3_8 x2_8 β8 H locs ls h hI hl; rw [f_Mod_map_8] at h; cases h
    | succ n8 ih8 =>
      intro x4_8 x3_8 x2_8 β8 H locs ls h hI hl
      rw [f_Mod_map_8] at h
      have J88 : ∀ (y4 : Int32) (y3 : Int32) (y2 : Int32) (γ : mS) (H : Heap) (locs : List Loc) (ls : Array Slot), f_Mod_map_j88 N kk y4 y3 y2 γ = some x → mI g A s γ H locs → lv_has ls 9 [(4, .int y4), (3, .int y3), (0, .ref (mad g 0)), (2, .int y2)] → W p l e (mR (46 + (d + 1)) (1329 + 28 * (d + 1))) s m ([.ref (mad g 0), .int a1, .int a2]).toArray below meth c H locs 0 0 (vEQ below (mQ g A (mQr x)) ([.ref (mad g 0), .int a1, .int a2]).toArray s A) (F0 m 88 ls []) := by
        intro y4 y3 y2 γ H locs ls h hI hl
        unfold f_Mod_map_j88 at h
        refine lv_aload_n hx hb d_Mod_map_88 rfl (lv_at hl 2 rfl) ?_
        refine lv_aload_n hx hb d_Mod_map_89 rfl (lv_at hl 2 rfl) ?_
        refine mf_one S E hI vt_1280 d_Mod_map_90 ?_
        refine lv_iload hx hb d_Mod_map_93 (lv_at hl 0 rfl) ?_
        by_cases c5 : y4 < 0 ∨ 400000 ≤ (y4 : Int32).toNatClampNeg
        · replace h := Eq.trans (if_pos c5).symm h
          cases h
        · replace h := Eq.trans (if_neg c5).symm h
          refine ml_one S E hI c5 d_Mod_map_95 ?_
          refine lv_iload_n hx hb d_Mod_map_96 rfl (lv_at hl 3 rfl) ?_
          refine mg_cI (As := [.int (γ.2 3 (y4 : Int32).toNatClampNeg), .int y2]) (rest := []) h (hk (γ.2 3 (y4 : Int32).toNatClampNeg) y2 γ) S hlocks hno E hI kw_Mod_344 ⟨by omega, by omega⟩ (mv_Mod E hI) rfl hl.1 rfl (Nat.le_of_ble_eq_true rfl) d_Mod_map_97 (fun v8 α6 H locs e7 h hI => ?_)
          refine lv_istore (lv' := [(6, .int v8), (4, .int y4), (3, .int y3), (0, .ref (mad g 0)), (2, .int y2)]) hx hb d_Mod_map_100 hl (by decide) rfl (fun ls hl => ?_)
          refine lv_aload_n hx hb d_Mod_map_102 rfl (lv_at hl 3 rfl) ?_
          refine lv_aload_n hx hb d_Mod_map_103 rfl (lv_at hl 3 rfl) ?_
          refine mf_kind S E hI vt_1279 d_Mod_map_104 ?_
          refine lv_iload hx hb d_Mod_map_107 (lv_at hl 1 rfl) ?_
          by_cases c9 : y4 < 0 ∨ 400000 ≤ (y4 : Int32).toNatClampNeg
          · replace h := Eq.trans (if_pos c9).symm h
            cases h
          · replace h := Eq.trans (if_neg c9).symm h
            refine ml_kind S E hI c9 d_Mod_map_109 ?_
            refine lv_iload hx hb d_Mod_map_110 (lv_at hl 0 rfl) ?_
            refine lv_aload_n hx hb d_Mod_map_112 rfl (lv_at hl 3 rfl) ?_
            refine lv_aload_n hx hb d_Mod_map_113 rfl (lv_at hl 3 rfl) ?_
            refine mf_two S E hI vt_1281 d_Mod_map_114 ?_
            refine lv_iload hx hb d_Mod_map_117 (lv_at hl 1 rfl) ?_
            by_cases c10 : y4 < 0 ∨ 400000 ≤ (y4 : Int32).toNatClampNeg
            · replace h := Eq.trans (if_pos c10).symm h
              cases h
            · replace h := Eq.trans (if_neg c10).symm h
              refine ml_two S E hI c10 d_Mod_map_119 ?_
              refine lv_iload_n hx hb d_Mod_map_120 rfl (lv_at hl 4 rfl) ?_
              refine lv_iconst (v := 1) hx hb d_Mod_map_121 (by decide) ?_
              refine lv_iadd hx hb d_Mod_map_122 ?_
              refine mg_cI (As := [.int (α6.2 4 (y4 : Int32).toNatClampNeg), .int (y2 + 1)]) (rest := [.int v8, .int (α6.2 2 (y4 : Int32).toNatClampNeg), .ref (mad g 0)]) h (hk (α6.2 4 (y4 : Int32).toNatClampNeg) (y2 + 1) α6) S hlocks hno E hI kw_Mod_344 ⟨by omega, by omega⟩ (mv_Mod E hI) rfl hl.1 rfl (Nat.le_of_ble_eq_true rfl) d_Mod_map_123 (fun v13 α11 H locs e12 h hI => ?_)
              refine lv_iconst (v := 0) hx hb d_Mod_map_126 (by decide) ?_
              refine mg_cI (As := [.int (α6.2 2 (y4 : Int32).toNatClampNeg), .int v8, .int v13, .int 0]) (rest := []) h (k_Mod_node (l := l) (g := g) (α := α11) N (α6.2 2 (y4 : Int32).toNatClampNeg) v8 v13 0) S hlocks hno E hI kw_Mod_336 ⟨by omega, by omega⟩ (mv_Mod E hI) rfl hl.1 rfl (Nat.le_of_ble_eq_true rfl) d_Mod_map_127 (fun v16 α14 H locs e15 h hI => ?_)
              refine lv_istore (lv' := [(5, .int v16), (6, .int v8), (4, .int y4), (3, .int y3), (0, .ref (mad g 0)), (2, .int y2)]) hx hb d_Mod_map_130 hl (by decide) rfl (fun ls hl => ?_)
              refine lv_goto (tgt := 201) hx hb d_Mod_map_132 (by decide) ?_
              have L201 : ∀ (n201 : Nat) (x5_201 : Int32) (x3_201 : Int32) (x2_201 : Int32) (β201 : mS) (H : Heap) (locs : List Loc) (ls : Array Slot), f_Mod_map_201 N kk n201 x5_201 x3_201 x2_201 β201 = some x → mI g A s β201 H locs → lv_has ls 9 [(5, .int x5_201), (3, .int x3_201), (0, .ref (mad g 0)), (2, .int x2_201)] → W p l e (mR (46 + (d + 1)) (1329 + 28 * (d + 1))) s m ([.ref (mad g 0), .int a1, .int a2]).toArray below meth c H locs 0 0 (vEQ below (mQ g A (mQr x)) ([.ref (mad g 0), .int a1, .int a2]).toArray s A) (F0 m 201 ls []) := by
                intro n201
                induction n201 with
                | zero => intro x5_201 x3_201 x2_201 β201 H locs ls h hI hl; rw [f_Mod_map_201] at h; cases h
                | succ n201 ih201 =>
                  intro x5_201 x3_201 x2_201 β201 H locs ls h hI hl
                  rw [f_Mod_map_201] at h
                  refine lv_aload_n hx hb d_Mod_map_201 rfl (lv_at hl 2 rfl) ?_
                  refine mf_spineTop S E hI vt_1287 d_Mod_map_202 ?_
                  refine lv_iload_n hx hb d_Mod_map_205 rfl (lv_at hl 1 rfl) ?_
                  refine lv_icmp_le (tgt := 253) hx hb d_Mod_map_206 (by decide) (fun c17 => ?_) (fun c17 => ?_)
                  · replace h := Eq.trans (if_pos c17).symm h
                    refine lv_iload hx hb d_Mod_map_253 (lv_at hl 0 rfl) ?_
                    exact mc_iret (w := x5_201) hx hb hr rfl hlocks E hI h d_Mod_map_255
                  · replace h := Eq.trans (if_neg c17).symm h
                    refine lv_aload_n hx hb d_Mod_map_209 rfl (lv_at hl 2 rfl) ?_
                    refine lv_dup hx hb d_Mod_map_210 rfl ?_
                    refine mf_spineTop S E hI vt_1287 d_Mod_map_211 ?_
                    refine lv_iconst (v := 1) hx hb d_Mod_map_214 (by decide) ?_
                    refine lv_isub hx hb d_Mod_map_215 ?_
                    refine mp_spineTop S E hI vt_1287 d_Mod_map_216 (fun H locs hI => ?_)
                    refine lv_aload_n hx hb d_Mod_map_219 rfl (lv_at hl 2 rfl) ?_
                    refine mf_spine S E hI vt_1286 d_Mod_map_220 ?_
                    refine lv_aload_n hx hb d_Mod_map_223 rfl (lv_at hl 2 rfl) ?_
                    refine mf_spineTop S E hI vt_1287 d_Mod_map_224 ?_
                    by_cases c18 : ((β201.1 11) - 1) < 0 ∨ 8000 ≤ (((β201.1 11) - 1) : Int32).toNatClampNeg
                    · replace h := Eq.trans (if_pos c18).symm h
                      cases h
                    · replace h := Eq.trans (if_neg c18).symm h
                      refine ml_spine S E hI c18 d_Mod_map_227 ?_
                      refine lv_istore (lv' := [(6, .int ((mSi β201 11 ((β201.1 11) - 1)).2 8 (((β201.1 11) - 1) : Int32).toNatClampNeg)), (5, .int x5_201), (3, .int x3_201), (0, .ref (mad g 0)), (2, .int x2_201)]) hx hb d_Mod_map_228 hl (by decide) rfl (fun ls hl => ?_)
                      refine lv_aload_n hx hb d_Mod_map_230 rfl (lv_at hl 3 rfl) ?_
                      refine lv_iload hx hb d_Mod_map_231 (lv_at hl 1 rfl) ?_
                      refine lv_aload_n hx hb d_Mod_map_233 rfl (lv_at hl 3 rfl) ?_
                      refine lv_aload_n hx hb d_Mod_map_234 rfl (lv_at hl 3 rfl) ?_
                      refine mf_two S E hI vt_1281 d_Mod_map_235 ?_
                      refine lv_iload hx hb d_Mod_map_238 (lv_at hl 0 rfl) ?_
                      by_cases c19 : ((mSi β201 11 ((β201.1 11) - 1)).2 8 (((β201.1 11) - 1) : Int32).toNatClampNeg) < 0 ∨ 400000 ≤ (((mSi β201 11 ((β201.1 11) - 1)).2 8 (((β201.1 11) - 1) : Int32).toNatClampNeg) : Int32).toNatClampNeg
                      · replace h := Eq.trans (if_pos c19).symm h
                        cases h
                      · replace h := Eq.trans (if_neg c19).symm h
                        refine ml_two S E hI c19 d_Mod_map_240 ?_
                        refine lv_iload_n hx hb d_Mod_map_241 rfl (lv_at hl 4 rfl) ?_
                        refine mg_cI (As := [.int ((mSi β201 11 ((β201.1 11) - 1)).2 4 (((mSi β201 11 ((β201.1 11) - 1)).2 8 (((β201.1 11) - 1) : Int32).toNatClampNeg) : Int32).toNatClampNeg), .int x2_201]) (rest := [.int x5_201, .ref (mad g 0)]) h (hk ((mSi β201 11 ((β201.1 11) - 1)).2 4 (((mSi β201 11 ((β201.1 11) - 1)).2 8 (((β201.1 11) - 1) : Int32).toNatClampNeg) : Int32).toNatClampNeg) x2_201 (mSi β201 11 ((β201.1 11) - 1))) S hlocks hno E hI kw_Mod_344 ⟨by omega, by omega⟩ (mv_Mod E hI) rfl hl.1 rfl (Nat.le_of_ble_eq_true rfl) d_Mod_map_242 (fun v22 α20 H locs e21 h hI => ?_)
                        refine mg_cI (As := [.int x5_201, .int v22]) (rest := []) h (k_Mod_apply (l := l) (g := g) (α := α20) N x5_201 v22) S hlocks hno E hI kw_Mod_350 ⟨by omega, by omega⟩ (mv_Mod E hI) rfl hl.1 rfl (Nat.le_of_ble_eq_true rfl) d_Mod_map_245 (fun v25 α23 H locs e24 h hI => ?_)
                        refine lv_istore (lv' := [(5, .int v25), (6, .int ((mSi β201 11 ((β201.1 11) - 1)).2 8 (((β201.1 11) - 1) : Int32).toNatClampNeg)), (3, .int x3_201), (0, .ref (mad g 0)), (2, .int x2_201)]) hx hb d_Mod_map_248 hl (by decide) rfl (fun ls hl => ?_)
                        refine lv_goto (tgt := 201) hx hb d_Mod_map_250 (by decide) ?_
                        exact ih201 v25 x3_201 x2_201 _ _ _ _ h hI (lv_sub hl [0, 2, 3, 4] rfl)
              exact L201 N v16 y3 y2 _ _ _ _ h hI (lv_sub hl [0, 3, 4, 5] rfl)
      refine lv_aload_n hx hb d_Mod_map_8 rfl (lv_at hl 2 rfl) ?_
      refine mf_kind S E hI vt_1279 d_Mod_map_9 ?_
      refine lv_iload hx hb d_Mod_map_12 (lv_at hl 0 rfl) ?_
      by_cases c1 : x4_8 < 0 ∨ 400000 ≤ (x4_8 : Int32).toNatClampNeg
      · replace h := Eq.trans (if_pos c1).symm h
        cases h
      · replace h := Eq.trans (if_neg c1).symm h
        refine ml_kind S E hI c1 d_Mod_map_14 ?_
        refine lv_bipush (v := 8) hx hb d_Mod_map_15 (by decide) ?_
        refine lv_icmp_ne (tgt := 50) hx hb d_Mod_map_17 (by decide) (fun c2 => ?_) (fun c2 => ?_)
        · replace h := Eq.trans (if_neg c2).symm h
          refine lv_aload_n hx hb d_Mod_map_50 rfl (lv_at hl 2 rfl) ?_
          refine mf_kind S E hI vt_1279 d_Mod_map_51 ?_
          refine lv_iload hx hb d_Mod_map_54 (lv_at hl 0 rfl) ?_
          by_cases c3 : x4_8 < 0 ∨ 400000 ≤ (x4_8 : Int32).toNatClampNeg
          · replace h := Eq.trans (if_pos c3).symm h
            cases h
          · replace h := Eq.trans (if_neg c3).symm h
            refine ml_kind S E hI c3 d_Mod_map_56 ?_
            by_cases c4 : (β8.2 2 (x4_8 : Int32).toNatClampNeg) = 6
            · replace h := Eq.trans (if_pos c4).symm h
              refine lv_tableIn (off := 31) (tgt := 88) hx hb d_Mod_map_57 (by rw [c4]; decide) (by rw [c4]; decide) (by rw [c4]; rfl) (by decide) ?_
              exact J88 x4_8 x3_8 x2_8 _ _ _ _ h hI (lv_sub hl [0, 1, 2, 3] rfl)
            · replace h := Eq.trans (if_neg c4).symm h
              have nc4 := ksw (z := 6) rfl c4
              by_cases c26 : (β8.2 2 (x4_8 : Int32).toNatClampNeg) = 7
              · replace h := Eq.trans (if_pos c26).symm h
                refine lv_tableIn (off := 31) (tgt := 88) hx hb d_Mod_map_57 (by rw [c26]; decide) (by rw [c26]; decide) (by rw [c26]; rfl) (by decide) ?_
                exact J88 x4_8 x3_8 x2_8 _ _ _ _ h hI (lv_sub hl [0, 1, 2, 3] rfl)
              · replace h := Eq.trans (if_neg c26).symm h
                have nc26 := ksw (z := 7) rfl c26
                by_cases c27 : (β8.2 2 (x4_8 : Int32).toNatClampNeg) = 8
                · replace h := Eq.trans (if_pos c27).symm h
                  refine lv_tableIn (off := 135) (tgt := 192) hx hb d_Mod_map_57 (by rw [c27]; decide) (by rw [c27]; decide) (by rw [c27]; rfl) (by decide) ?_
                  refine lv_aload_n hx hb d_Mod_map_192 rfl (lv_at hl 2 rfl) ?_
                  refine lv_iload hx hb d_Mod_map_193 (lv_at hl 0 rfl) ?_
                  refine lv_iload_n hx hb d_Mod_map_195 rfl (lv_at hl 3 rfl) ?_
                  refine mg_cI (As := [.int x4_8, .int x2_8]) (rest := []) h (k_Mod_leaf (l := l) (g := g) (α := β8) N x4_8 x2_8) S hlocks hno E hI kw_Mod_347 ⟨by omega, by omega⟩ (mv_Mod E hI) rfl hl.1 rfl (Nat.le_of_ble_eq_true rfl) d_Mod_map_196 (fun v30 α28 H locs e29 h hI => ?_)
                  refine lv_istore (lv' := [(5, .int v30), (4, .int x4_8), (3, .int x3_8), (0, .ref (mad g 0)), (2, .int x2_8)]) hx hb d_Mod_map_199 hl (by decide) rfl (fun ls hl => ?_)
                  have L201 : ∀ (n201 : Nat) (x5_201 : Int32) (x3_201 : Int32) (x2_201 : Int32) (β201 : mS) (H : Heap) (locs : List Loc) (ls : Array Slot), f_Mod_map_201 N kk n201 x5_201 x3_201 x2_201 β201 = some x → mI g A s β201 H locs → lv_has ls 9 [(5, .int x5_201), (3, .int x3_201), (0, .ref (mad g 0)), (2, .int x2_201)] → W p l e (mR (46 + (d + 1)) (1329 + 28 * (d + 1))) s m ([.ref (mad g 0), .int a1, .int a2]).toArray below meth c H locs 0 0 (vEQ below (mQ g A (mQr x)) ([.ref (mad g 0), .int a1, .int a2]).toArray s A) (F0 m 201 ls []) := by
                    intro n201
                    induction n201 with
                    | zero => intro x5_201 x3_201 x2_201 β201 H locs ls h hI hl; rw [f_Mod_map_201] at h; cases h
                    | succ n201 ih201 =>
                      intro x5_201 x3_201 x2_201 β201 H locs ls h hI hl
                      rw [f_Mod_map_201] at h
                      refine lv_aload_n hx hb d_Mod_map_201 rfl (lv_at hl 2 rfl) ?_
                      refine mf_spineTop S E hI vt_1287 d_Mod_map_202 ?_
                      refine lv_iload_n hx hb d_Mod_map_205 rfl (lv_at hl 1 rfl) ?_
                      refine lv_icmp_le (tgt := 253) hx hb d_Mod_map_206 (by decide) (fun c31 => ?_) (fun c31 => ?_)
                      · replace h := Eq.trans (if_pos c31).symm h
                        refine lv_iload hx hb d_Mod_map_253 (lv_at hl 0 rfl) ?_
                        exact mc_iret (w := x5_201) hx hb hr rfl hlocks E hI h d_Mod_map_255
                      · replace h := Eq.trans (if_neg c31).symm h
                        refine lv_aload_n hx hb d_Mod_map_209 rfl (lv_at hl 2 rfl) ?_
                        refine lv_dup hx hb d_Mod_map_210 rfl ?_
                        refine mf_spineTop S E hI vt_1287 d_Mod_map_211 ?_
                        refine lv_iconst (v := 1) hx hb d_Mod_map_214 (by decide) ?_
                        refine lv_isub hx hb d_Mod_map_215 ?_
                        refine mp_spineTop S E hI vt_1287 d_Mod_map_216 (fun H locs hI => ?_)
                        refine lv_aload_n hx hb d_Mod_map_219 rfl (lv_at hl 2 rfl) ?_
                        refine mf_spine S E hI vt_1286 d_Mod_map_220 ?_
                        refine lv_aload_n hx hb d_Mod_map_223 rfl (lv_at hl 2 rfl) ?_
                        refine mf_spineTop S E hI vt_1287 d_Mod_map_224 ?_
                        by_cases c32 : ((β201.1 11) - 1) < 0 ∨ 8000 ≤ (((β201.1 11) - 1) : Int32).toNatClampNeg
                        · replace h := Eq.trans (if_pos c32).symm h
                          cases h
                        · replace h := Eq.trans (if_neg c32).symm h
                          refine ml_spine S E hI c32 d_Mod_map_227 ?_
                          refine lv_istore (lv' := [(6, .int ((mSi β201 11 ((β201.1 11) - 1)).2 8 (((β201.1 11) - 1) : Int32).toNatClampNeg)), (5, .int x5_201), (3, .int x3_201), (0, .ref (mad g 0)), (2, .int x2_201)]) hx hb d_Mod_map_228 hl (by decide) rfl (fun ls hl => ?_)
                          refine lv_aload_n hx hb d_Mod_map_230 rfl (lv_at hl 3 rfl) ?_
                          refine lv_iload hx hb d_Mod_map_231 (lv_at hl 1 rfl) ?_
                          refine lv_aload_n hx hb d_Mod_map_233 rfl (lv_at hl 3 rfl) ?_
                          refine lv_aload_n hx hb d_Mod_map_234 rfl (lv_at hl 3 rfl) ?_
                          refine mf_two S E hI vt_1281 d_Mod_map_235 ?_
                          refine lv_iload hx hb d_Mod_map_238 (lv_at hl 0 rfl) ?_
                          by_cases c33 : ((mSi β201 11 ((β201.1 11) - 1)).2 8 (((β201.1 11) - 1) : Int32).toNatClampNeg) < 0 ∨ 400000 ≤ (((mSi β201 11 ((β201.1 11) - 1)).2 8 (((β201.1 11) - 1) : Int32).toNatClampNeg) : Int32).toNatClampNeg
                          · replace h := Eq.trans (if_pos c33).symm h
                            cases h
                          · replace h := Eq.trans (if_neg c33).symm h
                            refine ml_two S E hI c33 d_Mod_map_240 ?_
                            refine lv_iload_n hx hb d_Mod_map_241 rfl (lv_at hl 4 rfl) ?_
                            refine mg_cI (As := [.int ((mSi β201 11 ((β201.1 11) - 1)).2 4 (((mSi β201 11 ((β201.1 11) - 1)).2 8 (((β201.1 11) - 1) : Int32).toNatClampNeg) : Int32).toNatClampNeg), .int x2_201]) (rest := [.int x5_201, .ref (mad g 0)]) h (hk ((mSi β201 11 ((β201.1 11) - 1)).2 4 (((mSi β201 11 ((β201.1 11) - 1)).2 8 (((β201.1 11) - 1) : Int32).toNatClampNeg) : Int32).toNatClampNeg) x2_201 (mSi β201 11 ((β201.1 11) - 1))) S hlocks hno E hI kw_Mod_344 ⟨by omega, by omega⟩ (mv_Mod E hI) rfl hl.1 rfl (Nat.le_of_ble_eq_true rfl) d_Mod_map_242 (fun v36 α34 H locs e35 h hI => ?_)
                            refine mg_cI (As := [.int x5_201, .int v36]) (rest := []) h (k_Mod_apply (l := l) (g := g) (α := α34) N x5_201 v36) S hlocks hno E hI kw_Mod_350 ⟨by omega, by omega⟩ (mv_Mod E hI) rfl hl.1 rfl (Nat.le_of_ble_eq_true rfl) d_Mod_map_245 (fun v39 α37 H locs e38 h hI => ?_)
                            refine lv_istore (lv' := [(5, .int v39), (6, .int ((mSi β201 11 ((β201.1 11) - 1)).2 8 (((β201.1 11) - 1) : Int32).toNatClampNeg)), (3, .int x3_201), (0, .ref (mad g 0)), (2, .int x2_201)]) hx hb d_Mod_map_248 hl (by decide) rfl (fun ls hl => ?_)
                            refine lv_goto (tgt := 201) hx hb d_Mod_map_250 (by decide) ?_
                            exact ih201 v39 x3_201 x2_201 _ _ _ _ h hI (lv_sub hl [0, 2, 3, 4] rfl)
                  exact L201 N v30 x3_8 x2_8 _ _ _ _ h hI (lv_sub hl [0, 2, 3, 4] rfl)
                · replace h := Eq.trans (if_neg c27).symm h
                  have nc27 := ksw (z := 8) rfl c27
                  by_cases c40 : (β8.2 2 (x4_8 : Int32).toNatClampNeg) = 9
                  · replace h := Eq.trans (if_pos c40).symm h
                    refine lv_tableIn (off := 78) (tgt := 135) hx hb d_Mod_map_57 (by rw [c40]; decide) (by rw [c40]; decide) (by rw [c40]; rfl) (by decide) ?_
                    refine lv_aload_n hx hb d_Mod_map_135 rfl (lv_at hl 2 rfl) ?_
                    refine lv_aload_n hx hb d_Mod_map_136 rfl (lv_at hl 2 rfl) ?_
                    refine mf_one S E hI vt_1280 d_Mod_map_137 ?_
                    refine lv_iload hx hb d_Mod_map_140 (lv_at hl 0 rfl) ?_
                    by_cases c41 : x4_8 < 0 ∨ 400000 ≤ (x4_8 : Int32).toNatClampNeg
                    · replace h := Eq.trans (if_pos c41).symm h
                      cases h
                    · replace h := Eq.trans (if_neg c41).symm h
                      refine ml_one S E hI c41 d_Mod_map_142 ?_
                      refine lv_iload_n hx hb d_Mod_map_143 rfl (lv_at hl 3 rfl) ?_
                      refine mg_cI (As := [.int (β8.2 3 (x4_8 : Int32).toNatClampNeg), .int x2_8]) (rest := []) h (hk (β8.2 3 (x4_8 : Int32).toNatClampNeg) x2_8 β8) S hlocks hno E hI kw_Mod_344 ⟨by omega, by omega⟩ (mv_Mod E hI) rfl hl.1 rfl (Nat.le_of_ble_eq_true rfl) d_Mod_map_144 (fun v44 α42 H locs e43 h hI => ?_)
                      refine lv_istore (lv' := [(7, .int v44), (4, .int x4_8), (3, .int x3_8), (0, .ref (mad g 0)), (2, .int x2_8)]) hx hb d_Mod_map_147 hl (by decide) rfl (fun ls hl => ?_)
                      refine lv_aload_n hx hb d_Mod_map_149 rfl (lv_at hl 3 rfl) ?_
                      refine lv_aload_n hx hb d_Mod_map_150 rfl (lv_at hl 3 rfl) ?_
                      refine mf_two S E hI vt_1281 d_Mod_map_151 ?_
                      refine lv_iload hx hb d_Mod_map_154 (lv_at hl 1 rfl) ?_
                      by_cases c45 : x4_8 < 0 ∨ 400000 ≤ (x4_8 : Int32).toNatClampNeg
                      · replace h := Eq.trans (if_pos c45).symm h
                        cases h
                      · replace h := Eq.trans (if_neg c45).symm h
                        refine ml_two S E hI c45 d_Mod_map_156 ?_
                        refine lv_iload_n hx hb d_Mod_map_157 rfl (lv_at hl 4 rfl) ?_
                        refine mg_cI (As := [.int (α42.2 4 (x4_8 : Int32).toNatClampNeg), .int x2_8]) (rest := []) h (hk (α42.2 4 (x4_8 : Int32).toNatClampNeg) x2_8 α42) S hlocks hno E hI kw_Mod_344 ⟨by omega, by omega⟩ (mv_Mod E hI) rfl hl.1 rfl (Nat.le_of_ble_eq_true rfl) d_Mod_map_158 (fun v48 α46 H locs e47 h hI => ?_)
                        refine lv_istore (lv' := [(8, .int v48), (7, .int v44), (4, .int x4_8), (3, .int x3_8), (0, .ref (mad g 0)), (2, .int x2_8)]) hx hb d_Mod_map_161 hl (by decide) rfl (fun ls hl => ?_)
                        refine lv_aload_n hx hb d_Mod_map_163 rfl (lv_at hl 4 rfl) ?_
                        refine lv_bipush (v := 9) hx hb d_Mod_map_164 (by decide) ?_
                        refine lv_iload hx hb d_Mod_map_166 (lv_at hl 1 rfl) ?_
                        refine lv_iload hx hb d_Mod_map_168 (lv_at hl 0 rfl) ?_
                        refine lv_aload_n hx hb d_Mod_map_170 rfl (lv_at hl 4 rfl) ?_
                        refine lv_aload_n hx hb d_Mod_map_171 rfl (lv_at hl 4 rfl) ?_
                        refine mf_three S E hI vt_1282 d_Mod_map_172 ?_
                        refine lv_iload hx hb d_Mod_map_175 (lv_at hl 2 rfl) ?_
                        by_cases c49 : x4_8 < 0 ∨ 400000 ≤ (x4_8 : Int32).toNatClampNeg
                        · replace h := Eq.trans (if_pos c49).symm h
                          cases h
                        · replace h := Eq.trans (if_neg c49).symm h
                          refine ml_three S E hI c49 d_Mod_map_177 ?_
                          refine lv_iload_n hx hb d_Mod_map_178 rfl (lv_at hl 5 rfl) ?_
                          refine lv_iconst (v := 1) hx hb d_Mod_map_179 (by decide) ?_
                          refine lv_iadd hx hb d_Mod_map_180 ?_
                          refine mg_cI (As := [.int (α46.2 5 (x4_8 : Int32).toNatClampNeg), .int (x2_8 + 1)]) (rest := [.int v48, .int v44, .int 9, .ref (mad g 0)]) h (hk (α46.2 5 (x4_8 : Int32).toNatClampNeg) (x2_8 + 1) α46) S hlocks hno E hI kw_Mod_344 ⟨by omega, by omega⟩ (mv_Mod E hI) rfl hl.1 rfl (Nat.le_of_ble_eq_true rfl) d_Mod_map_181 (fun v52 α50 H locs e51 h hI => ?_)
                          refine mg_cI (As := [.int 9, .int v44, .int v48, .int v52]) (rest := []) h (k_Mod_node (l := l) (g := g) (α := α50) N 9 v44 v48 v52) S hlocks hno E hI kw_Mod_336 ⟨by omega, by omega⟩ (mv_Mod E hI) rfl hl.1 rfl (Nat.le_of_ble_eq_true rfl) d_Mod_map_184 (fun v55 α53 H locs e54 h hI => ?_)
                          refine lv_istore (lv' := [(5, .int v55), (8, .int v48), (7, .int v44), (4, .int x4_8), (3, .int x3_8), (0, .ref (mad g 0)), (2, .int x2_8)]) hx hb d_Mod_map_187 hl (by decide) rfl (fun ls hl => ?_)
                          refine lv_goto (tgt := 201) hx hb d_Mod_map_189 (by decide) ?_
                          have L201 : ∀ (n201 : Nat) (x5_201 : Int32) (x3_201 : Int32) (x2_201 : Int32) (β201 : mS) (H : Heap) (locs : List Loc) (ls : Array Slot), f_Mod_map_201 N kk n201 x5_201 x3_201 x2_201 β201 = some x → mI g A s β201 H locs → lv_has ls 9 [(5, .int x5_201), (3, .int x3_201), (0, .ref (mad g 0)), (2, .int x2_201)] → W p l e (mR (46 + (d + 1)) (1329 + 28 * (d + 1))) s m ([.ref (mad g 0), .int a1, .int a2]).toArray below meth c H locs 0 0 (vEQ below (mQ g A (mQr x)) ([.ref (mad g 0), .int a1, .int a2]).toArray s A) (F0 m 201 ls []) := by
                            intro n201
                            induction n201 with
                            | zero => intro x5_201 x3_201 x2_201 β201 H locs ls h hI hl; rw [f_Mod_map_201] at h; cases h
                            | succ n201 ih201 =>
                              intro x5_201 x3_201 x2_201 β201 H locs ls h hI hl
                              rw [f_Mod_map_201] at h
                              refine lv_aload_n hx hb d_Mod_map_201 rfl (lv_at hl 2 rfl) ?_
                              refine mf_spineTop S E hI vt_1287 d_Mod_map_202 ?_
                              refine lv_iload_n hx hb d_Mod_map_205 rfl (lv_at hl 1 rfl) ?_
                              refine lv_icmp_le (tgt := 253) hx hb d_Mod_map_206 (by decide) (fun c56 => ?_) (fun c56 => ?_)
                              · replace h := Eq.trans (if_pos c56).symm h
                                refine lv_iload hx hb d_Mod_map_253 (lv_at hl 0 rfl) ?_
                                exact mc_iret (w := x5_201) hx hb hr rfl hlocks E hI h d_Mod_map_255
                              · replace h := Eq.trans (if_neg c56).symm h
                                refine lv_aload_n hx hb d_Mod_map_209 rfl (lv_at hl 2 rfl) ?_
                                refine lv_dup hx hb d_Mod_map_210 rfl ?_
                                refine mf_spineTop S E hI vt_1287 d_Mod_map_211 ?_
                                refine lv_iconst (v := 1) hx hb d_Mod_map_214 (by decide) ?_
                                refine lv_isub hx hb d_Mod_map_215 ?_
                                refine mp_spineTop S E hI vt_1287 d_Mod_map_216 (fun H locs hI => ?_)
                                refine lv_aload_n hx hb d_Mod_map_219 rfl (lv_at hl 2 rfl) ?_
                                refine mf_spine S E hI vt_1286 d_Mod_map_220 ?_
                                refine lv_aload_n hx hb d_Mod_map_223 rfl (lv_at hl 2 rfl) ?_
                                refine mf_spineTop S E hI vt_1287 d_Mod_map_224 ?_
                                by_cases c57 : ((β201.1 11) - 1) < 0 ∨ 8000 ≤ (((β201.1 11) - 1) : Int32).toNatClampNeg
                                · replace h := Eq.trans (if_pos c57).symm h
                                  cases h
                                · replace h := Eq.trans (if_neg c57).symm h
                                  refine ml_spine S E hI c57 d_Mod_map_227 ?_
                                  refine lv_istore (lv' := [(6, .int ((mSi β201 11 ((β201.1 11) - 1)).2 8 (((β201.1 11) - 1) : Int32).toNatClampNeg)), (5, .int x5_201), (3, .int x3_201), (0, .ref (mad g 0)), (2, .int x2_201)]) hx hb d_Mod_map_228 hl (by decide) rfl (fun ls hl => ?_)
                                  refine lv_aload_n hx hb d_Mod_map_230 rfl (lv_at hl 3 rfl) ?_
                                  refine lv_iload hx hb d_Mod_map_231 (lv_at hl 1 rfl) ?_
                                  refine lv_aload_n hx hb d_Mod_map_233 rfl (lv_at hl 3 rfl) ?_
                                  refine lv_aload_n hx hb d_Mod_map_234 rfl (lv_at hl 3 rfl) ?_
                                  refine mf_two S E hI vt_1281 d_Mod_map_235 ?_
                                  refine lv_iload hx hb d_Mod_map_238 (lv_at hl 0 rfl) ?_
                                  by_cases c58 : ((mSi β201 11 ((β201.1 11) - 1)).2 8 (((β201.1 11) - 1) : Int32).toNatClampNeg) < 0 ∨ 400000 ≤ (((mSi β201 11 ((β201.1 11) - 1)).2 8 (((β201.1 11) - 1) : Int32).toNatClampNeg) : Int32).toNatClampNeg
                                  · replace h := Eq.trans (if_pos c58).symm h
                                    cases h
                                  · replace h := Eq.trans (if_neg c58).symm h
                                    refine ml_two S E hI c58 d_Mod_map_240 ?_
                                    refine lv_iload_n hx hb d_Mod_map_241 rfl (lv_at hl 4 rfl) ?_
                                    refine mg_cI (As := [.int ((mSi β201 11 ((β201.1 11) - 1)).2 4 (((mSi β201 11 ((β201.1 11) - 1)).2 8 (((β201.1 11) - 1) : Int32).toNatClampNeg) : Int32).toNatClampNeg), .int x2_201]) (rest := [.int x5_201, .ref (mad g 0)]) h (hk ((mSi β201 11 ((β201.1 11) - 1)).2 4 (((mSi β201 11 ((β201.1 11) - 1)).2 8 (((β201.1 11) - 1) : Int32).toNatClampNeg) : Int32).toNatClampNeg) x2_201 (mSi β201 11 ((β201.1 11) - 1))) S hlocks hno E hI kw_Mod_344 ⟨by omega, by omega⟩ (mv_Mod E hI) rfl hl.1 rfl (Nat.le_of_ble_eq_true rfl) d_Mod_map_242 (fun v61 α59 H locs e60 h hI => ?_)
                                    refine mg_cI (As := [.int x5_201, .int v61]) (rest := []) h (k_Mod_apply (l := l) (g := g) (α := α59) N x5_201 v61) S hlocks hno E hI kw_Mod_350 ⟨by omega, by omega⟩ (mv_Mod E hI) rfl hl.1 rfl (Nat.le_of_ble_eq_true rfl) d_Mod_map_245 (fun v64 α62 H locs e63 h hI => ?_)
                                    refine lv_istore (lv' := [(5, .int v64), (6, .int ((mSi β201 11 ((β201.1 11) - 1)).2 8 (((β201.1 11) - 1) : Int32).toNatClampNeg)), (3, .int x3_201), (0, .ref (mad g 0)), (2, .int x2_201)]) hx hb d_Mod_map_248 hl (by decide) rfl (fun ls hl => ?_)
                                    refine lv_goto (tgt := 201) hx hb d_Mod_map_250 (by decide) ?_
                                    exact ih201 v64 x3_201 x2_201 _ _ _ _ h hI (lv_sub hl [0, 2, 3, 4] rfl)
                          exact L201 N v55 x3_8 x2_8 _ _ _ _ h hI (lv_sub hl [0, 4, 5, 6] rfl)
                  · replace h := Eq.trans (if_neg c40).symm h
                    have nc40 := ksw (z := 9) rfl c40
                    refine lv_tableOut (tgt := 192) hx hb d_Mod_map_57 (by omega) (by decide) ?_
                    refine lv_aload_n hx hb d_Mod_map_192 rfl (lv_at hl 2 rfl) ?_
                    refine lv_iload hx hb d_Mod_map_193 (lv_at hl 0 rfl) ?_
                    refine lv_iload_n hx hb d_Mod_map_195 rfl (lv_at hl 3 rfl) ?_
                    refine mg_cI (As := [.int x4_8, .int x2_8]) (rest := []) h (k_Mod_leaf (l := l) (g := g) (α := β8) N x4_8 x2_8) S hlocks hno E hI kw_Mod_347 ⟨by omega, by omega⟩ (mv_Mod E hI) rfl hl.1 rfl (Nat.le_of_ble_eq_true rfl) d_Mod_map_196 (fun v67 α65 H locs e66 h hI => ?_)
                    refine lv_istore (lv' := [(5, .int v67), (4, .int x4_8), (3, .int x3_8), (0, .ref (mad g 0)), (2, .int x2_8)]) hx hb d_Mod_map_199 hl (by decide) rfl (fun ls hl => ?_)
                    have L201 : ∀ (n201 : Nat) (x5_201 : Int32) (x3_201 : Int32) (x2_201 : Int32) (β201 : mS) (H : Heap) (locs : List Loc) (ls : Array Slot), f_Mod_map_201 N kk n201 x5_201 x3_201 x2_201 β201 = some x → mI g A s β201 H locs → lv_has ls 9 [(5, .int x5_201), (3, .int x3_201), (0, .ref (mad g 0)), (2, .int x2_201)] → W p l e (mR (46 + (d + 1)) (1329 + 28 * (d + 1))) s m ([.ref (mad g 0), .int a1, .int a2]).toArray below meth c H locs 0 0 (vEQ below (mQ g A (mQr x)) ([.ref (mad g 0), .int a1, .int a2]).toArray s A) (F0 m 201 ls []) := by
                      intro n201
                      induction n201 with
                      | zero => intro x5_201 x3_201 x2_201 β201 H locs ls h hI hl; rw [f_Mod_map_201] at h; cases h
                      | succ n201 ih201 =>
                        intro x5_201 x3_201 x2_201 β201 H locs ls h hI hl
                        rw [f_Mod_map_201] at h
                        refine lv_aload_n hx hb d_Mod_map_201 rfl (lv_at hl 2 rfl) ?_
                        refine mf_spineTop S E hI vt_1287 d_Mod_map_202 ?_
                        refine lv_iload_n hx hb d_Mod_map_205 rfl (lv_at hl 1 rfl) ?_
                        refine lv_icmp_le (tgt := 253) hx hb d_Mod_map_206 (by decide) (fun c68 => ?_) (fun c68 => ?_)
                        · replace h := Eq.trans (if_pos c68).symm h
                          refine lv_iload hx hb d_Mod_map_253 (lv_at hl 0 rfl) ?_
                          exact mc_iret (w := x5_201) hx hb hr rfl hlocks E hI h d_Mod_map_255
                        · replace h := Eq.trans (if_neg c68).symm h
                          refine lv_aload_n hx hb d_Mod_map_209 rfl (lv_at hl 2 rfl) ?_
                          refine lv_dup hx hb d_Mod_map_210 rfl ?_
                          refine mf_spineTop S E hI vt_1287 d_Mod_map_211 ?_
                          refine lv_iconst (v := 1) hx hb d_Mod_map_214 (by decide) ?_
                          refine lv_isub hx hb d_Mod_map_215 ?_
                          refine mp_spineTop S E hI vt_1287 d_Mod_map_216 (fun H locs hI => ?_)
                          refine lv_aload_n hx hb d_Mod_map_219 rfl (lv_at hl 2 rfl) ?_
                          refine mf_spine S E hI vt_1286 d_Mod_map_220 ?_
                          refine lv_aload_n hx hb d_Mod_map_223 rfl (lv_at hl 2 rfl) ?_
                          refine mf_spineTop S E hI vt_1287 d_Mod_map_224 ?_
                          by_cases c69 : ((β201.1 11) - 1) < 0 ∨ 8000 ≤ (((β201.1 11) - 1) : Int32).toNatClampNeg
                          · replace h := Eq.trans (if_pos c69).symm h
                            cases h
                          · replace h := Eq.trans (if_neg c69).symm h
                            refine ml_spine S E hI c69 d_Mod_map_227 ?_
                            refine lv_istore (lv' := [(6, .int ((mSi β201 11 ((β201.1 11) - 1)).2 8 (((β201.1 11) - 1) : Int32).toNatClampNeg)), (5, .int x5_201), (3, .int x3_201), (0, .ref (mad g 0)), (2, .int x2_201)]) hx hb d_Mod_map_228 hl (by decide) rfl (fun ls hl => ?_)
                            refine lv_aload_n hx hb d_Mod_map_230 rfl (lv_at hl 3 rfl) ?_
                            refine lv_iload hx hb d_Mod_map_231 (lv_at hl 1 rfl) ?_
                            refine lv_aload_n hx hb d_Mod_map_233 rfl (lv_at hl 3 rfl) ?_
                            refine lv_aload_n hx hb d_Mod_map_234 rfl (lv_at hl 3 rfl) ?_
                            refine mf_two S E hI vt_1281 d_Mod_map_235 ?_
                            refine lv_iload hx hb d_Mod_map_238 (lv_at hl 0 rfl) ?_
                            by_cases c70 : ((mSi β201 11 ((β201.1 11) - 1)).2 8 (((β201.1 11) - 1) : Int32).toNatClampNeg) < 0 ∨ 400000 ≤ (((mSi β201 11 ((β201.1 11) - 1)).2 8 (((β201.1 11) - 1) : Int32).toNatClampNeg) : Int32).toNatClampNeg
                            · replace h := Eq.trans (if_pos c70).symm h
                              cases h
                            · replace h := Eq.trans (if_neg c70).symm h
                              refine ml_two S E hI c70 d_Mod_map_240 ?_
                              refine lv_iload_n hx hb d_Mod_map_241 rfl (lv_at hl 4 rfl) ?_
                              refine mg_cI (As := [.int ((mSi β201 11 ((β201.1 11) - 1)).2 4 (((mSi β201 11 ((β201.1 11) - 1)).2 8 (((β201.1 11) - 1) : Int32).toNatClampNeg) : Int32).toNatClampNeg), .int x2_201]) (rest := [.int x5_201, .ref (mad g 0)]) h (hk ((mSi β201 11 ((β201.1 11) - 1)).2 4 (((mSi β201 11 ((β201.1 11) - 1)).2 8 (((β201.1 11) - 1) : Int32).toNatClampNeg) : Int32).toNatClampNeg) x2_201 (mSi β201 11 ((β201.1 11) - 1))) S hlocks hno E hI kw_Mod_344 ⟨by omega, by omega⟩ (mv_Mod E hI) rfl hl.1 rfl (Nat.le_of_ble_eq_true rfl) d_Mod_map_242 (fun v73 α71 H locs e72 h hI => ?_)
                              refine mg_cI (As := [.int x5_201, .int v73]) (rest := []) h (k_Mod_apply (l := l) (g := g) (α := α71) N x5_201 v73) S hlocks hno E hI kw_Mod_350 ⟨by omega, by omega⟩ (mv_Mod E hI) rfl hl.1 rfl (Nat.le_of_ble_eq_true rfl) d_Mod_map_245 (fun v76 α74 H locs e75 h hI => ?_)
                              refine lv_istore (lv' := [(5, .int v76), (6, .int ((mSi β201 11 ((β201.1 11) - 1)).2 8 (((β201.1 11) - 1) : Int32).toNatClampNeg)), (3, .int x3_201), (0, .ref (mad g 0)), (2, .int x2_201)]) hx hb d_Mod_map_248 hl (by decide) rfl (fun ls hl => ?_)
                              refine lv_goto (tgt := 201) hx hb d_Mod_map_250 (by decide) ?_
                              exact ih201 v76 x3_201 x2_201 _ _ _ _ h hI (lv_sub hl [0, 2, 3, 4] rfl)
                    exact L201 N v67 x3_8 x2_8 _ _ _ _ h hI (lv_sub hl [0, 2, 3, 4] rfl)
        · replace h := Eq.trans (if_pos c2).symm h
          refine lv_aload_n hx hb d_Mod_map_20 rfl (lv_at hl 2 rfl) ?_
          refine mf_spine S E hI vt_1286 d_Mod_map_21 ?_
          refine lv_aload_n hx hb d_Mod_map_24 rfl (lv_at hl 2 rfl) ?_
          refine lv_dup hx hb d_Mod_map_25 rfl ?_
          refine mf_spineTop S E hI vt_1287 d_Mod_map_26 ?_
          refine lv_dup_x1 hx hb d_Mod_map_29 rfl rfl ?_
          refine lv_iconst (v := 1) hx hb d_Mod_map_30 (by decide) ?_
          refine lv_iadd hx hb d_Mod_map_31 ?_
          refine mp_spineTop S E hI vt_1287 d_Mod_map_32 (fun H locs hI => ?_)
          refine lv_iload hx hb d_Mod_map_35 (lv_at hl 0 rfl) ?_
          by_cases c77 : (β8.1 11) < 0 ∨ 8000 ≤ ((β8.1 11) : Int32).toNatClampNeg
          · replace h := Eq.trans (if_pos c77).symm h
            cases h
          · replace h := Eq.trans (if_neg c77).symm h
            refine ms_spine S E hI c77 d_Mod_map_37 (fun H locs hI => ?_)
            refine lv_aload_n hx hb d_Mod_map_38 rfl (lv_at hl 2 rfl) ?_
            refine mf_one S E hI vt_1280 d_Mod_map_39 ?_
            refine lv_iload hx hb d_Mod_map_42 (lv_at hl 0 rfl) ?_
            by_cases c78 : x4_8 < 0 ∨ 400000 ≤ (x4_8 : Int32).toNatClampNeg
            · replace h := Eq.trans (if_pos c78).symm h
              cases h
            · replace h := Eq.trans (if_neg c78).symm h
              refine ml_one S E hI c78 d_Mod_map_44 ?_
              refine lv_istore (lv' := [(4, .int ((mSA (mSi β8 11 ((β8.1 11) + 1)) 8 (upd ((mSi β8 11 ((β8.1 11) + 1)).2 8) ((β8.1 11) : Int32).toNatClampNeg x4_8)).2 3 (x4_8 : Int32).toNatClampNeg)), (3, .int x3_8), (0, .ref (mad g 0)), (2, .int x2_8)]) hx hb d_Mod_map_45 hl (by decide) rfl (fun ls hl => ?_)
              refine lv_goto (tgt := 8) hx hb d_Mod_map_47 (by decide) ?_
              exact ih8 ((mSA (mSi β8 11 ((β8.1 11) + 1)) 8 (upd ((mSi β8 11 ((β8.1 11) + 1)).2 8) ((β8.1 11) : Int32).toNatClampNeg x4_8)).2 3 (x4_8 : Int32).toNatClampNeg) x3_8 x2_8 _ _ _ _ h hI (lv_sub hl [0, 1, 2, 3] rfl)
  exact L8 N a1 (α.1 11) a2 _ _ _ _ h hI (lv_sub hl [0, 1, 2, 4] rfl)
def G_map (N : Nat) : Nat → (Int32 → Int32 → mS → Option (kO × mS))
  | 0 => (fun _ _ _ => none)
  | d + 1 => (f_Mod_map N (G_map N d))
theorem ok_map {l : Launch} {g : mG} (N : Nat) : ∀ d, hk_map l g (G_map N d) (46 + d) (1329 + 28 * d)
  | 0 => (fun a1 a2  α x h => by cases h)
  | d + 1 => by
    have ih := ok_map (l := l) (g := g) N d
    exact (fun a1 a2  α x h => k_Mod_map (α := α) N _ d ih a1 a2  x h)
def dp_map : Nat := 800
