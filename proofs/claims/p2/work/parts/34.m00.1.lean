def f_Mod_refuse (a1 : Int32) (a2 : Int32) (α : mS) : Int32 × mS := if a2 = 0 then (((a2 &&& 1), α)) else (((a2 &&& 1), (mSi α 2 a1)))
set_option maxHeartbeats 4000000 in
set_option maxRecDepth 100000 in
theorem k_Mod_refuse {l : Launch} {g : mG} {α : mS} (a1 : Int32) (a2 : Int32)  : mC l g y_Mod_refuse b_Mod_refuse 3 (some .boolean) (1) (1) [.ref (mad g 0), .int a1, .int a2] α (mQr (some (some (f_Mod_refuse a1 a2 α).1), (f_Mod_refuse a1 a2 α).2)) := by
  generalize h : f_Mod_refuse a1 a2 α = x
  unfold f_Mod_refuse at h
  refine mc_ofW (by decide) (fun A p e s m args below meth c S hr hlocks hno hargs E hI => ?_)
  have hx := S.1
  have hb := S.2.1
  have hown := S.2.2.2.1
  have hT := S.2.2.2.2
  subst hargs
  have hl := lv_entry ([.ref (mad g 0), .int a1, .int a2]) (n := 3) (Nat.le_of_ble_eq_true rfl)
  rw [lg_entry_eq]
  generalize (lg_sl ([.ref (mad g 0), .int a1, .int a2]) ++ List.replicate (3 - (lg_sl ([.ref (mad g 0), .int a1, .int a2])).length) Slot.unset).toArray = ls at hl ⊢
  have hl : lv_has ls 3 [(0, .ref (mad g 0)), (1, .int a1), (2, .int a2)] := hl
  refine lv_iload_n hx hb d_Mod_refuse_0 rfl (lv_at hl 2 rfl) ?_
  refine lv_if_eq (tgt := 9) hx hb d_Mod_refuse_1 (by decide) (fun c1 => ?_) (fun c1 => ?_)
  · replace h := Eq.trans (if_pos c1).symm h
    refine lv_iload_n hx hb d_Mod_refuse_9 rfl (lv_at hl 2 rfl) ?_
    exact mc_iret (w := (a2 &&& 1)) hx hb hr rfl hlocks E hI (by rw [← h]) d_Mod_refuse_10
  · replace h := Eq.trans (if_neg c1).symm h
    refine lv_aload_n hx hb d_Mod_refuse_4 rfl (lv_at hl 0 rfl) ?_
    refine lv_iload_n hx hb d_Mod_refuse_5 rfl (lv_at hl 1 rfl) ?_
    refine mp_thrown S E hI vt_1270 d_Mod_refuse_6 (fun H locs hI => ?_)
    refine lv_iload_n hx hb d_Mod_refuse_9 rfl (lv_at hl 2 rfl) ?_
    exact mc_iret (w := (a2 &&& 1)) hx hb hr rfl hlocks E hI (by rw [← h]) d_Mod_refuse_10
theorem kw_Mod_251 : kWv "FamilyKernelModel" 251 "FamilyKernelModel" y_Mod_refuse b_Mod_refuse 3 (some .boolean) 2 := ⟨vt_1348, vt_1350, vt_1351, vt_1349, vt_1352, by decide, by decide, by decide +kernel⟩
def f_Mod_none (a1 : Int32) (α : mS) : Int32 × mS := if a1 < 0 then ((((f_Mod_refuse 1 1 (mSi α 2 0)).1 &&& 1), (f_Mod_refuse 1 1 (mSi α 2 0)).2)) else (if a1 < (α.1 16) then ((((f_Mod_refuse 1 0 (mSi α 2 0)).1 &&& 1), (f_Mod_refuse 1 0 (mSi α 2 0)).2)) else ((((f_Mod_refuse 1 1 (mSi α 2 0)).1 &&& 1), (f_Mod_refuse 1 1 (mSi α 2 0)).2)))
set_option maxHeartbeats 4000000 in
set_option maxRecDepth 100000 in
theorem k_Mod_none {l : Launch} {g : mG} {α : mS} (a1 : Int32)  : mC l g y_Mod_none b_Mod_none 2 (some .boolean) (2) (23) [.ref (mad g 0), .int a1] α (mQr (some (some (f_Mod_none a1 α).1), (f_Mod_none a1 α).2)) := by
  generalize h : f_Mod_none a1 α = x
  unfold f_Mod_none at h
  refine mc_ofW (by decide) (fun A p e s m args below meth c S hr hlocks hno hargs E hI => ?_)
  have hx := S.1
  have hb := S.2.1
  have hown := S.2.2.2.1
  have hT := S.2.2.2.2
  subst hargs
  have hl := lv_entry ([.ref (mad g 0), .int a1]) (n := 2) (Nat.le_of_ble_eq_true rfl)
  rw [lg_entry_eq]
  generalize (lg_sl ([.ref (mad g 0), .int a1]) ++ List.replicate (2 - (lg_sl ([.ref (mad g 0), .int a1])).length) Slot.unset).toArray = ls at hl ⊢
  have hl : lv_has ls 2 [(0, .ref (mad g 0)), (1, .int a1)] := hl
  refine lv_aload_n hx hb d_Mod_none_0 rfl (lv_at hl 0 rfl) ?_
  refine lv_iconst (v := 0) hx hb d_Mod_none_1 (by decide) ?_
  refine mp_thrown S E hI vt_1270 d_Mod_none_2 (fun H locs hI => ?_)
  refine lv_aload_n hx hb d_Mod_none_5 rfl (lv_at hl 0 rfl) ?_
  refine lv_iconst (v := 1) hx hb d_Mod_none_6 (by decide) ?_
  refine lv_iload_n hx hb d_Mod_none_7 rfl (lv_at hl 1 rfl) ?_
  refine lv_if_lt (tgt := 19) hx hb d_Mod_none_8 (by decide) (fun c1 => ?_) (fun c1 => ?_)
  · replace h := Eq.trans (if_pos c1).symm h
    refine lv_iconst (v := 1) hx hb d_Mod_none_19 (by decide) ?_
    refine lv_goto (tgt := 24) hx hb d_Mod_none_20 (by decide) ?_
    refine mg_tI (As := [.int 1, .int 1]) (rest := []) (k_Mod_refuse (l := l) (g := g) (α := (mSi α 2 0)) 1 1) S hlocks hno E hI kw_Mod_251 ⟨Nat.le_of_ble_eq_true rfl, Nat.le_of_ble_eq_true rfl⟩ (mv_Mod E hI) rfl hl.1 rfl (Nat.le_of_ble_eq_true rfl) d_Mod_none_24 (fun H locs hI => ?_)
    exact mc_iret (w := ((f_Mod_refuse 1 1 (mSi α 2 0)).1 &&& 1)) hx hb hr rfl hlocks E hI (by rw [← h]) d_Mod_none_27
  · replace h := Eq.trans (if_neg c1).symm h
    refine lv_iload_n hx hb d_Mod_none_11 rfl (lv_at hl 1 rfl) ?_
    refine lv_aload_n hx hb d_Mod_none_12 rfl (lv_at hl 0 rfl) ?_
    refine mf_constants S E hI vt_1295 d_Mod_none_13 ?_
    refine lv_icmp_lt (tgt := 23) hx hb d_Mod_none_16 (by decide) (fun c2 => ?_) (fun c2 => ?_)
    · replace h := Eq.trans (if_pos c2).symm h
      refine lv_iconst (v := 0) hx hb d_Mod_none_23 (by decide) ?_
      refine mg_tI (As := [.int 1, .int 0]) (rest := []) (k_Mod_refuse (l := l) (g := g) (α := (mSi α 2 0)) 1 0) S hlocks hno E hI kw_Mod_251 ⟨Nat.le_of_ble_eq_true rfl, Nat.le_of_ble_eq_true rfl⟩ (mv_Mod E hI) rfl hl.1 rfl (Nat.le_of_ble_eq_true rfl) d_Mod_none_24 (fun H locs hI => ?_)
      exact mc_iret (w := ((f_Mod_refuse 1 0 (mSi α 2 0)).1 &&& 1)) hx hb hr rfl hlocks E hI (by rw [← h]) d_Mod_none_27
    · replace h := Eq.trans (if_neg c2).symm h
      refine lv_iconst (v := 1) hx hb d_Mod_none_19 (by decide) ?_
      refine lv_goto (tgt := 24) hx hb d_Mod_none_20 (by decide) ?_
      refine mg_tI (As := [.int 1, .int 1]) (rest := []) (k_Mod_refuse (l := l) (g := g) (α := (mSi α 2 0)) 1 1) S hlocks hno E hI kw_Mod_251 ⟨Nat.le_of_ble_eq_true rfl, Nat.le_of_ble_eq_true rfl⟩ (mv_Mod E hI) rfl hl.1 rfl (Nat.le_of_ble_eq_true rfl) d_Mod_none_24 (fun H locs hI => ?_)
      exact mc_iret (w := ((f_Mod_refuse 1 1 (mSi α 2 0)).1 &&& 1)) hx hb hr rfl hlocks E hI (by rw [← h]) d_Mod_none_27
theorem kw_Mod_577 : kWv "FamilyKernelModel" 577 "FamilyKernelModel" y_Mod_none b_Mod_none 2 (some .boolean) 1 := ⟨vt_1747, vt_1748, vt_1749, vt_1349, vt_1750, by decide, by decide, by decide +kernel⟩
def f_Mod_constant_2_j25 (N : Nat)  (y1 : Int32) (y2 : Int32) (t0 : Int32) (γ : mS) : Option (kO × mS) := if y2 = 0 then (if y1 < 0 ∨ 301 ≤ (y1 : Int32).toNatClampNeg then none else (some (some (some (γ.2 12 (y1 : Int32).toNatClampNeg)), γ))) else (if y2 = 1 then (if y1 < 0 ∨ 301 ≤ (y1 : Int32).toNatClampNeg then none else (if (γ.2 13 (y1 : Int32).toNatClampNeg) < 0 ∨ 400000 ≤ ((γ.2 13 (y1 : Int32).toNatClampNeg) : Int32).toNatClampNeg then none else (some (some (some (γ.2 6 ((γ.2 13 (y1 : Int32).toNatClampNeg) : Int32).toNatClampNeg)), γ)))) else (if y2 = 2 then (if y1 < 0 ∨ 301 ≤ (y1 : Int32).toNatClampNeg then none else (if 0 ≤ (γ.2 14 (y1 : Int32).toNatClampNeg) then (if y1 < 0 ∨ 301 ≤ (y1 : Int32).toNatClampNeg then none else (if (γ.2 14 (y1 : Int32).toNatClampNeg) < 0 ∨ 400000 ≤ ((γ.2 14 (y1 : Int32).toNatClampNeg) : Int32).toNatClampNeg then none else (some (some (some (γ.2 6 ((γ.2 14 (y1 : Int32).toNatClampNeg) : Int32).toNatClampNeg)), γ)))) else (some (some (some 0), γ)))) else (if y2 = 3 then (if t0 = 0 then (some (some (some 0), γ)) else (if y1 < 0 ∨ 301 ≤ (y1 : Int32).toNatClampNeg then none else (some (some (some (γ.2 15 (y1 : Int32).toNatClampNeg)), γ)))) else (if y2 = 4 then (if t0 = 0 then (some (some (some 0), γ)) else (if y1 < 0 ∨ 301 ≤ (y1 : Int32).toNatClampNeg then none else (some (some (some (γ.2 16 (y1 : Int32).toNatClampNeg)), γ)))) else (if y2 = 5 then (if t0 = 0 then (some (some (some 0), γ)) else (if y1 < 0 ∨ 301 ≤ (y1 : Int32).toNatClampNeg then none else (some (some (some (γ.2 17 (y1 : Int32).toNatClampNeg)), γ)))) else (if y2 = 6 then (if y1 < 0 ∨ 301 ≤ (y1 : Int32).toNatClampNeg then none else (if (γ.2 12 (y1 : Int32).toNatClampNeg) = 4 then (if y1 < 0 ∨ 301 ≤ (y1 : Int32).toNatClampNeg then none else (some (some (some (γ.2 18 (y1 : Int32).toNatClampNeg)), γ))) else (some (some (some 0), γ)))) else (if y2 = 7 then (if y1 < 0 ∨ 301 ≤ (y1 : Int32).toNatClampNeg then none else (if (γ.2 12 (y1 : Int32).toNatClampNeg) = 4 then (if y1 < 0 ∨ 301 ≤ (y1 : Int32).toNatClampNeg then none else (some (some (some (γ.2 19 (y1 : Int32).toNatClampNeg)), γ))) else (some (some (some 0), γ)))) else (some (some (some 0), (mSi γ 2 2))))))))))
def f_Mod_constant_2 (N : Nat) (a1 : Int32) (a2 : Int32) (α : mS) : Option (kO × mS) := if (f_Mod_none a1 α).1 = 0 then (if a1 < 0 ∨ 301 ≤ (a1 : Int32).toNatClampNeg then none else (if ((f_Mod_none a1 α).2.2 12 (a1 : Int32).toNatClampNeg) = 3 then (f_Mod_constant_2_j25 N a1 a2 1 (f_Mod_none a1 α).2) else (f_Mod_constant_2_j25 N a1 a2 0 (f_Mod_none a1 α).2))) else (some (some (some 0), (f_Mod_none a1 α).2))
set_option maxHeartbeats 4000000 in
set_option maxRecDepth 100000 in
theorem k_Mod_constant_2 {l : Launch} {g : mG} {α : mS} (N : Nat) (a1 : Int32) (a2 : Int32)  : ∀ x, f_Mod_constant_2 N a1 a2 α = some x → mC l g y_Mod_constant_2 b_Mod_constant_2 4 (some .int) (3) (44) [.ref (mad g 0), .int a1, .int a2] α (mQr x) := by
  intro x h
  unfold f_Mod_constant_2 at h
  refine mc_ofW (by decide) (fun A p e s m args below meth c S hr hlocks hno hargs E hI => ?_)
  have hx := S.1
  have hb := S.2.1
  have hown := S.2.2.2.1
  have hT := S.2.2.2.2
  subst hargs
  have hl := lv_entry ([.ref (mad g 0), .int a1, .int a2]) (n := 4) (Nat.le_of_ble_eq_true rfl)
  rw [lg_entry_eq]
  generalize (lg_sl ([.ref (mad g 0), .int a1, .int a2]) ++ List.replicate (4 - (lg_sl ([.ref (mad g 0), .int a1, .int a2])).length) Slot.unset).toArray = ls at hl ⊢
  have hl : lv_has ls 4 [(0, .ref (mad g 0)), (1, .int a1), (2, .int a2)] := hl
  have J25 : ∀ (y1 : Int32) (y2 : Int32) (t0 : Int32) (γ : mS) (H : Heap) (locs : List Loc) (ls : Array Slot), f_Mod_constant_2_j25 N y1 y2 t0 γ = some x → mI g A s γ H locs → lv_has ls 4 [(0, .ref (mad g 0)), (1, .int y1), (2, .int y2)] → W p l e (mR (3) (44)) s m ([.ref (mad g 0), .int a1, .int a2]).toArray below meth c H locs 0 0 (vEQ below (mQ g A (mQr x)) ([.ref (mad g 0), .int a1, .int a2]).toArray s A) (F0 m 25 ls [.int t0]) := by
    intro y1 y2 t0 γ H locs ls h hI hl
    unfold f_Mod_constant_2_j25 at h
    refine lv_istore_n (lv' := [(3, .int t0), (0, .ref (mad g 0)), (1, .int y1), (2, .int y2)]) hx hb d_Mod_constant_2_25 rfl hl (by decide) rfl (fun ls hl => ?_)
    refine lv_iload_n hx hb d_Mod_constant_2_26 rfl (lv_at hl 3 rfl) ?_
    by_cases c4 : y2 = 0
    · replace h := Eq.trans (if_pos c4).symm h
      refine lv_tableIn (off := 45) (tgt := 72) hx hb d_Mod_constant_2_27 (by rw [c4]; decide) (by rw [c4]; decide) (by rw [c4]; rfl) (by decide) ?_
      refine lv_aload_n hx hb d_Mod_constant_2_72 rfl (lv_at hl 1 rfl) ?_
      refine mf_sortOf S E hI vt_1296 d_Mod_constant_2_73 ?_
      refine lv_iload_n hx hb d_Mod_constant_2_76 rfl (lv_at hl 2 rfl) ?_
      by_cases c5 : y1 < 0 ∨ 301 ≤ (y1 : Int32).toNatClampNeg
      · replace h := Eq.trans (if_pos c5).symm h
        cases h
      · replace h := Eq.trans (if_neg c5).symm h
        refine ml_sortOf S E hI c5 d_Mod_constant_2_77 ?_
        exact mc_iret (w := (γ.2 12 (y1 : Int32).toNatClampNeg)) hx hb hr rfl hlocks E hI h d_Mod_constant_2_78
    · replace h := Eq.trans (if_neg c4).symm h
      have nc4 := ksw (z := 0) rfl c4
      by_cases c6 : y2 = 1
      · replace h := Eq.trans (if_pos c6).symm h
        refine lv_tableIn (off := 52) (tgt := 79) hx hb d_Mod_constant_2_27 (by rw [c6]; decide) (by rw [c6]; decide) (by rw [c6]; rfl) (by decide) ?_
        refine lv_aload_n hx hb d_Mod_constant_2_79 rfl (lv_at hl 1 rfl) ?_
        refine mf_big S E hI vt_1283 d_Mod_constant_2_80 ?_
        refine lv_aload_n hx hb d_Mod_constant_2_83 rfl (lv_at hl 1 rfl) ?_
        refine mf_typeOf S E hI vt_1297 d_Mod_constant_2_84 ?_
        refine lv_iload_n hx hb d_Mod_constant_2_87 rfl (lv_at hl 2 rfl) ?_
        by_cases c7 : y1 < 0 ∨ 301 ≤ (y1 : Int32).toNatClampNeg
        · replace h := Eq.trans (if_pos c7).symm h
          cases h
        · replace h := Eq.trans (if_neg c7).symm h
          refine ml_typeOf S E hI c7 d_Mod_constant_2_88 ?_
          by_cases c8 : (γ.2 13 (y1 : Int32).toNatClampNeg) < 0 ∨ 400000 ≤ ((γ.2 13 (y1 : Int32).toNatClampNeg) : Int32).toNatClampNeg
          · replace h := Eq.trans (if_pos c8).symm h
            cases h
          · replace h := Eq.trans (if_neg c8).symm h
            refine ml_big S E hI c8 d_Mod_constant_2_89 ?_
            exact mc_iret (w := (γ.2 6 ((γ.2 13 (y1 : Int32).toNatClampNeg) : Int32).toNatClampNeg)) hx hb hr rfl hlocks E hI h d_Mod_constant_2_90
      · replace h := Eq.trans (if_neg c6).symm h
        have nc6 := ksw (z := 1) rfl c6
        by_cases c9 : y2 = 2
        · replace h := Eq.trans (if_pos c9).symm h
          refine lv_tableIn (off := 64) (tgt := 91) hx hb d_Mod_constant_2_27 (by rw [c9]; decide) (by rw [c9]; decide) (by rw [c9]; rfl) (by decide) ?_
          refine lv_aload_n hx hb d_Mod_constant_2_91 rfl (lv_at hl 1 rfl) ?_
          refine mf_valueOf S E hI vt_1298 d_Mod_constant_2_92 ?_
          refine lv_iload_n hx hb d_Mod_constant_2_95 rfl (lv_at hl 2 rfl) ?_
          by_cases c10 : y1 < 0 ∨ 301 ≤ (y1 : Int32).toNatClampNeg
          · replace h := Eq.trans (if_pos c10).symm h
            cases h
          · replace h := Eq.trans (if_neg c10).symm h
            refine ml_valueOf S E hI c10 d_Mod_constant_2_96 ?_
            refine lv_if_ge (tgt := 104) hx hb d_Mod_constant_2_97 (by decide) (fun c11 => ?_) (fun c11 => ?_)
            · replace h := Eq.trans (if_pos c11).symm h
              refine lv_aload_n hx hb d_Mod_constant_2_104 rfl (lv_at hl 1 rfl) ?_
              refine mf_big S E hI vt_1283 d_Mod_constant_2_105 ?_
              refine lv_aload_n hx hb d_Mod_constant_2_108 rfl (lv_at hl 1 rfl) ?_
              refine mf_valueOf S E hI vt_1298 d_Mod_constant_2_109 ?_
              refine lv_iload_n hx hb d_Mod_constant_2_112 rfl (lv_at hl 2 rfl) ?_
              by_cases c12 : y1 < 0 ∨ 301 ≤ (y1 : Int32).toNatClampNeg
              · replace h := Eq.trans (if_pos c12).symm h
                cases h
              · replace h := Eq.trans (if_neg c12).symm h
                refine ml_valueOf S E hI c12 d_Mod_constant_2_113 ?_
                by_cases c13 : (γ.2 14 (y1 : Int32).toNatClampNeg) < 0 ∨ 400000 ≤ ((γ.2 14 (y1 : Int32).toNatClampNeg) : Int32).toNatClampNeg
                · replace h := Eq.trans (if_pos c13).symm h
                  cases h
                · replace h := Eq.trans (if_neg c13).symm h
                  refine ml_big S E hI c13 d_Mod_constant_2_114 ?_
                  exact mc_iret (w := (γ.2 6 ((γ.2 14 (y1 : Int32).toNatClampNeg) : Int32).toNatClampNeg)) hx hb hr rfl hlocks E hI h d_Mod_constant_2_115
            · replace h := Eq.trans (if_neg c11).symm h
              refine lv_iconst (v := 0) hx hb d_Mod_constant_2_100 (by decide) ?_
              refine lv_goto (tgt := 115) hx hb d_Mod_constant_2_101 (by decide) ?_
              exact mc_iret (w := 0) hx hb hr rfl hlocks E hI h d_Mod_constant_2_115
        · replace h := Eq.trans (if_neg c9).symm h
          have nc9 := ksw (z := 2) rfl c9
          by_cases c14 : y2 = 3
          · replace h := Eq.trans (if_pos c14).symm h
            refine lv_tableIn (off := 89) (tgt := 116) hx hb d_Mod_constant_2_27 (by rw [c14]; decide) (by rw [c14]; decide) (by rw [c14]; rfl) (by decide) ?_
            refine lv_iload_n hx hb d_Mod_constant_2_116 rfl (lv_at hl 0 rfl) ?_
            refine lv_if_eq (tgt := 129) hx hb d_Mod_constant_2_117 (by decide) (fun c15 => ?_) (fun c15 => ?_)
            · replace h := Eq.trans (if_pos c15).symm h
              refine lv_iconst (v := 0) hx hb d_Mod_constant_2_129 (by decide) ?_
              exact mc_iret (w := 0) hx hb hr rfl hlocks E hI h d_Mod_constant_2_130
            · replace h := Eq.trans (if_neg c15).symm h
              refine lv_aload_n hx hb d_Mod_constant_2_120 rfl (lv_at hl 1 rfl) ?_
              refine mf_parameters S E hI vt_1299 d_Mod_constant_2_121 ?_
              refine lv_iload_n hx hb d_Mod_constant_2_124 rfl (lv_at hl 2 rfl) ?_
              by_cases c16 : y1 < 0 ∨ 301 ≤ (y1 : Int32).toNatClampNeg
              · replace h := Eq.trans (if_pos c16).symm h
                cases h
              · replace h := Eq.trans (if_neg c16).symm h
                refine ml_parameters S E hI c16 d_Mod_constant_2_125 ?_
                refine lv_goto (tgt := 130) hx hb d_Mod_constant_2_126 (by decide) ?_
                exact mc_iret (w := (γ.2 15 (y1 : Int32).toNatClampNeg)) hx hb hr rfl hlocks E hI h d_Mod_constant_2_130
          · replace h := Eq.trans (if_neg c14).symm h
            have nc14 := ksw (z := 3) rfl c14
            by_cases c17 : y2 = 4
            · replace h := Eq.trans (if_pos c17).symm h
              refine lv_tableIn (off := 104) (tgt := 131) hx hb d_Mod_constant_2_27 (by rw [c17]; decide) (by rw [c17]; decide) (by rw [c17]; rfl) (by decide) ?_
              refine lv_iload_n hx hb d_Mod_constant_2_131 rfl (lv_at hl 0 rfl) ?_
              refine lv_if_eq (tgt := 144) hx hb d_Mod_constant_2_132 (by decide) (fun c18 => ?_) (fun c18 => ?_)
              · replace h := Eq.trans (if_pos c18).symm h
                refine lv_iconst (v := 0) hx hb d_Mod_constant_2_144 (by decide) ?_
                exact mc_iret (w := 0) hx hb hr rfl hlocks E hI h d_Mod_constant_2_145
              · replace h := Eq.trans (if_neg c18).symm h
                refine lv_aload_n hx hb d_Mod_constant_2_135 rfl (lv_at hl 1 rfl) ?_
                refine mf_indices S E hI vt_1300 d_Mod_constant_2_136 ?_
                refine lv_iload_n hx hb d_Mod_constant_2_139 rfl (lv_at hl 2 rfl) ?_
                by_cases c19 : y1 < 0 ∨ 301 ≤ (y1 : Int32).toNatClampNeg
                · replace h := Eq.trans (if_pos c19).symm h
                  cases h
                · replace h := Eq.trans (if_neg c19).symm h
                  refine ml_indices S E hI c19 d_Mod_constant_2_140 ?_
                  refine lv_goto (tgt := 145) hx hb d_Mod_constant_2_141 (by decide) ?_
                  exact mc_iret (w := (γ.2 16 (y1 : Int32).toNatClampNeg)) hx hb hr rfl hlocks E hI h d_Mod_constant_2_145
            · replace h := Eq.trans (if_neg c17).symm h
              have nc17 := ksw (z := 4) rfl c17
              by_cases c20 : y2 = 5
              · replace h := Eq.trans (if_pos c20).symm h
                refine lv_tableIn (off := 119) (tgt := 146) hx hb d_Mod_constant_2_27 (by rw [c20]; decide) (by rw [c20]; decide) (by rw [c20]; rfl) (by decide) ?_
                refine lv_iload_n hx hb d_Mod_constant_2_146 rfl (lv_at hl 0 rfl) ?_
                refine lv_if_eq (tgt := 159) hx hb d_Mod_constant_2_147 (by decide) (fun c21 => ?_) (fun c21 => ?_)
                · replace h := Eq.trans (if_pos c21).symm h
                  refine lv_iconst (v := 0) hx hb d_Mod_constant_2_159 (by decide) ?_
                  exact mc_iret (w := 0) hx hb hr rfl hlocks E hI h d_Mod_constant_2_160
                · replace h := Eq.trans (if_neg c21).symm h
                  refine lv_aload_n hx hb d_Mod_constant_2_150 rfl (lv_at hl 1 rfl) ?_
                  refine mf_constructors S E hI vt_1301 d_Mod_constant_2_151 ?_
                  refine lv_iload_n hx hb d_Mod_constant_2_154 rfl (lv_at hl 2 rfl) ?_
                  by_cases c22 : y1 < 0 ∨ 301 ≤ (y1 : Int32).toNatClampNeg
                  · replace h := Eq.trans (if_pos c22).symm h
                    cases h
                  · replace h := Eq.trans (if_neg c22).symm h
                    refine ml_constructors S E hI c22 d_Mod_constant_2_155 ?_
                    refine lv_goto (tgt := 160) hx hb d_Mod_constant_2_156 (by decide) ?_
                    exact mc_iret (w := (γ.2 17 (y1 : Int32).toNatClampNeg)) hx hb hr rfl hlocks E hI h d_Mod_constant_2_160
              · replace h := Eq.trans (if_neg c20).symm h
                have nc20 := ksw (z := 5) rfl c20
                by_cases c23 : y2 = 6
                · replace h := Eq.trans (if_pos c23).symm h
                  refine lv_tableIn (off := 134) (tgt := 161) hx hb d_Mod_constant_2_27 (by rw [c23]; decide) (by rw [c23]; decide) (by rw [c23]; rfl) (by decide) ?_
                  refine lv_aload_n hx hb d_Mod_constant_2_161 rfl (lv_at hl 1 rfl) ?_
                  refine mf_sortOf S E hI vt_1296 d_Mod_constant_2_162 ?_
                  refine lv_iload_n hx hb d_Mod_constant_2_165 rfl (lv_at hl 2 rfl) ?_
                  by_cases c24 : y1 < 0 ∨ 301 ≤ (y1 : Int32).toNatClampNeg
                  · replace h := Eq.trans (if_pos c24).symm h
                    cases h
                  · replace h := Eq.trans (if_neg c24).symm h
                    refine ml_sortOf S E hI c24 d_Mod_constant_2_166 ?_
                    refine lv_iconst (v := 4) hx hb d_Mod_constant_2_167 (by decide) ?_
                    refine lv_icmp_ne (tgt := 180) hx hb d_Mod_constant_2_168 (by decide) (fun c25 => ?_) (fun c25 => ?_)
                    · replace h := Eq.trans (if_neg c25).symm h
                      refine lv_iconst (v := 0) hx hb d_Mod_constant_2_180 (by decide) ?_
                      exact mc_iret (w := 0) hx hb hr rfl hlocks E hI h d_Mod_constant_2_181
                    · replace h := Eq.trans (if_pos c25).symm h
                      refine lv_aload_n hx hb d_Mod_constant_2_171 rfl (lv_at hl 1 rfl) ?_
                      refine mf_arguments S E hI vt_1302 d_Mod_constant_2_172 ?_
                      refine lv_iload_n hx hb d_Mod_constant_2_175 rfl (lv_at hl 2 rfl) ?_
                      by_cases c26 : y1 < 0 ∨ 301 ≤ (y1 : Int32).toNatClampNeg
                      · replace h := Eq.trans (if_pos c26).symm h
                        cases h
                      · replace h := Eq.trans (if_neg c26).symm h
                        refine ml_arguments S E hI c26 d_Mod_constant_2_176 ?_
                        refine lv_goto (tgt := 181) hx hb d_Mod_constant_2_177 (by decide) ?_
                        exact mc_iret (w := (γ.2 18 (y1 : Int32).toNatClampNeg)) hx hb hr rfl hlocks E hI h d_Mod_constant_2_181
                · replace h := Eq.trans (if_neg c23).symm h
                  have nc23 := ksw (z := 6) rfl c23
                  by_cases c27 : y2 = 7
                  · replace h := Eq.trans (if_pos c27).symm h
                    refine lv_tableIn (off := 155) (tgt := 182) hx hb d_Mod_constant_2_27 (by rw [c27]; decide) (by rw [c27]; decide) (by rw [c27]; rfl) (by decide) ?_
                    refine lv_aload_n hx hb d_Mod_constant_2_182 rfl (lv_at hl 1 rfl) ?_
                    refine mf_sortOf S E hI vt_1296 d_Mod_constant_2_183 ?_
                    refine lv_iload_n hx hb d_Mod_constant_2_186 rfl (lv_at hl 2 rfl) ?_
                    by_cases c28 : y1 < 0 ∨ 301 ≤ (y1 : Int32).toNatClampNeg
                    · replace h := Eq.trans (if_pos c28).symm h
                      cases h
                    · replace h := Eq.trans (if_neg c28).symm h
                      refine ml_sortOf S E hI c28 d_Mod_constant_2_187 ?_
                      refine lv_iconst (v := 4) hx hb d_Mod_constant_2_188 (by decide) ?_
                      refine lv_icmp_ne (tgt := 201) hx hb d_Mod_constant_2_189 (by decide) (fun c29 => ?_) (fun c29 => ?_)
                      · replace h := Eq.trans (if_neg c29).symm h
                        refine lv_iconst (v := 0) hx hb d_Mod_constant_2_201 (by decide) ?_
                        exact mc_iret (w := 0) hx hb hr rfl hlocks E hI h d_Mod_constant_2_202
                      · replace h := Eq.trans (if_pos c29).symm h
                        refine lv_aload_n hx hb d_Mod_constant_2_192 rfl (lv_at hl 1 rfl) ?_
                        refine mf_recursive S E hI vt_1303 d_Mod_constant_2_193 ?_
                        refine lv_iload_n hx hb d_Mod_constant_2_196 rfl (lv_at hl 2 rfl) ?_
                        by_cases c30 : y1 < 0 ∨ 301 ≤ (y1 : Int32).toNatClampNeg
                        · replace h := Eq.trans (if_pos c30).symm h
                          cases h
                        · replace h := Eq.trans (if_neg c30).symm h
                          refine ml_recursive S E hI c30 d_Mod_constant_2_197 ?_
                          refine lv_goto (tgt := 202) hx hb d_Mod_constant_2_198 (by decide) ?_
                          exact mc_iret (w := (γ.2 19 (y1 : Int32).toNatClampNeg)) hx hb hr rfl hlocks E hI h d_Mod_constant_2_202
                  · replace h := Eq.trans (if_neg c27).symm h
                    have nc27 := ksw (z := 7) rfl c27
                    refine lv_tableOut (tgt := 203) hx hb d_Mod_constant_2_27 (by omega) (by decide) ?_
                    refine lv_aload_n hx hb d_Mod_constant_2_203 rfl (lv_at hl 1 rfl) ?_
                    refine lv_iconst (v := 2) hx hb d_Mod_constant_2_204 (by decide) ?_
                    refine mp_thrown S E hI vt_1270 d_Mod_constant_2_205 (fun H locs hI => ?_)
                    refine lv_iconst (v := 0) hx hb d_Mod_constant_2_208 (by decide) ?_
                    exact mc_iret (w := 0) hx hb hr rfl hlocks E hI h d_Mod_constant_2_209
  refine lv_aload_n hx hb d_Mod_constant_2_0 rfl (lv_at hl 0 rfl) ?_
  refine lv_iload_n hx hb d_Mod_constant_2_1 rfl (lv_at hl 1 rfl) ?_
  refine mg_tI (As := [.int a1]) (rest := []) (k_Mod_none (l := l) (g := g) (α := α) a1) S hlocks hno E hI kw_Mod_577 ⟨Nat.le_of_ble_eq_true rfl, Nat.le_of_ble_eq_true rfl⟩ (mv_Mod E hI) rfl hl.1 rfl (Nat.le_of_ble_eq_true rfl) d_Mod_constant_2_2 (fun H locs hI => ?_)
  refine lv_if_eq (tgt := 10) hx hb d_Mod_constant_2_5 (by decide) (fun c1 => ?_) (fun c1 => ?_)
  · replace h := Eq.trans (if_pos c1).symm h
    refine lv_aload_n hx hb d_Mod_constant_2_10 rfl (lv_at hl 0 rfl) ?_
    refine mf_sortOf S E hI vt_1296 d_Mod_constant_2_11 ?_
    refine lv_iload_n hx hb d_Mod_constant_2_14 rfl (lv_at hl 1 rfl) ?_
    by_cases c2 : a1 < 0 ∨ 301 ≤ (a1 : Int32).toNatClampNeg
    · replace h := Eq.trans (if_pos c2).symm h
      cases h
    · replace h := Eq.trans (if_neg c2).symm h
      refine ml_sortOf S E hI c2 d_Mod_constant_2_15 ?_
      refine lv_iconst (v := 3) hx hb d_Mod_constant_2_16 (by decide) ?_
      refine lv_icmp_ne (tgt := 24) hx hb d_Mod_constant_2_17 (by decide) (fun c3 => ?_) (fun c3 => ?_)
      · replace h := Eq.trans (if_neg c3).symm h
        refine lv_iconst (v := 0) hx hb d_Mod_constant_2_24 (by decide) ?_
        exact J25 a1 a2 0 _ _ _ _ h hI (lv_sub hl [0, 1, 2] rfl)
      · replace h := Eq.trans (if_pos c3).symm h
        refine lv_iconst (v := 1) hx hb d_Mod_constant_2_20 (by decide) ?_
        refine lv_goto (tgt := 25) hx hb d_Mod_constant_2_21 (by decide) ?_
        exact J25 a1 a2 1 _ _ _ _ h hI (lv_sub hl [0, 1, 2] rfl)
  · replace h := Eq.trans (if_neg c1).symm h
    refine lv_iconst (v := 0) hx hb d_Mod_constant_2_8 (by decide) ?_
    exact mc_iret (w := 0) hx hb hr rfl hlocks E hI h d_Mod_constant_2_9
def f_Mod_sign (a1 : Int32) (a2 : Int32) (α : mS) : Int32 := if a1 = 40 then (a1) else (if a1 = 41 then (a1) else (if a1 = 44 then (a1) else (if a1 = 45 then (if a2 = 62 then (302) else (3)) else (if a1 = 46 then (a1) else (if a1 = 58 then (if a2 = 61 then (300) else (a1)) else (if a1 = 61 then (if a2 = 62 then (301) else (3)) else (if a1 = 123 then (a1) else (if a1 = 124 then (a1) else (if a1 = 125 then (a1) else (3))))))))))
set_option maxHeartbeats 4000000 in
set_option maxRecDepth 100000 in
theorem k_Mod_sign {l : Launch} {g : mG} {α : mS} (a1 : Int32) (a2 : Int32)  : mV l g y_Mod_sign b_Mod_sign 2 (some .int) (1) (1) [.int a1, .int a2] α (f_Mod_sign a1 a2 α) := by
  generalize h : f_Mod_sign a1 a2 α = x
  unfold f_Mod_sign at h
  refine mv_ofW (by decide) (fun A p e s m args below meth c S hr hlocks hargs E hI => ?_)
  have hx := S.1
  have hb := S.2.1
  have hown := S.2.2.2.1
  have hT := S.2.2.2.2
  subst hargs
  have hl := lv_entry ([.int a1, .int a2]) (n := 2) (Nat.le_of_ble_eq_true rfl)
  rw [lg_entry_eq]
  generalize (lg_sl ([.int a1, .int a2]) ++ List.replicate (2 - (lg_sl ([.int a1, .int a2])).length) Slot.unset).toArray = ls at hl ⊢
  have hl : lv_has ls 2 [(0, .int a1), (1, .int a2)] := hl
  refine lv_iload_n hx hb d_Mod_sign_0 rfl (lv_at hl 0 rfl) ?_
  by_cases c1 : a1 = 40
  · replace h := Eq.trans (if_pos c1).symm h
    refine lv_lookup (off := 91) (tgt := 92) hx hb d_Mod_sign_1 (by decide) (by rw [c1]; decide) (by decide) ?_
    refine lv_iload_n hx hb d_Mod_sign_92 rfl (lv_at hl 0 rfl) ?_
    exact kv_iret (w := a1) hx hb hr rfl hlocks h d_Mod_sign_93
  · replace h := Eq.trans (if_neg c1).symm h
    by_cases c2 : a1 = 41
    · replace h := Eq.trans (if_pos c2).symm h
      refine lv_lookup (off := 91) (tgt := 92) hx hb d_Mod_sign_1 (by decide) (by rw [c2]; decide) (by decide) ?_
      refine lv_iload_n hx hb d_Mod_sign_92 rfl (lv_at hl 0 rfl) ?_
      exact kv_iret (w := a1) hx hb hr rfl hlocks h d_Mod_sign_93
    · replace h := Eq.trans (if_neg c2).symm h
      by_cases c3 : a1 = 44
      · replace h := Eq.trans (if_pos c3).symm h
        refine lv_lookup (off := 91) (tgt := 92) hx hb d_Mod_sign_1 (by decide) (by rw [c3]; decide) (by decide) ?_
        refine lv_iload_n hx hb d_Mod_sign_92 rfl (lv_at hl 0 rfl) ?_
        exact kv_iret (w := a1) hx hb hr rfl hlocks h d_Mod_sign_93
      · replace h := Eq.trans (if_neg c3).symm h
        by_cases c4 : a1 = 45
        · replace h := Eq.trans (if_pos c4).symm h
          refine lv_lookup (off := 121) (tgt := 122) hx hb d_Mod_sign_1 (by decide) (by rw [c4]; decide) (by decide) ?_
          refine lv_iload_n hx hb d_Mod_sign_122 rfl (lv_at hl 1 rfl) ?_
          refine lv_bipush (v := 62) hx hb d_Mod_sign_123 (by decide) ?_
          refine lv_icmp_ne (tgt := 134) hx hb d_Mod_sign_125 (by decide) (fun c5 => ?_) (fun c5 => ?_)
          · replace h := Eq.trans (if_neg c5).symm h
            refine lv_iconst (v := 3) hx hb d_Mod_sign_134 (by decide) ?_
            exact kv_iret (w := 3) hx hb hr rfl hlocks h d_Mod_sign_135
          · replace h := Eq.trans (if_pos c5).symm h
            refine lv_sipush (v := 302) hx hb d_Mod_sign_128 (by decide) ?_
            refine lv_goto (tgt := 135) hx hb d_Mod_sign_131 (by decide) ?_
            exact kv_iret (w := 302) hx hb hr rfl hlocks h d_Mod_sign_135
        · replace h := Eq.trans (if_neg c4).symm h
          by_cases c6 : a1 = 46
          · replace h := Eq.trans (if_pos c6).symm h
            refine lv_lookup (off := 91) (tgt := 92) hx hb d_Mod_sign_1 (by decide) (by rw [c6]; decide) (by decide) ?_
            refine lv_iload_n hx hb d_Mod_sign_92 rfl (lv_at hl 0 rfl) ?_
            exact kv_iret (w := a1) hx hb hr rfl hlocks h d_Mod_sign_93
          · replace h := Eq.trans (if_neg c6).symm h
            by_cases c7 : a1 = 58
            · replace h := Eq.trans (if_pos c7).symm h
              refine lv_lookup (off := 93) (tgt := 94) hx hb d_Mod_sign_1 (by decide) (by rw [c7]; decide) (by decide) ?_
              refine lv_iload_n hx hb d_Mod_sign_94 rfl (lv_at hl 1 rfl) ?_
              refine lv_bipush (v := 61) hx hb d_Mod_sign_95 (by decide) ?_
              refine lv_icmp_ne (tgt := 106) hx hb d_Mod_sign_97 (by decide) (fun c8 => ?_) (fun c8 => ?_)
              · replace h := Eq.trans (if_neg c8).symm h
                refine lv_iload_n hx hb d_Mod_sign_106 rfl (lv_at hl 0 rfl) ?_
                exact kv_iret (w := a1) hx hb hr rfl hlocks h d_Mod_sign_107
              · replace h := Eq.trans (if_pos c8).symm h
                refine lv_sipush (v := 300) hx hb d_Mod_sign_100 (by decide) ?_
                refine lv_goto (tgt := 107) hx hb d_Mod_sign_103 (by decide) ?_
                exact kv_iret (w := 300) hx hb hr rfl hlocks h d_Mod_sign_107
            · replace h := Eq.trans (if_neg c7).symm h
              by_cases c9 : a1 = 61
              · replace h := Eq.trans (if_pos c9).symm h
                refine lv_lookup (off := 107) (tgt := 108) hx hb d_Mod_sign_1 (by decide) (by rw [c9]; decide) (by decide) ?_
                refine lv_iload_n hx hb d_Mod_sign_108 rfl (lv_at hl 1 rfl) ?_
                refine lv_bipush (v := 62) hx hb d_Mod_sign_109 (by decide) ?_
                refine lv_icmp_ne (tgt := 120) hx hb d_Mod_sign_111 (by decide) (fun c10 => ?_) (fun c10 => ?_)
                · replace h := Eq.trans (if_neg c10).symm h
                  refine lv_iconst (v := 3) hx hb d_Mod_sign_120 (by decide) ?_
                  exact kv_iret (w := 3) hx hb hr rfl hlocks h d_Mod_sign_121
                · replace h := Eq.trans (if_pos c10).symm h
                  refine lv_sipush (v := 301) hx hb d_Mod_sign_114 (by decide) ?_
                  refine lv_goto (tgt := 121) hx hb d_Mod_sign_117 (by decide) ?_
                  exact kv_iret (w := 301) hx hb hr rfl hlocks h d_Mod_sign_121
              · replace h := Eq.trans (if_neg c9).symm h
                by_cases c11 : a1 = 123
                · replace h := Eq.trans (if_pos c11).symm h
                  refine lv_lookup (off := 91) (tgt := 92) hx hb d_Mod_sign_1 (by decide) (by rw [c11]; decide) (by decide) ?_
                  refine lv_iload_n hx hb d_Mod_sign_92 rfl (lv_at hl 0 rfl) ?_
                  exact kv_iret (w := a1) hx hb hr rfl hlocks h d_Mod_sign_93
                · replace h := Eq.trans (if_neg c11).symm h
                  by_cases c12 : a1 = 124
                  · replace h := Eq.trans (if_pos c12).symm h
                    refine lv_lookup (off := 91) (tgt := 92) hx hb d_Mod_sign_1 (by decide) (by rw [c12]; decide) (by decide) ?_
                    refine lv_iload_n hx hb d_Mod_sign_92 rfl (lv_at hl 0 rfl) ?_
                    exact kv_iret (w := a1) hx hb hr rfl hlocks h d_Mod_sign_93
                  · replace h := Eq.trans (if_neg c12).symm h
                    by_cases c13 : a1 = 125
                    · replace h := Eq.trans (if_pos c13).symm h
                      refine lv_lookup (off := 91) (tgt := 92) hx hb d_Mod_sign_1 (by decide) (by rw [c13]; decide) (by decide) ?_
                      refine lv_iload_n hx hb d_Mod_sign_92 rfl (lv_at hl 0 rfl) ?_
                      exact kv_iret (w := a1) hx hb hr rfl hlocks h d_Mod_sign_93
                    · replace h := Eq.trans (if_neg c13).symm h
                      refine lv_lookup (off := 135) (tgt := 136) hx hb d_Mod_sign_1 (by decide) ((lv_osw c1 rfl).trans ((lv_osw c2 rfl).trans ((lv_osw c3 rfl).trans ((lv_osw c4 rfl).trans ((lv_osw c6 rfl).trans ((lv_osw c7 rfl).trans ((lv_osw c9 rfl).trans ((lv_osw c11 rfl).trans ((lv_osw c12 rfl).trans ((lv_osw c13 rfl).trans (rfl))))))))))) (by decide) ?_
                      refine lv_iconst (v := 3) hx hb d_Mod_sign_136 (by decide) ?_
                      exact kv_iret (w := 3) hx hb hr rfl hlocks h d_Mod_sign_137
theorem kw_Mod_323 : kWs "FamilyKernelModel" 323 y_Mod_fails b_Mod_fails 1 (some (.object "FamilyKernelModel$Wrong")) 1 := ⟨vt_1463, vt_1464, vt_1349, vt_1465, by decide, by decide, by decide +kernel⟩
def f_Mod_node_j192 (N : Nat)  (y5 : Int32) (t0 : Int32) (t1 : Int32) (t2 : Int32) (t3 : Int32) (t4 : Int32) (γ : mS) : Option (kO × mS) := if t4 < 0 ∨ 400000 ≤ (t4 : Int32).toNatClampNeg then none else (some (some (some y5), (mSA γ 7 (upd (γ.2 7) (t4 : Int32).toNatClampNeg (t3 + (if t2 < (if t1 < t0 then t0 else t1) then (if t1 < t0 then t0 else t1) else t2))))))
def f_Mod_node_j125 (N : Nat)  (y5 : Int32) (y1 : Int32) (y2 : Int32) (y3 : Int32) (y4 : Int32) (t0 : Int32) (t1 : Int32) (t2 : Int32) (t3 : Int32) (γ : mS) : Option (kO × mS) := if t3 < 0 ∨ 400000 ≤ (t3 : Int32).toNatClampNeg then none else (if y1 = 8 then (if y2 < 0 ∨ 400000 ≤ (y2 : Int32).toNatClampNeg then none else (if y3 < 0 ∨ 400000 ≤ (y3 : Int32).toNatClampNeg then none else (if y5 < 0 ∨ 400000 ≤ (y5 : Int32).toNatClampNeg then none else (some (some (some y5), (mSA (mSA γ 6 (upd (γ.2 6) (t3 : Int32).toNatClampNeg (if (t1 + t0) < t2 then (t1 + t0) else t2))) 7 (upd ((mSA γ 6 (upd (γ.2 6) (t3 : Int32).toNatClampNeg (if (t1 + t0) < t2 then (t1 + t0) else t2))).2 7) (y5 : Int32).toNatClampNeg (if ((mSA γ 6 (upd (γ.2 6) (t3 : Int32).toNatClampNeg (if (t1 + t0) < t2 then (t1 + t0) else t2))).2 7 (y2 : Int32).toNatClampNeg) < (1 + ((mSA γ 6 (upd (γ.2 6) (t3 : Int32).toNatClampNeg (if (t1 + t0) < t2 then (t1 + t0) else t2))).2 7 (y3 : Int32).toNatClampNeg)) then (1 + ((mSA γ 6 (upd (γ.2 6) (t3 : Int32).toNatClampNeg (if (t1 + t0) < t2 then (t1 + t0) else t2))).2 7 (y3 : Int32).toNatClampNeg)) else ((mSA γ 6 (upd (γ.2 6) (t3 : Int32).toNatClampNeg (if (t1 + t0) < t2 then (t1 + t0) else t2))).2 7 (y2 : Int32).toNatClampNeg))))))))) else (if y2 < 0 ∨ 400000 ≤ (y2 : Int32).toNatClampNeg then none else (if y3 < 0 ∨ 400000 ≤ (y3 : Int32).toNatClampNeg then none else (if y1 = 9 then (if y4 < 0 ∨ 400000 ≤ (y4 : Int32).toNatClampNeg then none else (f_Mod_node_j192 N y5 ((mSA γ 6 (upd (γ.2 6) (t3 : Int32).toNatClampNeg (if (t1 + t0) < t2 then (t1 + t0) else t2))).2 7 (y4 : Int32).toNatClampNeg) ((mSA γ 6 (upd (γ.2 6) (t3 : Int32).toNatClampNeg (if (t1 + t0) < t2 then (t1 + t0) else t2))).2 7 (y3 : Int32).toNatClampNeg) ((mSA γ 6 (upd (γ.2 6) (t3 : Int32).toNatClampNeg (if (t1 + t0) < t2 then (t1 + t0) else t2))).2 7 (y2 : Int32).toNatClampNeg) 1 y5 (mSA γ 6 (upd (γ.2 6) (t3 : Int32).toNatClampNeg (if (t1 + t0) < t2 then (t1 + t0) else t2))))) else (f_Mod_node_j192 N y5 0 ((mSA γ 6 (upd (γ.2 6) (t3 : Int32).toNatClampNeg (if (t1 + t0) < t2 then (t1 + t0) else t2))).2 7 (y3 : Int32).toNatClampNeg) ((mSA γ 6 (upd (γ.2 6) (t3 : Int32).toNatClampNeg (if (t1 + t0) < t2 then (t1 + t0) else t2))).2 7 (y2 : Int32).toNatClampNeg) 1 y5 (mSA γ 6 (upd (γ.2 6) (t3 : Int32).toNatClampNeg (if (t1 + t0) < t2 then (t1 + t0) else t2))))))))
def f_Mod_node (N : Nat) (a1 : Int32) (a2 : Int32) (a3 : Int32) (a4 : Int32) (α : mS) : Option (kO × mS) := if (α.1 10) = 400000 then (some (none, α)) else (if (α.1 10) < 0 ∨ 400000 ≤ ((α.1 10) : Int32).toNatClampNeg then none else (if (α.1 10) < 0 ∨ 400000 ≤ ((α.1 10) : Int32).toNatClampNeg then none else (if (α.1 10) < 0 ∨ 400000 ≤ ((α.1 10) : Int32).toNatClampNeg then none else (if (α.1 10) < 0 ∨ 400000 ≤ ((α.1 10) : Int32).toNatClampNeg then none else (if (α.1 10) < 0 ∨ 400000 ≤ ((α.1 10) : Int32).toNatClampNeg then none else (if (α.1 10) < 0 ∨ 400000 ≤ ((α.1 10) : Int32).toNatClampNeg then none else (if a1 < 6 then (some (some (some (α.1 10)), (mSA (mSA (mSA (mSA (mSA (mSA (mSi α 10 ((α.1 10) + 1)) 2 (upd ((mSi α 10 ((α.1 10) + 1)).2 2) ((α.1 10) : Int32).toNatClampNeg (vp_nar .byte (a1).toInt8.toInt32))) 3 (upd ((mSA (mSi α 10 ((α.1 10) + 1)) 2 (upd ((mSi α 10 ((α.1 10) + 1)).2 2) ((α.1 10) : Int32).toNatClampNeg (vp_nar .byte (a1).toInt8.toInt32))).2 3) ((α.1 10) : Int32).toNatClampNeg a2)) 4 (upd ((mSA (mSA (mSi α 10 ((α.1 10) + 1)) 2 (upd ((mSi α 10 ((α.1 10) + 1)).2 2) ((α.1 10) : Int32).toNatClampNeg (vp_nar .byte (a1).toInt8.toInt32))) 3 (upd ((mSA (mSi α 10 ((α.1 10) + 1)) 2 (upd ((mSi α 10 ((α.1 10) + 1)).2 2) ((α.1 10) : Int32).toNatClampNeg (vp_nar .byte (a1).toInt8.toInt32))).2 3) ((α.1 10) : Int32).toNatClampNeg a2)).2 4) ((α.1 10) : Int32).toNatClampNeg a3)) 5 (upd ((mSA (mSA (mSA (mSi α 10 ((α.1 10) + 1)) 2 (upd ((mSi α 10 ((α.1 10) + 1)).2 2) ((α.1 10) : Int32).toNatClampNeg (vp_nar .byte (a1).toInt8.toInt32))) 3 (upd ((mSA (mSi α 10 ((α.1 10) + 1)) 2 (upd ((mSi α 10 ((α.1 10) + 1)).2 2) ((α.1 10) : Int32).toNatClampNeg (vp_nar .byte (a1).toInt8.toInt32))).2 3) ((α.1 10) : Int32).toNatClampNeg a2)) 4 (upd ((mSA (mSA (mSi α 10 ((α.1 10) + 1)) 2 (upd ((mSi α 10 ((α.1 10) + 1)).2 2) ((α.1 10) : Int32).toNatClampNeg (vp_nar .byte (a1).toInt8.toInt32))) 3 (upd ((mSA (mSi α 10 ((α.1 10) + 1)) 2 (upd ((mSi α 10 ((α.1 10) + 1)).2 2) ((α.1 10) : Int32).toNatClampNeg (vp_nar .byte (a1).toInt8.toInt32))).2 3) ((α.1 10) : Int32).toNatClampNeg a2)).2 4) ((α.1 10) : Int32).toNatClampNeg a3)).2 5) ((α.1 10) : Int32).toNatClampNeg a4)) 6 (upd ((mSA (mSA (mSA (mSA (mSi α 10 ((α.1 10) + 1)) 2 (upd ((mSi α 10 ((α.1 10) + 1)).2 2) ((α.1 10) : Int32).toNatClampNeg (vp_nar .byte (a1).toInt8.toInt32))) 3 (upd ((mSA (mSi α 10 ((α.1 10) + 1)) 2 (upd ((mSi α 10 ((α.1 10) + 1)).2 2) ((α.1 10) : Int32).toNatClampNeg (vp_nar .byte (a1).toInt8.toInt32))).2 3) ((α.1 10) : Int32).toNatClampNeg a2)) 4 (upd ((mSA (mSA (mSi α 10 ((α.1 10) + 1)) 2 (upd ((mSi α 10 ((α.1 10) + 1)).2 2) ((α.1 10) : Int32).toNatClampNeg (vp_nar .byte (a1).toInt8.toInt32))) 3 (upd ((mSA (mSi α 10 ((α.1 10) + 1)) 2 (upd ((mSi α 10 ((α.1 10) + 1)).2 2) ((α.1 10) : Int32).toNatClampNeg (vp_nar .byte (a1).toInt8.toInt32))).2 3) ((α.1 10) : Int32).toNatClampNeg a2)).2 4) ((α.1 10) : Int32).toNatClampNeg a3)) 5 (upd ((mSA (mSA (mSA (mSi α 10 ((α.1 10) + 1)) 2 (upd ((mSi α 10 ((α.1 10) + 1)).2 2) ((α.1 10) : Int32).toNatClampNeg (vp_nar .byte (a1).toInt8.toInt32))) 3 (upd ((mSA (mSi α 10 ((α.1 10) + 1)) 2 (upd ((mSi α 10 ((α.1 10) + 1)).2 2) ((α.1 10) : Int32).toNatClampNeg (vp_nar .byte (a1).toInt8.toInt32))).2 3) ((α.1 10) : Int32).toNatClampNeg a2)) 4 (upd ((mSA (mSA (mSi α 10 ((α.1 10) + 1)) 2 (upd ((mSi α 10 ((α.1 10) + 1)).2 2) ((α.1 10) : Int32).toNatClampNeg (vp_nar .byte (a1).toInt8.toInt32))) 3 (upd ((mSA (mSi α 10 ((α.1 10) + 1)) 2 (upd ((mSi α 10 ((α.1 10) + 1)).2 2) ((α.1 10) : Int32).toNatClampNeg (vp_nar .byte (a1).toInt8.toInt32))).2 3) ((α.1 10) : Int32).toNatClampNeg a2)).2 4) ((α.1 10) : Int32).toNatClampNeg a3)).2 5) ((α.1 10) : Int32).toNatClampNeg a4)).2 6) ((α.1 10) : Int32).toNatClampNeg 1)) 7 (upd ((mSA (mSA (mSA (mSA (mSA (mSi α 10 ((α.1 10) + 1)) 2 (upd ((mSi α 10 ((α.1 10) + 1)).2 2) ((α.1 10) : Int32).toNatClampNeg (vp_nar .byte (a1).toInt8.toInt32))) 3 (upd ((mSA (mSi α 10 ((α.1 10) + 1)) 2 (upd ((mSi α 10 ((α.1 10) + 1)).2 2) ((α.1 10) : Int32).toNatClampNeg (vp_nar .byte (a1).toInt8.toInt32))).2 3) ((α.1 10) : Int32).toNatClampNeg a2)) 4 (upd ((mSA (mSA (mSi α 10 ((α.1 10) + 1)) 2 (upd ((mSi α 10 ((α.1 10) + 1)).2 2) ((α.1 10) : Int32).toNatClampNeg (vp_nar .byte (a1).toInt8.toInt32))) 3 (upd ((mSA (mSi α 10 ((α.1 10) + 1)) 2 (upd ((mSi α 10 ((α.1 10) + 1)).2 2) ((α.1 10) : Int32).toNatClampNeg (vp_nar .byte (a1).toInt8.toInt32))).2 3) ((α.1 10) : Int32).toNatClampNeg a2)).2 4) ((α.1 10) : Int32).toNatClampNeg a3)) 5 (upd ((mSA (mSA (mSA (mSi α 10 ((α.1 10) + 1)) 2 (upd ((mSi α 10 ((α.1 10) + 1)).2 2) ((α.1 10) : Int32).toNatClampNeg (vp_nar .byte (a1).toInt8.toInt32))) 3 (upd ((mSA (mSi α 10 ((α.1 10) + 1)) 2 (upd ((mSi α 10 ((α.1 10) + 1)).2 2) ((α.1 10) : Int32).toNatClampNeg (vp_nar .byte (a1).toInt8.toInt32))).2 3) ((α.1 10) : Int32).toNatClampNeg a2)) 4 (upd ((mSA (mSA (mSi α 10 ((α.1 10) + 1)) 2 (upd ((mSi α 10 ((α.1 10) + 1)).2 2) ((α.1 10) : Int32).toNatClampNeg (vp_nar .byte (a1).toInt8.toInt32))) 3 (upd ((mSA (mSi α 10 ((α.1 10) + 1)) 2 (upd ((mSi α 10 ((α.1 10) + 1)).2 2) ((α.1 10) : Int32).toNatClampNeg (vp_nar .byte (a1).toInt8.toInt32))).2 3) ((α.1 10) : Int32).toNatClampNeg a2)).2 4) ((α.1 10) : Int32).toNatClampNeg a3)).2 5) ((α.1 10) : Int32).toNatClampNeg a4)) 6 (upd ((mSA (mSA (mSA (mSA (mSi α 10 ((α.1 10) + 1)) 2 (upd ((mSi α 10 ((α.1 10) + 1)).2 2) ((α.1 10) : Int32).toNatClampNeg (vp_nar .byte (a1).toInt8.toInt32))) 3 (upd ((mSA (mSi α 10 ((α.1 10) + 1)) 2 (upd ((mSi α 10 ((α.1 10) + 1)).2 2) ((α.1 10) : Int32).toNatClampNeg (vp_nar .byte (a1).toInt8.toInt32))).2 3) ((α.1 10) : Int32).toNatClampNeg a2)) 4 (upd ((mSA (mSA (mSi α 10 ((α.1 10) + 1)) 2 (upd ((mSi α 10 ((α.1 10) + 1)).2 2) ((α.1 10) : Int32).toNatClampNeg (vp_nar .byte (a1).toInt8.toInt32))) 3 (upd ((mSA (mSi α 10 ((α.1 10) + 1)) 2 (upd ((mSi α 10 ((α.1 10) + 1)).2 2) ((α.1 10) : Int32).toNatClampNeg (vp_nar .byte (a1).toInt8.toInt32))).2 3) ((α.1 10) : Int32).toNatClampNeg a2)).2 4) ((α.1 10) : Int32).toNatClampNeg a3)) 5 (upd ((mSA (mSA (mSA (mSi α 10 ((α.1 10) + 1)) 2 (upd ((mSi α 10 ((α.1 10) + 1)).2 2) ((α.1 10) : Int32).toNatClampNeg (vp_nar .byte (a1).toInt8.toInt32))) 3 (upd ((mSA (mSi α 10 ((α.1 10) + 1)) 2 (upd ((mSi α 10 ((α.1 10) + 1)).2 2) ((α.1 10) : Int32).toNatClampNeg (vp_nar .byte (a1).toInt8.toInt32))).2 3) ((α.1 10) : Int32).toNatClampNeg a2)) 4 (upd ((mSA (mSA (mSi α 10 ((α.1 10) + 1)) 2 (upd ((mSi α 10 ((α.1 10) + 1)).2 2) ((α.1 10) : Int32).toNatClampNeg (vp_nar .byte (a1).toInt8.toInt32))) 3 (upd ((mSA (mSi α 10 ((α.1 10) + 1)) 2 (upd ((mSi α 10 ((α.1 10) + 1)).2 2) ((α.1 10) : Int32).toNatClampNeg (vp_nar .byte (a1).toInt8.toInt32))).2 3) ((α.1 10) : Int32).toNatClampNeg a2)).2 4) ((α.1 10) : Int32).toNatClampNeg a3)).2 5) ((α.1 10) : Int32).toNatClampNeg a4)).2 6) ((α.1 10) : Int32).toNatClampNeg 1)).2 7) ((α.1 10) : Int32).toNatClampNeg 1)))) else (if a2 < 0 ∨ 400000 ≤ (a2 : Int32).toNatClampNeg then none else (if a3 < 0 ∨ 400000 ≤ (a3 : Int32).toNatClampNeg then none else (if a1 = 9 then (if a4 < 0 ∨ 400000 ≤ (a4 : Int32).toNatClampNeg then none else (f_Mod_node_j125 N (α.1 10) a1 a2 a3 a4 ((mSA (mSA (mSA (mSA (mSA (mSA (mSi α 10 ((α.1 10) + 1)) 2 (upd ((mSi α 10 ((α.1 10) + 1)).2 2) ((α.1 10) : Int32).toNatClampNeg (vp_nar .byte (a1).toInt8.toInt32))) 3 (upd ((mSA (mSi α 10 ((α.1 10) + 1)) 2 (upd ((mSi α 10 ((α.1 10) + 1)).2 2) ((α.1 10) : Int32).toNatClampNeg (vp_nar .byte (a1).toInt8.toInt32))).2 3) ((α.1 10) : Int32).toNatClampNeg a2)) 4 (upd ((mSA (mSA (mSi α 10 ((α.1 10) + 1)) 2 (upd ((mSi α 10 ((α.1 10) + 1)).2 2) ((α.1 10) : Int32).toNatClampNeg (vp_nar .byte (a1).toInt8.toInt32))) 3 (upd ((mSA (mSi α 10 ((α.1 10) + 1)) 2 (upd ((mSi α 10 ((α.1 10) + 1)).2 2) ((α.1 10) : Int32).toNatClampNeg (vp_nar .byte (a1).toInt8.toInt32))).2 3) ((α.1 10) : Int32).toNatClampNeg a2)).2 4) ((α.1 10) : Int32).toNatClampNeg a3)) 5 (upd ((mSA (mSA (mSA (mSi α 10 ((α.1 10) + 1)) 2 (upd ((mSi α 10 ((α.1 10) + 1)).2 2) ((α.1 10) : Int32).toNatClampNeg (vp_nar .byte (a1).toInt8.toInt32))) 3 (upd ((mSA (mSi α 10 ((α.1 10) + 1)) 2 (upd ((mSi α 10 ((α.1 10) + 1)).2 2) ((α.1 10) : Int32).toNatClampNeg (vp_nar .byte (a1).toInt8.toInt32))).2 3) ((α.1 10) : Int32).toNatClampNeg a2)) 4 (upd ((mSA (mSA (mSi α 10 ((α.1 10) + 1)) 2 (upd ((mSi α 10 ((α.1 10) + 1)).2 2) ((α.1 10) : Int32).toNatClampNeg (vp_nar .byte (a1).toInt8.toInt32))) 3 (upd ((mSA (mSi α 10 ((α.1 10) + 1)) 2 (upd ((mSi α 10 ((α.1 10) + 1)).2 2) ((α.1 10) : Int32).toNatClampNeg (vp_nar .byte (a1).toInt8.toInt32))).2 3) ((α.1 10) : Int32).toNatClampNeg a2)).2 4) ((α.1 10) : Int32).toNatClampNeg a3)).2 5) ((α.1 10) : Int32).toNatClampNeg a4)) 6 (upd ((mSA (mSA (mSA (mSA (mSi α 10 ((α.1 10) + 1)) 2 (upd ((mSi α 10 ((α.1 10) + 1)).2 2) ((α.1 10) : Int32).toNatClampNeg (vp_nar .byte (a1).toInt8.toInt32))) 3 (upd ((mSA (mSi α 10 ((α.1 10) + 1)) 2 (upd ((mSi α 10 ((α.1 10) + 1)).2 2) ((α.1 10) : Int32).toNatClampNeg (vp_nar .byte (a1).toInt8.toInt32))).2 3) ((α.1 10) : Int32).toNatClampNeg a2)) 4 (upd ((mSA (mSA (mSi α 10 ((α.1 10) + 1)) 2 (upd ((mSi α 10 ((α.1 10) + 1)).2 2) ((α.1 10) : Int32).toNatClampNeg (vp_nar .byte (a1).toInt8.toInt32))) 3 (upd ((mSA (mSi α 10 ((α.1 10) + 1)) 2 (upd ((mSi α 10 ((α.1 10) + 1)).2 2) ((α.1 10) : Int32).toNatClampNeg (vp_nar .byte (a1).toInt8.toInt32))).2 3) ((α.1 10) : Int32).toNatClampNeg a2)).2 4) ((α.1 10) : Int32).toNatClampNeg a3)) 5 (upd ((mSA (mSA (mSA (mSi α 10 ((α.1 10) + 1)) 2 (upd ((mSi α 10 ((α.1 10) + 1)).2 2) ((α.1 10) : Int32).toNatClampNeg (vp_nar .byte (a1).toInt8.toInt32))) 3 (upd ((mSA (mSi α 10 ((α.1 10) + 1)) 2 (upd ((mSi α 10 ((α.1 10) + 1)).2 2) ((α.1 10) : Int32).toNatClampNeg (vp_nar .byte (a1).toInt8.toInt32))).2 3) ((α.1 10) : Int32).toNatClampNeg a2)) 4 (upd ((mSA (mSA (mSi α 10 ((α.1 10) + 1)) 2 (upd ((mSi α 10 ((α.1 10) + 1)).2 2) ((α.1 10) : Int32).toNatClampNeg (vp_nar .byte (a1).toInt8.toInt32))) 3 (upd ((mSA (mSi α 10 ((α.1 10) + 1)) 2 (upd ((mSi α 10 ((α.1 10) + 1)).2 2) ((α.1 10) : Int32).toNatClampNeg (vp_nar .byte (a1).toInt8.toInt32))).2 3) ((α.1 10) : Int32).toNatClampNeg a2)).2 4) ((α.1 10) : Int32).toNatClampNeg a3)).2 5) ((α.1 10) : Int32).toNatClampNeg a4)).2 6) ((α.1 10) : Int32).toNatClampNeg 1)) 7 (upd ((mSA (mSA (mSA (mSA (mSA (mSi α 10 ((α.1 10) + 1)) 2 (upd ((mSi α 10 ((α.1 10) + 1)).2 2) ((α.1 10) : Int32).toNatClampNeg (vp_nar .byte (a1).toInt8.toInt32))) 3 (upd ((mSA (mSi α 10 ((α.1 10) + 1)) 2 (upd ((mSi α 10 ((α.1 10) + 1)).2 2) ((α.1 10) : Int32).toNatClampNeg (vp_nar .byte (a1).toInt8.toInt32))).2 3) ((α.1 10) : Int32).toNatClampNeg a2)) 4 (upd ((mSA (mSA (mSi α 10 ((α.1 10) + 1)) 2 (upd ((mSi α 10 ((α.1 10) + 1)).2 2) ((α.1 10) : Int32).toNatClampNeg (vp_nar .byte (a1).toInt8.toInt32))) 3 (upd ((mSA (mSi α 10 ((α.1 10) + 1)) 2 (upd ((mSi α 10 ((α.1 10) + 1)).2 2) ((α.1 10) : Int32).toNatClampNeg (vp_nar .byte (a1).toInt8.toInt32))).2 3) ((α.1 10) : Int32).toNatClampNeg a2)).2 4) ((α.1 10) : Int32).toNatClampNeg a3)) 5 (upd ((mSA (mSA (mSA (mSi α 10 ((α.1 10) + 1)) 2 (upd ((mSi α 10 ((α.1 10) + 1)).2 2) ((α.1 10) : Int32).toNatClampNeg (vp_nar .byte (a1).toInt8.toInt32))) 3 (upd ((mSA (mSi α 10 ((α.1 10) + 1)) 2 (upd ((mSi α 10 ((α.1 10) + 1)).2 2) ((α.1 10) : Int32).toNatClampNeg (vp_nar .byte (a1).toInt8.toInt32))).2 3) ((α.1 10) : Int32).toNatClampNeg a2)) 4 (upd ((mSA (mSA (mSi α 10 ((α.1 10) + 1)) 2 (upd ((mSi α 10 ((α.1 10) + 1)).2 2) ((α.1 10) : Int32).toNatClampNeg (vp_nar .byte (a1).toInt8.toInt32))) 3 (upd ((mSA (mSi α 10 ((α.1 10) + 1)) 2 (upd ((mSi α 10 ((α.1 10) + 1)).2 2) ((α.1 10) : Int32).toNatClampNeg (vp_nar .byte (a1).toInt8.toInt32))).2 3) ((α.1 10) : Int32).toNatClampNeg a2)).2 4) ((α.1 10) : Int32).toNatClampNeg a3)).2 5) ((α.1 10) : Int32).toNatClampNeg a4)) 6 (upd ((mSA (mSA (mSA (mSA (mSi α 10 ((α.1 10) + 1)) 2 (upd ((mSi α 10 ((α.1 10) + 1)).2 2) ((α.1 10) : Int32).toNatClampNeg (vp_nar .byte (a1).toInt8.toInt32))) 3 (upd ((mSA (mSi α 10 ((α.1 10) + 1)) 2 (upd ((mSi α 10 ((α.1 10) + 1)).2 2) ((α.1 10) : Int32).toNatClampNeg (vp_nar .byte (a1).toInt8.toInt32))).2 3) ((α.1 10) : Int32).toNatClampNeg a2)) 4 (upd ((mSA (mSA (mSi α 10 ((α.1 10) + 1)) 2 (upd ((mSi α 10 ((α.1 10) + 1)).2 2) ((α.1 10) : Int32).toNatClampNeg (vp_nar .byte (a1).toInt8.toInt32))) 3 (upd ((mSA (mSi α 10 ((α.1 10) + 1)) 2 (upd ((mSi α 10 ((α.1 10) + 1)).2 2) ((α.1 10) : Int32).toNatClampNeg (vp_nar .byte (a1).toInt8.toInt32))).2 3) ((α.1 10) : Int32).toNatClampNeg a2)).2 4) ((α.1 10) : Int32).toNatClampNeg a3)) 5 (upd ((mSA (mSA (mSA (mSi α 10 ((α.1 10) + 1)) 2 (upd ((mSi α 10 ((α.1 10) + 1)).2 2) ((α.1 10) : Int32).toNatClampNeg (vp_nar .byte (a1).toInt8.toInt32))) 3 (upd ((mSA (mSi α 10 ((α.1 10) + 1)) 2 (upd ((mSi α 10 ((α.1 10) + 1)).2 2) ((α.1 10) : Int32).toNatClampNeg (vp_nar .byte (a1).toInt8.toInt32))).2 3) ((α.1 10) : Int32).toNatClampNeg a2)) 4 (upd ((mSA (mSA (mSi α 10 ((α.1 10) + 1)) 2 (upd ((mSi α 10 ((α.1 10) + 1)).2 2) ((α.1 10) : Int32).toNatClampNeg (vp_nar .byte (a1).toInt8.toInt32))) 3 (upd ((mSA (mSi α 10 ((α.1 10) + 1)) 2 (upd ((mSi α 10 ((α.1 10) + 1)).2 2) ((α.1 10) : Int32).toNatClampNeg (vp_nar .byte (a1).toInt8.toInt32))).2 3) ((α.1 10) : Int32).toNatClampNeg a2)).2 4) ((α.1 10) : Int32).toNatClampNeg a3)).2 5) ((α.1 10) : Int32).toNatClampNeg a4)).2 6) ((α.1 10) : Int32).toNatClampNeg 1)).2 7) ((α.1 10) : Int32).toNatClampNeg 1)).2 6 (a4 : Int32).toNatClampNeg) ((1 + ((mSA (mSA (mSA (mSA (mSA (mSA (mSi α 10 ((α.1 10) + 1)) 2 (upd ((mSi α 10 ((α.1 10) + 1)).2 2) ((α.1 10) : Int32).toNatClampNeg (vp_nar .byte (a1).toInt8.toInt32))) 3 (upd ((mSA (mSi α 10 ((α.1 10) + 1)) 2 (upd ((mSi α 10 ((α.1 10) + 1)).2 2) ((α.1 10) : Int32).toNatClampNeg (vp_nar .byte (a1).toInt8.toInt32))).2 3) ((α.1 10) : Int32).toNatClampNeg a2)) 4 (upd ((mSA (mSA (mSi α 10 ((α.1 10) + 1)) 2 (upd ((mSi α 10 ((α.1 10) + 1)).2 2) ((α.1 10) : Int32).toNatClampNeg (vp_nar .byte (a1).toInt8.toInt32))) 3 (upd ((mSA (mSi α 10 ((α.1 10) + 1)) 2 (upd ((mSi α 10 ((α.1 10) + 1)).2 2) ((α.1 10) : Int32).toNatClampNeg (vp_nar .byte (a1).toInt8.toInt32))).2 3) ((α.1 10) : Int32).toNatClampNeg a2)).2 4) ((α.1 10) : Int32).toNatClampNeg a3)) 5 (upd ((mSA (mSA (mSA (mSi α 10 ((α.1 10) + 1)) 2 (upd ((mSi α 10 ((α.1 10) + 1)).2 2) ((α.1 10) : Int32).toNatClampNeg (vp_nar .byte (a1).toInt8.toInt32))) 3 (upd ((mSA (mSi α 10 ((α.1 10) + 1)) 2 (upd ((mSi α 10 ((α.1 10) + 1)).2 2) ((α.1 10) : Int32).toNatClampNeg (vp_nar .byte (a1).toInt8.toInt32))).2 3) ((α.1 10) : Int32).toNatClampNeg a2)) 4 (upd ((mSA (mSA (mSi α 10 ((α.1 10) + 1)) 2 (upd ((mSi α 10 ((α.1 10) + 1)).2 2) ((α.1 10) : Int32).toNatClampNeg (vp_nar .byte (a1).toInt8.toInt32))) 3 (upd ((mSA (mSi α 10 ((α.1 10) + 1)) 2 (upd ((mSi α 10 ((α.1 10) + 1)).2 2) ((α.1 10) : Int32).toNatClampNeg (vp_nar .byte (a1).toInt8.toInt32))).2 3) ((α.1 10) : Int32).toNatClampNeg a2)).2 4) ((α.1 10) : Int32).toNatClampNeg a3)).2 5) ((α.1 10) : Int32).toNatClampNeg a4)) 6 (upd ((mSA (mSA (mSA (mSA (mSi α 10 ((α.1 10) + 1)) 2 (upd ((mSi α 10 ((α.1 10) + 1)).2 2) ((α.1 10) : Int32).toNatClampNeg (vp_nar .byte (a1).toInt8.toInt32))) 3 (upd ((mSA (mSi α 10 ((α.1 10) + 1)) 2 (upd ((mSi α 10 ((α.1 10) + 1)).2 2) ((α.1 10) : Int32).toNatClampNeg (vp_nar .byte (a1).toInt8.toInt32))).2 3) ((α.1 10) : Int32).toNatClampNeg a2)) 4 (upd ((mSA (mSA (mSi α 10 ((α.1 10) + 1)) 2 (upd ((mSi α 10 ((α.1 10) + 1)).2 2) ((α.1 10) : Int32).toNatClampNeg (vp_nar .byte (a1).toInt8.toInt32))) 3 (upd ((mSA (mSi α 10 ((α.1 10) + 1)) 2 (upd ((mSi α 10 ((α.1 10) + 1)).2 2) ((α.1 10) : Int32).toNatClampNeg (vp_nar .byte (a1).toInt8.toInt32))).2 3) ((α.1 10) : Int32).toNatClampNeg a2)).2 4) ((α.1 10) : Int32).toNatClampNeg a3)) 5 (upd ((mSA (mSA (mSA (mSi α 10 ((α.1 10) + 1)) 2 (upd ((mSi α 10 ((α.1 10) + 1)).2 2) ((α.1 10) : Int32).toNatClampNeg (vp_nar .byte (a1).toInt8.toInt32))) 3 (upd ((mSA (mSi α 10 ((α.1 10) + 1)) 2 (upd ((mSi α 10 ((α.1 10) + 1)).2 2) ((α.1 10) : Int32).toNatClampNeg (vp_nar .byte (a1).toInt8.toInt32))).2 3) ((α.1 10) : Int32).toNatClampNeg a2)) 4 (upd ((mSA (mSA (mSi α 10 ((α.1 10) + 1)) 2 (upd ((mSi α 10 ((α.1 10) + 1)).2 2) ((α.1 10) : Int32).toNatClampNeg (vp_nar .byte (a1).toInt8.toInt32))) 3 (upd ((mSA (mSi α 10 ((α.1 10) + 1)) 2 (upd ((mSi α 10 ((α.1 10) + 1)).2 2) ((α.1 10) : Int32).toNatClampNeg (vp_nar .byte (a1).toInt8.toInt32))).2 3) ((α.1 10) : Int32).toNatClampNeg a2)).2 4) ((α.1 10) : Int32).toNatClampNeg a3)).2 5) ((α.1 10) : Int32).toNatClampNeg a4)).2 6) ((α.1 10) : Int32).toNatClampNeg 1)) 7 (upd ((mSA (mSA (mSA (mSA (mSA (mSi α 10 ((α.1 10) + 1)) 2 (upd ((mSi α 10 ((α.1 10) + 1)).2 2) ((α.1 10) : Int32).toNatClampNeg (vp_nar .byte (a1).toInt8.toInt32))) 3 (upd ((mSA (mSi α 10 ((α.1 10) + 1)) 2 (upd ((mSi α 10 ((α.1 10) + 1)).2 2) ((α.1 10) : Int32).toNatClampNeg (vp_nar .byte (a1).toInt8.toInt32))).2 3) ((α.1 10) : Int32).toNatClampNeg a2)) 4 (upd ((mSA (mSA (mSi α 10 ((α.1 10) + 1)) 2 (upd ((mSi α 10 ((α.1 10) + 1)).2 2) ((α.1 10) : Int32).toNatClampNeg (vp_nar .byte (a1).toInt8.toInt32))) 3 (upd ((mSA (mSi α 10 ((α.1 10) + 1)) 2 (upd ((mSi α 10 ((α.1 10) + 1)).2 2) ((α.1 10) : Int32).toNatClampNeg (vp_nar .byte (a1).toInt8.toInt32))).2 3) ((α.1 10) : Int32).toNatClampNeg a2)).2 4) ((α.1 10) : Int32).toNatClampNeg a3)) 5 (upd ((mSA (mSA (mSA (mSi α 10 ((α.1 10) + 1)) 2 (upd ((mSi α 10 ((α.1 10) + 1)).2 2) ((α.1 10) : Int32).toNatClampNeg (vp_nar .byte (a1).toInt8.toInt32))) 3 (upd ((mSA (mSi α 10 ((α.1 10) + 1)) 2 (upd ((mSi α 10 ((α.1 10) + 1)).2 2) ((α.1 10) : Int32).toNatClampNeg (vp_nar .byte (a1).toInt8.toInt32))).2 3) ((α.1 10) : Int32).toNatClampNeg a2)) 4 (upd ((mSA (mSA (mSi α 10 ((α.1 10) + 1)) 2 (upd ((mSi α 10 ((α.1 10) + 1)).2 2) ((α.1 10) : Int32).toNatClampNeg (vp_nar .byte (a1).toInt8.toInt32))) 3 (upd ((mSA (mSi α 10 ((α.1 10) + 1)) 2 (upd ((mSi α 10 ((α.1 10) + 1)).2 2) ((α.1 10) : Int32).toNatClampNeg (vp_nar .byte (a1).toInt8.toInt32))).2 3) ((α.1 10) : Int32).toNatClampNeg a2)).2 4) ((α.1 10) : Int32).toNatClampNeg a3)).2 5) ((α.1 10) : Int32).toNatClampNeg a4)) 6 (upd ((mSA (mSA (mSA (mSA (mSi α 10 ((α.1 10) + 1)) 2 (upd ((mSi α 10 ((α.1 10) + 1)).2 2) ((α.1 10) : Int32).toNatClampNeg (vp_nar .byte (a1).toInt8.toInt32))) 3 (upd ((mSA (mSi α 10 ((α.1 10) + 1)) 2 (upd ((mSi α 10 ((α.1 10) + 1)).2 2) ((α.1 10) : Int32).toNatClampNeg (vp_nar .byte (a1).toInt8.toInt32))).2 3) ((α.1 10) : Int32).toNatClampNeg a2)) 4 (upd ((mSA (mSA (mSi α 10 ((α.1 10) + 1)) 2 (upd ((mSi α 10 ((α.1 10) + 1)).2 2) ((α.1 10) : Int32).toNatClampNeg (vp_nar .byte (a1).toInt8.toInt32))) 3 (upd ((mSA (mSi α 10 ((α.1 10) + 1)) 2 (upd ((mSi α 10 ((α.1 10) + 1)).2 2) ((α.1 10) : Int32).toNatClampNeg (vp_nar .byte (a1).toInt8.toInt32))).2 3) ((α.1 10) : Int32).toNatClampNeg a2)).2 4) ((α.1 10) : Int32).toNatClampNeg a3)) 5 (upd ((mSA (mSA (mSA (mSi α 10 ((α.1 10) + 1)) 2 (upd ((mSi α 10 ((α.1 10) + 1)).2 2) ((α.1 10) : Int32).toNatClampNeg (vp_nar .byte (a1).toInt8.toInt32))) 3 (upd ((mSA (mSi α 10 ((α.1 10) + 1)) 2 (upd ((mSi α 10 ((α.1 10) + 1)).2 2) ((α.1 10) : Int32).toNatClampNeg (vp_nar .byte (a1).toInt8.toInt32))).2 3) ((α.1 10) : Int32).toNatClampNeg a2)) 4 (upd ((mSA (mSA (mSi α 10 ((α.1 10) + 1)) 2 (upd ((mSi α 10 ((α.1 10) + 1)).2 2) ((α.1 10) : Int32).toNatClampNeg (vp_nar .byte (a1).toInt8.toInt32))) 3 (upd ((mSA (mSi α 10 ((α.1 10) + 1)) 2 (upd ((mSi α 10 ((α.1 10) + 1)).2 2) ((α.1 10) : Int32).toNatClampNeg (vp_nar .byte (a1).toInt8.toInt32))).2 3) ((α.1 10) : Int32).toNatClampNeg a2)).2 4) ((α.1 10) : Int32).toNatClampNeg a3)).2 5) ((α.1 10) : Int32).toNatClampNeg a4)).2 6) ((α.1 10) : Int32).toNatClampNeg 1)).2 7) ((α.1 10) : Int32).toNatClampNeg 1)).2 6 (a2 : Int32).toNatClampNeg)) + ((mSA (mSA (mSA (mSA (mSA (mSA (mSi α 10 ((α.1 10) + 1)) 2 (upd ((mSi α 10 ((α.1 10) + 1)).2 2) ((α.1 10) : Int32).toNatClampNeg (vp_nar .byte (a1).toInt8.toInt32))) 3 (upd ((mSA (mSi α 10 ((α.1 10) + 1)) 2 (upd ((mSi α 10 ((α.1 10) + 1)).2 2) ((α.1 10) : Int32).toNatClampNeg (vp_nar .byte (a1).toInt8.toInt32))).2 3) ((α.1 10) : Int32).toNatClampNeg a2)) 4 (upd ((mSA (mSA (mSi α 10 ((α.1 10) + 1)) 2 (upd ((mSi α 10 ((α.1 10) + 1)).2 2) ((α.1 10) : Int32).toNatClampNeg (vp_nar .byte (a1).toInt8.toInt32))) 3 (upd ((mSA (mSi α 10 ((α.1 10) + 1)) 2 (upd ((mSi α 10 ((α.1 10) + 1)).2 2) ((α.1 10) : Int32).toNatClampNeg (vp_nar .byte (a1).toInt8.toInt32))).2 3) ((α.1 10) : Int32).toNatClampNeg a2)).2 4) ((α.1 10) : Int32).toNatClampNeg a3)) 5 (upd ((mSA (mSA (mSA (mSi α 10 ((α.1 10) + 1)) 2 (upd ((mSi α 10 ((α.1 10) + 1)).2 2) ((α.1 10) : Int32).toNatClampNeg (vp_nar .byte (a1).toInt8.toInt32))) 3 (upd ((mSA (mSi α 10 ((α.1 10) + 1)) 2 (upd ((mSi α 10 ((α.1 10) + 1)).2 2) ((α.1 10) : Int32).toNatClampNeg (vp_nar .byte (a1).toInt8.toInt32))).2 3) ((α.1 10) : Int32).toNatClampNeg a2)) 4 (upd ((mSA (mSA (mSi α 10 ((α.1 10) + 1)) 2 (upd ((mSi α 10 ((α.1 10) + 1)).2 2) ((α.1 10) : Int32).toNatClampNeg (vp_nar .byte (a1).toInt8.toInt32))) 3 (upd ((mSA (mSi α 10 ((α.1 10) + 1)) 2 (upd ((mSi α 10 ((α.1 10) + 1)).2 2) ((α.1 10) : Int32).toNatClampNeg (vp_nar .byte (a1).toInt8.toInt32))).2 3) ((α.1 10) : Int32).toNatClampNeg a2)).2 4) ((α.1 10) : Int32).toNatClampNeg a3)).2 5) ((α.1 10) : Int32).toNatClampNeg a4)) 6 (upd ((mSA (mSA (mSA (mSA (mSi α 10 ((α.1 10) + 1)) 2 (upd ((mSi α 10 ((α.1 10) + 1)).2 2) ((α.1 10) : Int32).toNatClampNeg (vp_nar .byte (a1).toInt8.toInt32))) 3 (upd ((mSA (mSi α 10 ((α.1 10) + 1)) 2 (upd ((mSi α 10 ((α.1 10) + 1)).2 2) ((α.1 10) : Int32).toNatClampNeg (vp_nar .byte (a1).toInt8.toInt32))).2 3) ((α.1 10) : Int32).toNatClampNeg a2)) 4 (upd ((mSA (mSA (mSi α 10 ((α.1 10) + 1)) 2 (upd ((mSi α 10 ((α.1 10) + 1)).2 2) ((α.1 10) : Int32).toNatClampNeg (vp_nar .byte (a1).toInt8.toInt32))) 3 (upd ((mSA (mSi α 10 ((α.1 10) + 1)) 2 (upd ((mSi α 10 ((α.1 10) + 1)).2 2) ((α.1 10) : Int32).toNatClampNeg (vp_nar .byte (a1).toInt8.toInt32))).2 3) ((α.1 10) : Int32).toNatClampNeg a2)).2 4) ((α.1 10) : Int32).toNatClampNeg a3)) 5 (upd ((mSA (mSA (mSA (mSi α 10 ((α.1 10) + 1)) 2 (upd ((mSi α 10 ((α.1 10) + 1)).2 2) ((α.1 10) : Int32).toNatClampNeg (vp_nar .byte (a1).toInt8.toInt32))) 3 (upd ((mSA (mSi α 10 ((α.1 10) + 1)) 2 (upd ((mSi α 10 ((α.1 10) + 1)).2 2) ((α.1 10) : Int32).toNatClampNeg (vp_nar .byte (a1).toInt8.toInt32))).2 3) ((α.1 10) : Int32).toNatClampNeg a2)) 4 (upd ((mSA (mSA (mSi α 10 ((α.1 10) + 1)) 2 (upd ((mSi α 10 ((α.1 10) + 1)).2 2) ((α.1 10) : Int32).toNatClampNeg (vp_nar .byte (a1).toInt8.toInt32))) 3 (upd ((mSA (mSi α 10 ((α.1 10) + 1)) 2 (upd ((mSi α 10 ((α.1 10) + 1)).2 2) ((α.1 10) : Int32).toNatClampNeg (vp_nar .byte (a1).toInt8.toInt32))).2 3) ((α.1 10) : Int32).toNatClampNeg a2)).2 4) ((α.1 10) : Int32).toNatClampNeg a3)).2 5) ((α.1 10) : Int32).toNatClampNeg a4)).2 6) ((α.1 10) : Int32).toNatClampNeg 1)) 7 (upd ((mSA (mSA (mSA (mSA (mSA (mSi α 10 ((α.1 10) + 1)) 2 (upd ((mSi α 10 ((α.1 10) + 1)).2 2) ((α.1 10) : Int32).toNatClampNeg (vp_nar .byte (a1).toInt8.toInt32))) 3 (upd ((mSA (mSi α 10 ((α.1 10) + 1)) 2 (upd ((mSi α 10 ((α.1 10) + 1)).2 2) ((α.1 10) : Int32).toNatClampNeg (vp_nar .byte (a1).toInt8.toInt32))).2 3) ((α.1 10) : Int32).toNatClampNeg a2)) 4 (upd ((mSA (mSA (mSi α 10 ((α.1 10) + 1)) 2 (upd ((mSi α 10 ((α.1 10) + 1)).2 2) ((α.1 10) : Int32).toNatClampNeg (vp_nar .byte (a1).toInt8.toInt32))) 3 (upd ((mSA (mSi α 10 ((α.1 10) + 1)) 2 (upd ((mSi α 10 ((α.1 10) + 1)).2 2) ((α.1 10) : Int32).toNatClampNeg (vp_nar .byte (a1).toInt8.toInt32))).2 3) ((α.1 10) : Int32).toNatClampNeg a2)).2 4) ((α.1 10) : Int32).toNatClampNeg a3)) 5 (upd ((mSA (mSA (mSA (mSi α 10 ((α.1 10) + 1)) 2 (upd ((mSi α 10 ((α.1 10) + 1)).2 2) ((α.1 10) : Int32).toNatClampNeg (vp_nar .byte (a1).toInt8.toInt32))) 3 (upd ((mSA (mSi α 10 ((α.1 10) + 1)) 2 (upd ((mSi α 10 ((α.1 10) + 1)).2 2) ((α.1 10) : Int32).toNatClampNeg (vp_nar .byte (a1).toInt8.toInt32))).2 3) ((α.1 10) : Int32).toNatClampNeg a2)) 4 (upd ((mSA (mSA (mSi α 10 ((α.1 10) + 1)) 2 (upd ((mSi α 10 ((α.1 10) + 1)).2 2) ((α.1 10) : Int32).toNatClampNeg (vp_nar .byte (a1).toInt8.toInt32))) 3 (upd ((mSA (mSi α 10 ((α.1 10) + 1)) 2 (upd ((mSi α 10 ((α.1 10) + 1)).2 2) ((α.1 10) : Int32).toNatClampNeg (vp_nar .byte (a1).toInt8.toInt32))).2 3) ((α.1 10) : Int32).toNatClampNeg a2)).2 4) ((α.1 10) : Int32).toNatClampNeg a3)).2 5) ((α.1 10) : Int32).toNatClampNeg a4)) 6 (upd ((mSA (mSA (mSA (mSA (mSi α 10 ((α.1 10) + 1)) 2 (upd ((mSi α 10 ((α.1 10) + 1)).2 2) ((α.1 10) : Int32).toNatClampNeg (vp_nar .byte (a1).toInt8.toInt32))) 3 (upd ((mSA (mSi α 10 ((α.1 10) + 1)) 2 (upd ((mSi α 10 ((α.1 10) + 1)).2 2) ((α.1 10) : Int32).toNatClampNeg (vp_nar .byte (a1).toInt8.toInt32))).2 3) ((α.1 10) : Int32).toNatClampNeg a2)) 4 (upd ((mSA (mSA (mSi α 10 ((α.1 10) + 1)) 2 (upd ((mSi α 10 ((α.1 10) + 1)).2 2) ((α.1 10) : Int32).toNatClampNeg (vp_nar .byte (a1).toInt8.toInt32))) 3 (upd ((mSA (mSi α 10 ((α.1 10) + 1)) 2 (upd ((mSi α 10 ((α.1 10) + 1)).2 2) ((α.1 10) : Int32).toNatClampNeg (vp_nar .byte (a1).toInt8.toInt32))).2 3) ((α.1 10) : Int32).toNatClampNeg a2)).2 4) ((α.1 10) : Int32).toNatClampNeg a3)) 5 (upd ((mSA (mSA (mSA (mSi α 10 ((α.1 10) + 1)) 2 (upd ((mSi α 10 ((α.1 10) + 1)).2 2) ((α.1 10) : Int32).toNatClampNeg (vp_nar .byte (a1).toInt8.toInt32))) 3 (upd ((mSA (mSi α 10 ((α.1 10) + 1)) 2 (upd ((mSi α 10 ((α.1 10) + 1)).2 2) ((α.1 10) : Int32).toNatClampNeg (vp_nar .byte (a1).toInt8.toInt32))).2 3) ((α.1 10) : Int32).toNatClampNeg a2)) 4 (upd ((mSA (mSA (mSi α 10 ((α.1 10) + 1)) 2 (upd ((mSi α 10 ((α.1 10) + 1)).2 2) ((α.1 10) : Int32).toNatClampNeg (vp_nar .byte (a1).toInt8.toInt32))) 3 (upd ((mSA (mSi α 10 ((α.1 10) + 1)) 2 (upd ((mSi α 10 ((α.1 10) + 1)).2 2) ((α.1 10) : Int32).toNatClampNeg (vp_nar .byte (a1).toInt8.toInt32))).2 3) ((α.1 10) : Int32).toNatClampNeg a2)).2 4) ((α.1 10) : Int32).toNatClampNeg a3)).2 5) ((α.1 10) : Int32).toNatClampNeg a4)).2 6) ((α.1 10) : Int32).toNatClampNeg 1)).2 7) ((α.1 10) : Int32).toNatClampNeg 1)).2 6 (a3 : Int32).toNatClampNeg)) 1000000 (α.1 10) (mSA (mSA (mSA (mSA (mSA (mSA (mSi α 10 ((α.1 10) + 1)) 2 (upd ((mSi α 10 ((α.1 10) + 1)).2 2) ((α.1 10) : Int32).toNatClampNeg (vp_nar .byte (a1).toInt8.toInt32))) 3 (upd ((mSA (mSi α 10 ((α.1 10) + 1)) 2 (upd ((mSi α 10 ((α.1 10) + 1)).2 2) ((α.1 10) : Int32).toNatClampNeg (vp_nar .byte (a1).toInt8.toInt32))).2 3) ((α.1 10) : Int32).toNatClampNeg a2)) 4 (upd ((mSA (mSA (mSi α 10 ((α.1 10) + 1)) 2 (upd ((mSi α 10 ((α.1 10) + 1)).2 2) ((α.1 10) : Int32).toNatClampNeg (vp_nar .byte (a1).toInt8.toInt32))) 3 (upd ((mSA (mSi α 10 ((α.1 10) + 1)) 2 (upd ((mSi α 10 ((α.1 10) + 1)).2 2) ((α.1 10) : Int32).toNatClampNeg (vp_nar .byte (a1).toInt8.toInt32))).2 3) ((α.1 10) : Int32).toNatClampNeg a2)).2 4) ((α.1 10) : Int32).toNatClampNeg a3)) 5 (upd ((mSA (mSA (mSA (mSi α 10 ((α.1 10) + 1)) 2 (upd ((mSi α 10 ((α.1 10) + 1)).2 2) ((α.1 10) : Int32).toNatClampNeg (vp_nar .byte (a1).toInt8.toInt32))) 3 (upd ((mSA (mSi α 10 ((α.1 10) + 1)) 2 (upd ((mSi α 10 ((α.1 10) + 1)).2 2) ((α.1 10) : Int32).toNatClampNeg (vp_nar .byte (a1).toInt8.toInt32))).2 3) ((α.1 10) : Int32).toNatClampNeg a2)) 4 (upd ((mSA (mSA (mSi α 10 ((α.1 10) + 1)) 2 (upd ((mSi α 10 ((α.1 10) + 1)).2 2) ((α.1 10) : Int32).toNatClampNeg (vp_nar .byte (a1).toInt8.toInt32))) 3 (upd ((mSA (mSi α 10 ((α.1 10) + 1)) 2 (upd ((mSi α 10 ((α.1 10) + 1)).2 2) ((α.1 10) : Int32).toNatClampNeg (vp_nar .byte (a1).toInt8.toInt32))).2 3) ((α.1 10) : Int32).toNatClampNeg a2)).2 4) ((α.1 10) : Int32).toNatClampNeg a3)).2 5) ((α.1 10) : Int32).toNatClampNeg a4)) 6 (upd ((mSA (mSA (mSA (mSA (mSi α 10 ((α.1 10) + 1)) 2 (upd ((mSi α 10 ((α.1 10) + 1)).2 2) ((α.1 10) : Int32).toNatClampNeg (vp_nar .byte (a1).toInt8.toInt32))) 3 (upd ((mSA (mSi α 10 ((α.1 10) + 1)) 2 (upd ((mSi α 10 ((α.1 10) + 1)).2 2) ((α.1 10) : Int32).toNatClampNeg (vp_nar .byte (a1).toInt8.toInt32))).2 3) ((α.1 10) : Int32).toNatClampNeg a2)) 4 (upd ((mSA (mSA (mSi α 10 ((α.1 10) + 1)) 2 (upd ((mSi α 10 ((α.1 10) + 1)).2 2) ((α.1 10) : Int32).toNatClampNeg (vp_nar .byte (a1).toInt8.toInt32))) 3 (upd ((mSA (mSi α 10 ((α.1 10) + 1)) 2 (upd ((mSi α 10 ((α.1 10) + 1)).2 2) ((α.1 10) : Int32).toNatClampNeg (vp_nar .byte (a1).toInt8.toInt32))).2 3) ((α.1 10) : Int32).toNatClampNeg a2)).2 4) ((α.1 10) : Int32).toNatClampNeg a3)) 5 (upd ((mSA (mSA (mSA (mSi α 10 ((α.1 10) + 1)) 2 (upd ((mSi α 10 ((α.1 10) + 1)).2 2) ((α.1 10) : Int32).toNatClampNeg (vp_nar .byte (a1).toInt8.toInt32))) 3 (upd ((mSA (mSi α 10 ((α.1 10) + 1)) 2 (upd ((mSi α 10 ((α.1 10) + 1)).2 2) ((α.1 10) : Int32).toNatClampNeg (vp_nar .byte (a1).toInt8.toInt32))).2 3) ((α.1 10) : Int32).toNatClampNeg a2)) 4 (upd ((mSA (mSA (mSi α 10 ((α.1 10) + 1)) 2 (upd ((mSi α 10 ((α.1 10) + 1)).2 2) ((α.1 10) : Int32).toNatClampNeg (vp_nar .byte (a1).toInt8.toInt32))) 3 (upd ((mSA (mSi α 10 ((α.1 10) + 1)) 2 (upd ((mSi α 10 ((α.1 10) + 1)).2 2) ((α.1 10) : Int32).toNatClampNeg (vp_nar .byte (a1).toInt8.toInt32))).2 3) ((α.1 10) : Int32).toNatClampNeg a2)).2 4) ((α.1 10) : Int32).toNatClampNeg a3)).2 5) ((α.1 10) : Int32).toNatClampNeg a4)).2 6) ((α.1 10) : Int32).toNatClampNeg 1)) 7 (upd ((mSA (mSA (mSA (mSA (mSA (mSi α 10 ((α.1 10) + 1)) 2 (upd ((mSi α 10 ((α.1 10) + 1)).2 2) ((α.1 10) : Int32).toNatClampNeg (vp_nar .byte (a1).toInt8.toInt32))) 3 (upd ((mSA (mSi α 10 ((α.1 10) + 1)) 2 (upd ((mSi α 10 ((α.1 10) + 1)).2 2) ((α.1 10) : Int32).toNatClampNeg (vp_nar .byte (a1).toInt8.toInt32))).2 3) ((α.1 10) : Int32).toNatClampNeg a2)) 4 (upd ((mSA (mSA (mSi α 10 ((α.1 10) + 1)) 2 (upd ((mSi α 10 ((α.1 10) + 1)).2 2) ((α.1 10) : Int32).toNatClampNeg (vp_nar .byte (a1).toInt8.toInt32))) 3 (upd ((mSA (mSi α 10 ((α.1 10) + 1)) 2 (upd ((mSi α 10 ((α.1 10) + 1)).2 2) ((α.1 10) : Int32).toNatClampNeg (vp_nar .byte (a1).toInt8.toInt32))).2 3) ((α.1 10) : Int32).toNatClampNeg a2)).2 4) ((α.1 10) : Int32).toNatClampNeg a3)) 5 (upd ((mSA (mSA (mSA (mSi α 10 ((α.1 10) + 1)) 2 (upd ((mSi α 10 ((α.1 10) + 1)).2 2) ((α.1 10) : Int32).toNatClampNeg (vp_nar .byte (a1).toInt8.toInt32))) 3 (upd ((mSA (mSi α 10 ((α.1 10) + 1)) 2 (upd ((mSi α 10 ((α.1 10) + 1)).2 2) ((α.1 10) : Int32).toNatClampNeg (vp_nar .byte (a1).toInt8.toInt32))).2 3) ((α.1 10) : Int32).toNatClampNeg a2)) 4 (upd ((mSA (mSA (mSi α 10 ((α.1 10) + 1)) 2 (upd ((mSi α 10 ((α.1 10) + 1)).2 2) ((α.1 10) : Int32).toNatClampNeg (vp_nar .byte (a1).toInt8.toInt32))) 3 (upd ((mSA (mSi α 10 ((α.1 10) + 1)) 2 (upd ((mSi α 10 ((α.1 10) + 1)).2 2) ((α.1 10) : Int32).toNatClampNeg (vp_nar .byte (a1).toInt8.toInt32))).2 3) ((α.1 10) : Int32).toNatClampNeg a2)).2 4) ((α.1 10) : Int32).toNatClampNeg a3)).2 5) ((α.1 10) : Int32).toNatClampNeg a4)) 6 (upd ((mSA (mSA (mSA (mSA (mSi α 10 ((α.1 10) + 1)) 2 (upd ((mSi α 10 ((α.1 10) + 1)).2 2) ((α.1 10) : Int32).toNatClampNeg (vp_nar .byte (a1).toInt8.toInt32))) 3 (upd ((mSA (mSi α 10 ((α.1 10) + 1)) 2 (upd ((mSi α 10 ((α.1 10) + 1)).2 2) ((α.1 10) : Int32).toNatClampNeg (vp_nar .byte (a1).toInt8.toInt32))).2 3) ((α.1 10) : Int32).toNatClampNeg a2)) 4 (upd ((mSA (mSA (mSi α 10 ((α.1 10) + 1)) 2 (upd ((mSi α 10 ((α.1 10) + 1)).2 2) ((α.1 10) : Int32).toNatClampNeg (vp_nar .byte (a1).toInt8.toInt32))) 3 (upd ((mSA (mSi α 10 ((α.1 10) + 1)) 2 (upd ((mSi α 10 ((α.1 10) + 1)).2 2) ((α.1 10) : Int32).toNatClampNeg (vp_nar .byte (a1).toInt8.toInt32))).2 3) ((α.1 10) : Int32).toNatClampNeg a2)).2 4) ((α.1 10) : Int32).toNatClampNeg a3)) 5 (upd ((mSA (mSA (mSA (mSi α 10 ((α.1 10) + 1)) 2 (upd ((mSi α 10 ((α.1 10) + 1)).2 2) ((α.1 10) : Int32).toNatClampNeg (vp_nar .byte (a1).toInt8.toInt32))) 3 (upd ((mSA (mSi α 10 ((α.1 10) + 1)) 2 (upd ((mSi α 10 ((α.1 10) + 1)).2 2) ((α.1 10) : Int32).toNatClampNeg (vp_nar .byte (a1).toInt8.toInt32))).2 3) ((α.1 10) : Int32).toNatClampNeg a2)) 4 (upd ((mSA (mSA (mSi α 10 ((α.1 10) + 1)) 2 (upd ((mSi α 10 ((α.1 10) + 1)).2 2) ((α.1 10) : Int32).toNatClampNeg (vp_nar .byte (a1).toInt8.toInt32))) 3 (upd ((mSA (mSi α 10 ((α.1 10) + 1)) 2 (upd ((mSi α 10 ((α.1 10) + 1)).2 2) ((α.1 10) : Int32).toNatClampNeg (vp_nar .byte (a1).toInt8.toInt32))).2 3) ((α.1 10) : Int32).toNatClampNeg a2)).2 4) ((α.1 10) : Int32).toNatClampNeg a3)).2 5) ((α.1 10) : Int32).toNatClampNeg a4)).2 6) ((α.1 10) : Int32).toNatClampNeg 1)).2 7) ((α.1 10) : Int32).toNatClampNeg 1)))) else (f_Mod_node_j125 N (α.1 10) a1 a2 a3 a4 0 ((1 + ((mSA (mSA (mSA (mSA (mSA (mSA (mSi α 10 ((α.1 10) + 1)) 2 (upd ((mSi α 10 ((α.1 10) + 1)).2 2) ((α.1 10) : Int32).toNatClampNeg (vp_nar .byte (a1).toInt8.toInt32))) 3 (upd ((mSA (mSi α 10 ((α.1 10) + 1)) 2 (upd ((mSi α 10 ((α.1 10) + 1)).2 2) ((α.1 10) : Int32).toNatClampNeg (vp_nar .byte (a1).toInt8.toInt32))).2 3) ((α.1 10) : Int32).toNatClampNeg a2)) 4 (upd ((mSA (mSA (mSi α 10 ((α.1 10) + 1)) 2 (upd ((mSi α 10 ((α.1 10) + 1)).2 2) ((α.1 10) : Int32).toNatClampNeg (vp_nar .byte (a1).toInt8.toInt32))) 3 (upd ((mSA (mSi α 10 ((α.1 10) + 1)) 2 (upd ((mSi α 10 ((α.1 10) + 1)).2 2) ((α.1 10) : Int32).toNatClampNeg (vp_nar .byte (a1).toInt8.toInt32))).2 3) ((α.1 10) : Int32).toNatClampNeg a2)).2 4) ((α.1 10) : Int32).toNatClampNeg a3)) 5 (upd ((mSA (mSA (mSA (mSi α 10 ((α.1 10) + 1)) 2 (upd ((mSi α 10 ((α.1 10) + 1)).2 2) ((α.1 10) : Int32).toNatClampNeg (vp_nar .byte (a1).toInt8.toInt32))) 3 (upd ((mSA (mSi α 10 ((α.1 10) + 1)) 2 (upd ((mSi α 10 ((α.1 10) + 1)).2 2) ((α.1 10) : Int32).toNatClampNeg (vp_nar .byte (a1).toInt8.toInt32))).2 3) ((α.1 10) : Int32).toNatClampNeg a2)) 4 (upd ((mSA (mSA (mSi α 10 ((α.1 10) + 1)) 2 (upd ((mSi α 10 ((α.1 10) + 1)).2 2) ((α.1 10) : Int32).toNatClampNeg (vp_nar .byte (a1).toInt8.toInt32))) 3 (upd ((mSA (mSi α 10 ((α.1 10) + 1)) 2 (upd ((mSi α 10 ((α.1 10) + 1)).2 2) ((α.1 10) : Int32).toNatClampNeg (vp_nar .byte (a1).toInt8.toInt32))).2 3) ((α.1 10) : Int32).toNatClampNeg a2)).2 4) ((α.1 10) : Int32).toNatClampNeg a3)).2 5) ((α.1 10) : Int32).toNatClampNeg a4)) 6 (upd ((mSA (mSA (mSA (mSA (mSi α 10 ((α.1 10) + 1)) 2 (upd ((mSi α 10 ((α.1 10) + 1)).2 2) ((α.1 10) : Int32).toNatClampNeg (vp_nar .byte (a1).toInt8.toInt32))) 3 (upd ((mSA (mSi α 10 ((α.1 10) + 1)) 2 (upd ((mSi α 10 ((α.1 10) + 1)).2 2) ((α.1 10) : Int32).toNatClampNeg (vp_nar .byte (a1).toInt8.toInt32))).2 3) ((α.1 10) : Int32).toNatClampNeg a2)) 4 (upd ((mSA (mSA (mSi α 10 ((α.1 10) + 1)) 2 (upd ((mSi α 10 ((α.1 10) + 1)).2 2) ((α.1 10) : Int32).toNatClampNeg (vp_nar .byte (a1).toInt8.toInt32))) 3 (upd ((mSA (mSi α 10 ((α.1 10) + 1)) 2 (upd ((mSi α 10 ((α.1 10) + 1)).2 2) ((α.1 10) : Int32).toNatClampNeg (vp_nar .byte (a1).toInt8.toInt32))).2 3) ((α.1 10) : Int32).toNatClampNeg a2)).2 4) ((α.1 10) : Int32).toNatClampNeg a3)) 5 (upd ((mSA (mSA (mSA (mSi α 10 ((α.1 10) + 1)) 2 (upd ((mSi α 10 ((α.1 10) + 1)).2 2) ((α.1 10) : Int32).toNatClampNeg (vp_nar .byte (a1).toInt8.toInt32))) 3 (upd ((mSA (mSi α 10 ((α.1 10) + 1)) 2 (upd ((mSi α 10 ((α.1 10) + 1)).2 2) ((α.1 10) : Int32).toNatClampNeg (vp_nar .byte (a1).toInt8.toInt32))).2 3) ((α.1 10) : Int32).toNatClampNeg a2)) 4 (upd ((mSA (mSA (mSi α 10 ((α.1 10) + 1)) 2 (upd ((mSi α 10 ((α.1 10) + 1)).2 2) ((α.1 10) : Int32).toNatClampNeg (vp_nar .byte (a1).toInt8.toInt32))) 3 (upd ((mSA (mSi α 10 ((α.1 10) + 1)) 2 (upd ((mSi α 10 ((α.1 10) + 1)).2 2) ((α.1 10) : Int32).toNatClampNeg (vp_nar .byte (a1).toInt8.toInt32))).2 3) ((α.1 10) : Int32).toNatClampNeg a2)).2 4) ((α.1 10) : Int32).toNatClampNeg a3)).2 5) ((α.1 10) : Int32).toNatClampNeg a4)).2 6) ((α.1 10) : Int32).toNatClampNeg 1)) 7 (upd ((mSA (mSA (mSA (mSA (mSA (mSi α 10 ((α.1 10) + 1)) 2 (upd ((mSi α 10 ((α.1 10) + 1)).2 2) ((α.1 10) : Int32).toNatClampNeg (vp_nar .byte (a1).toInt8.toInt32))) 3 (upd ((mSA (mSi α 10 ((α.1 10) + 1)) 2 (upd ((mSi α 10 ((α.1 10) + 1)).2 2) ((α.1 10) : Int32).toNatClampNeg (vp_nar .byte (a1).toInt8.toInt32))).2 3) ((α.1 10) : Int32).toNatClampNeg a2)) 4 (upd ((mSA (mSA (mSi α 10 ((α.1 10) + 1)) 2 (upd ((mSi α 10 ((α.1 10) + 1)).2 2) ((α.1 10) : Int32).toNatClampNeg (vp_nar .byte (a1).toInt8.toInt32))) 3 (upd ((mSA (mSi α 10 ((α.1 10) + 1)) 2 (upd ((mSi α 10 ((α.1 10) + 1)).2 2) ((α.1 10) : Int32).toNatClampNeg (vp_nar .byte (a1).toInt8.toInt32))).2 3) ((α.1 10) : Int32).toNatClampNeg a2)).2 4) ((α.1 10) : Int32).toNatClampNeg a3)) 5 (upd ((mSA (mSA (mSA (mSi α 10 ((α.1 10) + 1)) 2 (upd ((mSi α 10 ((α.1 10) + 1)).2 2) ((α.1 10) : Int32).toNatClampNeg (vp_nar .byte (a1).toInt8.toInt32))) 3 (upd ((mSA (mSi α 10 ((α.1 10) + 1)) 2 (upd ((mSi α 10 ((α.1 10) + 1)).2 2) ((α.1 10) : Int32).toNatClampNeg (vp_nar .byte (a1).toInt8.toInt32))).2 3) ((α.1 10) : Int32).toNatClampNeg a2)) 4 (upd ((mSA (mSA (mSi α 10 ((α.1 10) + 1)) 2 (upd ((mSi α 10 ((α.1 10) + 1)).2 2) ((α.1 10) : Int32).toNatClampNeg (vp_nar .byte (a1).toInt8.toInt32))) 3 (upd ((mSA (mSi α 10 ((α.1 10) + 1)) 2 (upd ((mSi α 10 ((α.1 10) + 1)).2 2) ((α.1 10) : Int32).toNatClampNeg (vp_nar .byte (a1).toInt8.toInt32))).2 3) ((α.1 10) : Int32).toNatClampNeg a2)).2 4) ((α.1 10) : Int32).toNatClampNeg a3)).2 5) ((α.1 10) : Int32).toNatClampNeg a4)) 6 (upd ((mSA (mSA (mSA (mSA (mSi α 10 ((α.1 10) + 1)) 2 (upd ((mSi α 10 ((α.1 10) + 1)).2 2) ((α.1 10) : Int32).toNatClampNeg (vp_nar .byte (a1).toInt8.toInt32))) 3 (upd ((mSA (mSi α 10 ((α.1 10) + 1)) 2 (upd ((mSi α 10 ((α.1 10) + 1)).2 2) ((α.1 10) : Int32).toNatClampNeg (vp_nar .byte (a1).toInt8.toInt32))).2 3) ((α.1 10) : Int32).toNatClampNeg a2)) 4 (upd ((mSA (mSA (mSi α 10 ((α.1 10) + 1)) 2 (upd ((mSi α 10 ((α.1 10) + 1)).2 2) ((α.1 10) : Int32).toNatClampNeg (vp_nar .byte (a1).toInt8.toInt32))) 3 (upd ((mSA (mSi α 10 ((α.1 10) + 1)) 2 (upd ((mSi α 10 ((α.1 10) + 1)).2 2) ((α.1 10) : Int32).toNatClampNeg (vp_nar .byte (a1).toInt8.toInt32))).2 3) ((α.1 10) : Int32).toNatClampNeg a2)).2 4) ((α.1 10) : Int32).toNatClampNeg a3)) 5 (upd ((mSA (mSA (mSA (mSi α 10 ((α.1 10) + 1)) 2 (upd ((mSi α 10 ((α.1 10) + 1)).2 2) ((α.1 10) : Int32).toNatClampNeg (vp_nar .byte (a1).toInt8.toInt32))) 3 (upd ((mSA (mSi α 10 ((α.1 10) + 1)) 2 (upd ((mSi α 10 ((α.1 10) + 1)).2 2) ((α.1 10) : Int32).toNatClampNeg (vp_nar .byte (a1).toInt8.toInt32))).2 3) ((α.1 10) : Int32).toNatClampNeg a2)) 4 (upd ((mSA (mSA (mSi α 10 ((α.1 10) + 1)) 2 (upd ((mSi α 10 ((α.1 10) + 1)).2 2) ((α.1 10) : Int32).toNatClampNeg (vp_nar .byte (a1).toInt8.toInt32))) 3 (upd ((mSA (mSi α 10 ((α.1 10) + 1)) 2 (upd ((mSi α 10 ((α.1 10) + 1)).2 2) ((α.1 10) : Int32).toNatClampNeg (vp_nar .byte (a1).toInt8.toInt32))).2 3) ((α.1 10) : Int32).toNatClampNeg a2)).2 4) ((α.1 10) : Int32).toNatClampNeg a3)).2 5) ((α.1 10) : Int32).toNatClampNeg a4)).2 6) ((α.1 10) : Int32).toNatClampNeg 1)).2 7) ((α.1 10) : Int32).toNatClampNeg 1)).2 6 (a2 : Int32).toNatClampNeg)) + ((mSA (mSA (mSA (mSA (mSA (mSA (mSi α 10 ((α.1 10) + 1)) 2 (upd ((mSi α 10 ((α.1 10) + 1)).2 2) ((α.1 10) : Int32).toNatClampNeg (vp_nar .byte (a1).toInt8.toInt32))) 3 (upd ((mSA (mSi α 10 ((α.1 10) + 1)) 2 (upd ((mSi α 10 ((α.1 10) + 1)).2 2) ((α.1 10) : Int32).toNatClampNeg (vp_nar .byte (a1).toInt8.toInt32))).2 3) ((α.1 10) : Int32).toNatClampNeg a2)) 4 (upd ((mSA (mSA (mSi α 10 ((α.1 10) + 1)) 2 (upd ((mSi α 10 ((α.1 10) + 1)).2 2) ((α.1 10) : Int32).toNatClampNeg (vp_nar .byte (a1).toInt8.toInt32))) 3 (upd ((mSA (mSi α 10 ((α.1 10) + 1)) 2 (upd ((mSi α 10 ((α.1 10) + 1)).2 2) ((α.1 10) : Int32).toNatClampNeg (vp_nar .byte (a1).toInt8.toInt32))).2 3) ((α.1 10) : Int32).toNatClampNeg a2)).2 4) ((α.1 10) : Int32).toNatClampNeg a3)) 5 (upd ((mSA (mSA (mSA (mSi α 10 ((α.1 10) + 1)) 2 (upd ((mSi α 10 ((α.1 10) + 1)).2 2) ((α.1 10) : Int32).toNatClampNeg (vp_nar .byte (a1).toInt8.toInt32))) 3 (upd ((mSA (mSi α 10 ((α.1 10) + 1)) 2 (upd ((mSi α 10 ((α.1 10) + 1)).2 2) ((α.1 10) : Int32).toNatClampNeg (vp_nar .byte (a1).toInt8.toInt32))).2 3) ((α.1 10) : Int32).toNatClampNeg a2)) 4 (upd ((mSA (mSA (mSi α 10 ((α.1 10) + 1)) 2 (upd ((mSi α 10 ((α.1 10) + 1)).2 2) ((α.1 10) : Int32).toNatClampNeg (vp_nar .byte (a1).toInt8.toInt32))) 3 (upd ((mSA (mSi α 10 ((α.1 10) + 1)) 2 (upd ((mSi α 10 ((α.1 10) + 1)).2 2) ((α.1 10) : Int32).toNatClampNeg (vp_nar .byte (a1).toInt8.toInt32))).2 3) ((α.1 10) : Int32).toNatClampNeg a2)).2 4) ((α.1 10) : Int32).toNatClampNeg a3)).2 5) ((α.1 10) : Int32).toNatClampNeg a4)) 6 (upd ((mSA (mSA (mSA (mSA (mSi α 10 ((α.1 10) + 1)) 2 (upd ((mSi α 10 ((α.1 10) + 1)).2 2) ((α.1 10) : Int32).toNatClampNeg (vp_nar .byte (a1).toInt8.toInt32))) 3 (upd ((mSA (mSi α 10 ((α.1 10) + 1)) 2 (upd ((mSi α 10 ((α.1 10) + 1)).2 2) ((α.1 10) : Int32).toNatClampNeg (vp_nar .byte (a1).toInt8.toInt32))).2 3) ((α.1 10) : Int32).toNatClampNeg a2)) 4 (upd ((mSA (mSA (mSi α 10 ((α.1 10) + 1)) 2 (upd ((mSi α 10 ((α.1 10) + 1)).2 2) ((α.1 10) : Int32).toNatClampNeg (vp_nar .byte (a1).toInt8.toInt32))) 3 (upd ((mSA (mSi α 10 ((α.1 10) + 1)) 2 (upd ((mSi α 10 ((α.1 10) + 1)).2 2) ((α.1 10) : Int32).toNatClampNeg (vp_nar .byte (a1).toInt8.toInt32))).2 3) ((α.1 10) : Int32).toNatClampNeg a2)).2 4) ((α.1 10) : Int32).toNatClampNeg a3)) 5 (upd ((mSA (mSA (mSA (mSi α 10 ((α.1 10) + 1)) 2 (upd ((mSi α 10 ((α.1 10) + 1)).2 2) ((α.1 10) : Int32).toNatClampNeg (vp_nar .byte (a1).toInt8.toInt32))) 3 (upd ((mSA (mSi α 10 ((α.1 10) + 1)) 2 (upd ((mSi α 10 ((α.1 10) + 1)).2 2) ((α.1 10) : Int32).toNatClampNeg (vp_nar .byte (a1).toInt8.toInt32))).2 3) ((α.1 10) : Int32).toNatClampNeg a2)) 4 (upd ((mSA (mSA (mSi α 10 ((α.1 10) + 1)) 2 (upd ((mSi α 10 ((α.1 10) + 1)).2 2) ((α.1 10) : Int32).toNatClampNeg (vp_nar .byte (a1).toInt8.toInt32))) 3 (upd ((mSA (mSi α 10 ((α.1 10) + 1)) 2 (upd ((mSi α 10 ((α.1 10) + 1)).2 2) ((α.1 10) : Int32).toNatClampNeg (vp_nar .byte (a1).toInt8.toInt32))).2 3) ((α.1 10) : Int32).toNatClampNeg a2)).2 4) ((α.1 10) : Int32).toNatClampNeg a3)).2 5) ((α.1 10) : Int32).toNatClampNeg a4)).2 6) ((α.1 10) : Int32).toNatClampNeg 1)) 7 (upd ((mSA (mSA (mSA (mSA (mSA (mSi α 10 ((α.1 10) + 1)) 2 (upd ((mSi α 10 ((α.1 10) + 1)).2 2) ((α.1 10) : Int32).toNatClampNeg (vp_nar .byte (a1).toInt8.toInt32))) 3 (upd ((mSA (mSi α 10 ((α.1 10) + 1)) 2 (upd ((mSi α 10 ((α.1 10) + 1)).2 2) ((α.1 10) : Int32).toNatClampNeg (vp_nar .byte (a1).toInt8.toInt32))).2 3) ((α.1 10) : Int32).toNatClampNeg a2)) 4 (upd ((mSA (mSA (mSi α 10 ((α.1 10) + 1)) 2 (upd ((mSi α 10 ((α.1 10) + 1)).2 2) ((α.1 10) : Int32).toNatClampNeg (vp_nar .byte (a1).toInt8.toInt32))) 3 (upd ((mSA (mSi α 10 ((α.1 10) + 1)) 2 (upd ((mSi α 10 ((α.1 10) + 1)).2 2) ((α.1 10) : Int32).toNatClampNeg (vp_nar .byte (a1).toInt8.toInt32))).2 3) ((α.1 10) : Int32).toNatClampNeg a2)).2 4) ((α.1 10) : Int32).toNatClampNeg a3)) 5 (upd ((mSA (mSA (mSA (mSi α 10 ((α.1 10) + 1)) 2 (upd ((mSi α 10 ((α.1 10) + 1)).2 2) ((α.1 10) : Int32).toNatClampNeg (vp_nar .byte (a1).toInt8.toInt32))) 3 (upd ((mSA (mSi α 10 ((α.1 10) + 1)) 2 (upd ((mSi α 10 ((α.1 10) + 1)).2 2) ((α.1 10) : Int32).toNatClampNeg (vp_nar .byte (a1).toInt8.toInt32))).2 3) ((α.1 10) : Int32).toNatClampNeg a2)) 4 (upd ((mSA (mSA (mSi α 10 ((α.1 10) + 1)) 2 (upd ((mSi α 10 ((α.1 10) + 1)).2 2) ((α.1 10) : Int32).toNatClampNeg (vp_nar .byte (a1).toInt8.toInt32))) 3 (upd ((mSA (mSi α 10 ((α.1 10) + 1)) 2 (upd ((mSi α 10 ((α.1 10) + 1)).2 2) ((α.1 10) : Int32).toNatClampNeg (vp_nar .byte (a1).toInt8.toInt32))).2 3) ((α.1 10) : Int32).toNatClampNeg a2)).2 4) ((α.1 10) : Int32).toNatClampNeg a3)).2 5) ((α.1 10) : Int32).toNatClampNeg a4)) 6 (upd ((mSA (mSA (mSA (mSA (mSi α 10 ((α.1 10) + 1)) 2 (upd ((mSi α 10 ((α.1 10) + 1)).2 2) ((α.1 10) : Int32).toNatClampNeg (vp_nar .byte (a1).toInt8.toInt32))) 3 (upd ((mSA (mSi α 10 ((α.1 10) + 1)) 2 (upd ((mSi α 10 ((α.1 10) + 1)).2 2) ((α.1 10) : Int32).toNatClampNeg (vp_nar .byte (a1).toInt8.toInt32))).2 3) ((α.1 10) : Int32).toNatClampNeg a2)) 4 (upd ((mSA (mSA (mSi α 10 ((α.1 10) + 1)) 2 (upd ((mSi α 10 ((α.1 10) + 1)).2 2) ((α.1 10) : Int32).toNatClampNeg (vp_nar .byte (a1).toInt8.toInt32))) 3 (upd ((mSA (mSi α 10 ((α.1 10) + 1)) 2 (upd ((mSi α 10 ((α.1 10) + 1)).2 2) ((α.1 10) : Int32).toNatClampNeg (vp_nar .byte (a1).toInt8.toInt32))).2 3) ((α.1 10) : Int32).toNatClampNeg a2)).2 4) ((α.1 10) : Int32).toNatClampNeg a3)) 5 (upd ((mSA (mSA (mSA (mSi α 10 ((α.1 10) + 1)) 2 (upd ((mSi α 10 ((α.1 10) + 1)).2 2) ((α.1 10) : Int32).toNatClampNeg (vp_nar .byte (a1).toInt8.toInt32))) 3 (upd ((mSA (mSi α 10 ((α.1 10) + 1)) 2 (upd ((mSi α 10 ((α.1 10) + 1)).2 2) ((α.1 10) : Int32).toNatClampNeg (vp_nar .byte (a1).toInt8.toInt32))).2 3) ((α.1 10) : Int32).toNatClampNeg a2)) 4 (upd ((mSA (mSA (mSi α 10 ((α.1 10) + 1)) 2 (upd ((mSi α 10 ((α.1 10) + 1)).2 2) ((α.1 10) : Int32).toNatClampNeg (vp_nar .byte (a1).toInt8.toInt32))) 3 (upd ((mSA (mSi α 10 ((α.1 10) + 1)) 2 (upd ((mSi α 10 ((α.1 10) + 1)).2 2) ((α.1 10) : Int32).toNatClampNeg (vp_nar .byte (a1).toInt8.toInt32))).2 3) ((α.1 10) : Int32).toNatClampNeg a2)).2 4) ((α.1 10) : Int32).toNatClampNeg a3)).2 5) ((α.1 10) : Int32).toNatClampNeg a4)).2 6) ((α.1 10) : Int32).toNatClampNeg 1)).2 7) ((α.1 10) : Int32).toNatClampNeg 1)).2 6 (a3 : Int32).toNatClampNeg)) 1000000 (α.1 10) (mSA (mSA (mSA (mSA (mSA (mSA (mSi α 10 ((α.1 10) + 1)) 2 (upd ((mSi α 10 ((α.1 10) + 1)).2 2) ((α.1 10) : Int32).toNatClampNeg (vp_nar .byte (a1).toInt8.toInt32))) 3 (upd ((mSA (mSi α 10 ((α.1 10) + 1)) 2 (upd ((mSi α 10 ((α.1 10) + 1)).2 2) ((α.1 10) : Int32).toNatClampNeg (vp_nar .byte (a1).toInt8.toInt32))).2 3) ((α.1 10) : Int32).toNatClampNeg a2)) 4 (upd ((mSA (mSA (mSi α 10 ((α.1 10) + 1)) 2 (upd ((mSi α 10 ((α.1 10) + 1)).2 2) ((α.1 10) : Int32).toNatClampNeg (vp_nar .byte (a1).toInt8.toInt32))) 3 (upd ((mSA (mSi α 10 ((α.1 10) + 1)) 2 (upd ((mSi α 10 ((α.1 10) + 1)).2 2) ((α.1 10) : Int32).toNatClampNeg (vp_nar .byte (a1).toInt8.toInt32))).2 3) ((α.1 10) : Int32).toNatClampNeg a2)).2 4) ((α.1 10) : Int32).toNatClampNeg a3)) 5 (upd ((mSA (mSA (mSA (mSi α 10 ((α.1 10) + 1)) 2 (upd ((mSi α 10 ((α.1 10) + 1)).2 2) ((α.1 10) : Int32).toNatClampNeg (vp_nar .byte (a1).toInt8.toInt32))) 3 (upd ((mSA (mSi α 10 ((α.1 10) + 1)) 2 (upd ((mSi α 10 ((α.1 10) + 1)).2 2) ((α.1 10) : Int32).toNatClampNeg (vp_nar .byte (a1).toInt8.toInt32))).2 3) ((α.1 10) : Int32).toNatClampNeg a2)) 4 (upd ((mSA (mSA (mSi α 10 ((α.1 10) + 1)) 2 (upd ((mSi α 10 ((α.1 10) + 1)).2 2) ((α.1 10) : Int32).toNatClampNeg (vp_nar .byte (a1).toInt8.toInt32))) 3 (upd ((mSA (mSi α 10 ((α.1 10) + 1)) 2 (upd ((mSi α 10 ((α.1 10) + 1)).2 2) ((α.1 10) : Int32).toNatClampNeg (vp_nar .byte (a1).toInt8.toInt32))).2 3) ((α.1 10) : Int32).toNatClampNeg a2)).2 4) ((α.1 10) : Int32).toNatClampNeg a3)).2 5) ((α.1 10) : Int32).toNatClampNeg a4)) 6 (upd ((mSA (mSA (mSA (mSA (mSi α 10 ((α.1 10) + 1)) 2 (upd ((mSi α 10 ((α.1 10) + 1)).2 2) ((α.1 10) : Int32).toNatClampNeg (vp_nar .byte (a1).toInt8.toInt32))) 3 (upd ((mSA (mSi α 10 ((α.1 10) + 1)) 2 (upd ((mSi α 10 ((α.1 10) + 1)).2 2) ((α.1 10) : Int32).toNatClampNeg (vp_nar .byte (a1).toInt8.toInt32))).2 3) ((α.1 10) : Int32).toNatClampNeg a2)) 4 (upd ((mSA (mSA (mSi α 10 ((α.1 10) + 1)) 2 (upd ((mSi α 10 ((α.1 10) + 1)).2 2) ((α.1 10) : Int32).toNatClampNeg (vp_nar .byte (a1).toInt8.toInt32))) 3 (upd ((mSA (mSi α 10 ((α.1 10) + 1)) 2 (upd ((mSi α 10 ((α.1 10) + 1)).2 2) ((α.1 10) : Int32).toNatClampNeg (vp_nar .byte (a1).toInt8.toInt32))).2 3) ((α.1 10) : Int32).toNatClampNeg a2)).2 4) ((α.1 10) : Int32).toNatClampNeg a3)) 5 (upd ((mSA (mSA (mSA (mSi α 10 ((α.1 10) + 1)) 2 (upd ((mSi α 10 ((α.1 10) + 1)).2 2) ((α.1 10) : Int32).toNatClampNeg (vp_nar .byte (a1).toInt8.toInt32))) 3 (upd ((mSA (mSi α 10 ((α.1 10) + 1)) 2 (upd ((mSi α 10 ((α.1 10) + 1)).2 2) ((α.1 10) : Int32).toNatClampNeg (vp_nar .byte (a1).toInt8.toInt32))).2 3) ((α.1 10) : Int32).toNatClampNeg a2)) 4 (upd ((mSA (mSA (mSi α 10 ((α.1 10) + 1)) 2 (upd ((mSi α 10 ((α.1 10) + 1)).2 2) ((α.1 10) : Int32).toNatClampNeg (vp_nar .byte (a1).toInt8.toInt32))) 3 (upd ((mSA (mSi α 10 ((α.1 10) + 1)) 2 (upd ((mSi α 10 ((α.1 10) + 1)).2 2) ((α.1 10) : Int32).toNatClampNeg (vp_nar .byte (a1).toInt8.toInt32))).2 3) ((α.1 10) : Int32).toNatClampNeg a2)).2 4) ((α.1 10) : Int32).toNatClampNeg a3)).2 5) ((α.1 10) : Int32).toNatClampNeg a4)).2 6) ((α.1 10) : Int32).toNatClampNeg 1)) 7 (upd ((mSA (mSA (mSA (mSA (mSA (mSi α 10 ((α.1 10) + 1)) 2 (upd ((mSi α 10 ((α.1 10) + 1)).2 2) ((α.1 10) : Int32).toNatClampNeg (vp_nar .byte (a1).toInt8.toInt32))) 3 (upd ((mSA (mSi α 10 ((α.1 10) + 1)) 2 (upd ((mSi α 10 ((α.1 10) + 1)).2 2) ((α.1 10) : Int32).toNatClampNeg (vp_nar .byte (a1).toInt8.toInt32))).2 3) ((α.1 10) : Int32).toNatClampNeg a2)) 4 (upd ((mSA (mSA (mSi α 10 ((α.1 10) + 1)) 2 (upd ((mSi α 10 ((α.1 10) + 1)).2 2) ((α.1 10) : Int32).toNatClampNeg (vp_nar .byte (a1).toInt8.toInt32))) 3 (upd ((mSA (mSi α 10 ((α.1 10) + 1)) 2 (upd ((mSi α 10 ((α.1 10) + 1)).2 2) ((α.1 10) : Int32).toNatClampNeg (vp_nar .byte (a1).toInt8.toInt32))).2 3) ((α.1 10) : Int32).toNatClampNeg a2)).2 4) ((α.1 10) : Int32).toNatClampNeg a3)) 5 (upd ((mSA (mSA (mSA (mSi α 10 ((α.1 10) + 1)) 2 (upd ((mSi α 10 ((α.1 10) + 1)).2 2) ((α.1 10) : Int32).toNatClampNeg (vp_nar .byte (a1).toInt8.toInt32))) 3 (upd ((mSA (mSi α 10 ((α.1 10) + 1)) 2 (upd ((mSi α 10 ((α.1 10) + 1)).2 2) ((α.1 10) : Int32).toNatClampNeg (vp_nar .byte (a1).toInt8.toInt32))).2 3) ((α.1 10) : Int32).toNatClampNeg a2)) 4 (upd ((mSA (mSA (mSi α 10 ((α.1 10) + 1)) 2 (upd ((mSi α 10 ((α.1 10) + 1)).2 2) ((α.1 10) : Int32).toNatClampNeg (vp_nar .byte (a1).toInt8.toInt32))) 3 (upd ((mSA (mSi α 10 ((α.1 10) + 1)) 2 (upd ((mSi α 10 ((α.1 10) + 1)).2 2) ((α.1 10) : Int32).toNatClampNeg (vp_nar .byte (a1).toInt8.toInt32))).2 3) ((α.1 10) : Int32).toNatClampNeg a2)).2 4) ((α.1 10) : Int32).toNatClampNeg a3)).2 5) ((α.1 10) : Int32).toNatClampNeg a4)) 6 (upd ((mSA (mSA (mSA (mSA (mSi α 10 ((α.1 10) + 1)) 2 (upd ((mSi α 10 ((α.1 10) + 1)).2 2) ((α.1 10) : Int32).toNatClampNeg (vp_nar .byte (a1).toInt8.toInt32))) 3 (upd ((mSA (mSi α 10 ((α.1 10) + 1)) 2 (upd ((mSi α 10 ((α.1 10) + 1)).2 2) ((α.1 10) : Int32).toNatClampNeg (vp_nar .byte (a1).toInt8.toInt32))).2 3) ((α.1 10) : Int32).toNatClampNeg a2)) 4 (upd ((mSA (mSA (mSi α 10 ((α.1 10) + 1)) 2 (upd ((mSi α 10 ((α.1 10) + 1)).2 2) ((α.1 10) : Int32).toNatClampNeg (vp_nar .byte (a1).toInt8.toInt32))) 3 (upd ((mSA (mSi α 10 ((α.1 10) + 1)) 2 (upd ((mSi α 10 ((α.1 10) + 1)).2 2) ((α.1 10) : Int32).toNatClampNeg (vp_nar .byte (a1).toInt8.toInt32))).2 3) ((α.1 10) : Int32).toNatClampNeg a2)).2 4) ((α.1 10) : Int32).toNatClampNeg a3)) 5 (upd ((mSA (mSA (mSA (mSi α 10 ((α.1 10) + 1)) 2 (upd ((mSi α 10 ((α.1 10) + 1)).2 2) ((α.1 10) : Int32).toNatClampNeg (vp_nar .byte (a1).toInt8.toInt32))) 3 (upd ((mSA (mSi α 10 ((α.1 10) + 1)) 2 (upd ((mSi α 10 ((α.1 10) + 1)).2 2) ((α.1 10) : Int32).toNatClampNeg (vp_nar .byte (a1).toInt8.toInt32))).2 3) ((α.1 10) : Int32).toNatClampNeg a2)) 4 (upd ((mSA (mSA (mSi α 10 ((α.1 10) + 1)) 2 (upd ((mSi α 10 ((α.1 10) + 1)).2 2) ((α.1 10) : Int32).toNatClampNeg (vp_nar .byte (a1).toInt8.toInt32))) 3 (upd ((mSA (mSi α 10 ((α.1 10) + 1)) 2 (upd ((mSi α 10 ((α.1 10) + 1)).2 2) ((α.1 10) : Int32).toNatClampNeg (vp_nar .byte (a1).toInt8.toInt32))).2 3) ((α.1 10) : Int32).toNatClampNeg a2)).2 4) ((α.1 10) : Int32).toNatClampNeg a3)).2 5) ((α.1 10) : Int32).toNatClampNeg a4)).2 6) ((α.1 10) : Int32).toNatClampNeg 1)).2 7) ((α.1 10) : Int32).toNatClampNeg 1)))))))))))))
set_option maxHeartbeats 4000000 in
set_option maxRecDepth 100000 in
theorem k_Mod_node {l : Launch} {g : mG} {α : mS} (N : Nat) (a1 : Int32) (a2 : Int32) (a3 : Int32) (a4 : Int32)  : ∀ x, f_Mod_node N a1 a2 a3 a4 α = some x → mC l g y_Mod_node b_Mod_node 6 (some .int) (43) (1260) [.ref (mad g 0), .int a1, .int a2, .int a3, .int a4] α (mQr x) := by
  intro x h
  unfold f_Mod_node at h
  refine mc_ofW (by decide) (fun A p e s m args below meth c S hr hlocks hno hargs E hI => ?_)
  have hx := S.1
  have hb := S.2.1
  have hown := S.2.2.2.1
  have hT := S.2.2.2.2
  subst hargs
  have hl := lv_entry ([.ref (mad g 0), .int a1, .int a2, .int a3, .int a4]) (n := 6) (Nat.le_of_ble_eq_true rfl)
  rw [lg_entry_eq]
  generalize (lg_sl ([.ref (mad g 0), .int a1, .int a2, .int a3, .int a4]) ++ List.replicate (6 - (lg_sl ([.ref (mad g 0), .int a1, .int a2, .int a3, .int a4])).length) Slot.unset).toArray = ls at hl ⊢
  have hl : lv_has ls 6 [(0, .ref (mad g 0)), (1, .int a1), (2, .int a2), (3, .int a3), (4, .int a4)] := hl
  have J192 : ∀ (y5 : Int32) (t0 : Int32) (t1 : Int32) (t2 : Int32) (t3 : Int32) (t4 : Int32) (γ : mS) (H : Heap) (locs : List Loc) (ls : Array Slot), f_Mod_node_j192 N y5 t0 t1 t2 t3 t4 γ = some x → mI g A s γ H locs → lv_has ls 6 [(5, .int y5)] → W p l e (mR (43) (1260)) s m ([.ref (mad g 0), .int a1, .int a2, .int a3, .int a4]).toArray below meth c H locs 0 0 (vEQ below (mQ g A (mQr x)) ([.ref (mad g 0), .int a1, .int a2, .int a3, .int a4]).toArray s A) (F0 m 192 ls [.int t0, .int t1, .int t2, .int t3, .int t4, .ref (mad g 8)]) := by
    intro y5 t0 t1 t2 t3 t4 γ H locs ls h hI hl
    unfold f_Mod_node_j192 at h
    refine va_mmax (x := t1) (y := t0) hx hb (S.2.2.1.trans hl.1.symm) hown (hT _ vt_1510) (hT _ vt_553) (hT _ vt_317) (hT _ vt_554) (Nat.le_of_ble_eq_true rfl) (Nat.le_of_ble_eq_true rfl) (Nat.zero_le _) (Nat.zero_le _) d_Mod_node_192 ?_
    refine va_mmax (x := t2) (y := (if t1 < t0 then t0 else t1)) hx hb (S.2.2.1.trans hl.1.symm) hown (hT _ vt_1510) (hT _ vt_553) (hT _ vt_317) (hT _ vt_554) (Nat.le_of_ble_eq_true rfl) (Nat.le_of_ble_eq_true rfl) (Nat.zero_le _) (Nat.zero_le _) d_Mod_node_195 ?_
    refine lv_iadd hx hb d_Mod_node_198 ?_
    by_cases c17 : t4 < 0 ∨ 400000 ≤ (t4 : Int32).toNatClampNeg
    · replace h := Eq.trans (if_pos c17).symm h
      cases h
    · replace h := Eq.trans (if_neg c17).symm h
      refine ms_deep S E hI c17 d_Mod_node_199 (fun H locs hI => ?_)
      refine lv_iload hx hb d_Mod_node_200 (lv_at hl 0 rfl) ?_
      exact mc_iret (w := y5) hx hb hr rfl hlocks E hI h d_Mod_node_202
  have J125 : ∀ (y5 : Int32) (y1 : Int32) (y2 : Int32) (y3 : Int32) (y4 : Int32) (t0 : Int32) (t1 : Int32) (t2 : Int32) (t3 : Int32) (γ : mS) (H : Heap) (locs : List Loc) (ls : Array Slot), f_Mod_node_j125 N y5 y1 y2 y3 y4 t0 t1 t2 t3 γ = some x → mI g A s γ H locs → lv_has ls 6 [(5, .int y5), (0, .ref (mad g 0)), (1, .int y1), (2, .int y2), (3, .int y3), (4, .int y4)] → W p l e (mR (43) (1260)) s m ([.ref (mad g 0), .int a1, .int a2, .int a3, .int a4]).toArray below meth c H locs 0 0 (vEQ below (mQ g A (mQr x)) ([.ref (mad g 0), .int a1, .int a2, .int a3, .int a4]).toArray s A) (F0 m 125 ls [.int t0, .int t1, .int t2, .int t3, .ref (mad g 7)]) := by
    intro y5 y1 y2 y3 y4 t0 t1 t2 t3 γ H locs ls h hI hl
    unfold f_Mod_node_j125 at h
    refine lv_iadd hx hb d_Mod_node_125 ?_
    refine va_mmin (x := t2) (y := (t1 + t0)) hx hb (S.2.2.1.trans hl.1.symm) hown (hT _ vt_1509) (hT _ vt_318) (hT _ vt_317) (hT _ vt_319) (Nat.le_of_ble_eq_true rfl) (Nat.le_of_ble_eq_true rfl) (Nat.zero_le _) (Nat.zero_le _) d_Mod_node_126 ?_
    by_cases c12 : t3 < 0 ∨ 400000 ≤ (t3 : Int32).toNatClampNeg
    · replace h := Eq.trans (if_pos c12).symm h
      cases h
    · replace h := Eq.trans (if_neg c12).symm h
      refine ms_big S E hI c12 d_Mod_node_129 (fun H locs hI => ?_)
      refine lv_aload_n hx hb d_Mod_node_130 rfl (lv_at hl 1 rfl) ?_
      refine mf_deep S E hI vt_1284 d_Mod_node_131 ?_
      refine lv_iload hx hb d_Mod_node_134 (lv_at hl 0 rfl) ?_
      refine lv_iload_n hx hb d_Mod_node_136 rfl (lv_at hl 2 rfl) ?_
      refine lv_bipush (v := 8) hx hb d_Mod_node_137 (by decide) ?_
      refine lv_icmp_ne (tgt := 162) hx hb d_Mod_node_139 (by decide) (fun c13 => ?_) (fun c13 => ?_)
      · replace h := Eq.trans (if_neg c13).symm h
        refine lv_iconst (v := 1) hx hb d_Mod_node_162 (by decide) ?_
        refine lv_aload_n hx hb d_Mod_node_163 rfl (lv_at hl 1 rfl) ?_
        refine mf_deep S E hI vt_1284 d_Mod_node_164 ?_
        refine lv_iload_n hx hb d_Mod_node_167 rfl (lv_at hl 3 rfl) ?_
        by_cases c14 : y2 < 0 ∨ 400000 ≤ (y2 : Int32).toNatClampNeg
        · replace h := Eq.trans (if_pos c14).symm h
          cases h
        · replace h := Eq.trans (if_neg c14).symm h
          refine ml_deep S E hI c14 d_Mod_node_168 ?_
          refine lv_aload_n hx hb d_Mod_node_169 rfl (lv_at hl 1 rfl) ?_
          refine mf_deep S E hI vt_1284 d_Mod_node_170 ?_
          refine lv_iload_n hx hb d_Mod_node_173 rfl (lv_at hl 4 rfl) ?_
          by_cases c15 : y3 < 0 ∨ 400000 ≤ (y3 : Int32).toNatClampNeg
          · replace h := Eq.trans (if_pos c15).symm h
            cases h
          · replace h := Eq.trans (if_neg c15).symm h
            refine ml_deep S E hI c15 d_Mod_node_174 ?_
            refine lv_iload_n hx hb d_Mod_node_175 rfl (lv_at hl 2 rfl) ?_
            refine lv_bipush (v := 9) hx hb d_Mod_node_176 (by decide) ?_
            refine lv_icmp_ne (tgt := 191) hx hb d_Mod_node_178 (by decide) (fun c16 => ?_) (fun c16 => ?_)
            · replace h := Eq.trans (if_neg c16).symm h
              refine lv_iconst (v := 0) hx hb d_Mod_node_191 (by decide) ?_
              exact J192 y5 0 ((mSA γ 6 (upd (γ.2 6) (t3 : Int32).toNatClampNeg (if (t1 + t0) < t2 then (t1 + t0) else t2))).2 7 (y3 : Int32).toNatClampNeg) ((mSA γ 6 (upd (γ.2 6) (t3 : Int32).toNatClampNeg (if (t1 + t0) < t2 then (t1 + t0) else t2))).2 7 (y2 : Int32).toNatClampNeg) 1 y5 _ _ _ _ h hI (lv_sub hl [0] rfl)
            · replace h := Eq.trans (if_pos c16).symm h
              refine lv_aload_n hx hb d_Mod_node_181 rfl (lv_at hl 1 rfl) ?_
              refine mf_deep S E hI vt_1284 d_Mod_node_182 ?_
              refine lv_iload hx hb d_Mod_node_185 (lv_at hl 5 rfl) ?_
              by_cases c18 : y4 < 0 ∨ 400000 ≤ (y4 : Int32).toNatClampNeg
              · replace h := Eq.trans (if_pos c18).symm h
                cases h
              · replace h := Eq.trans (if_neg c18).symm h
                refine ml_deep S E hI c18 d_Mod_node_187 ?_
                refine lv_goto (tgt := 192) hx hb d_Mod_node_188 (by decide) ?_
                exact J192 y5 ((mSA γ 6 (upd (γ.2 6) (t3 : Int32).toNatClampNeg (if (t1 + t0) < t2 then (t1 + t0) else t2))).2 7 (y4 : Int32).toNatClampNeg) ((mSA γ 6 (upd (γ.2 6) (t3 : Int32).toNatClampNeg (if (t1 + t0) < t2 then (t1 + t0) else t2))).2 7 (y3 : Int32).toNatClampNeg) ((mSA γ 6 (upd (γ.2 6) (t3 : Int32).toNatClampNeg (if (t1 + t0) < t2 then (t1 + t0) else t2))).2 7 (y2 : Int32).toNatClampNeg) 1 y5 _ _ _ _ h hI (lv_sub hl [0] rfl)
      · replace h := Eq.trans (if_pos c13).symm h
        refine lv_aload_n hx hb d_Mod_node_142 rfl (lv_at hl 1 rfl) ?_
        refine mf_deep S E hI vt_1284 d_Mod_node_143 ?_
        refine lv_iload_n hx hb d_Mod_node_146 rfl (lv_at hl 3 rfl) ?_
        by_cases c19 : y2 < 0 ∨ 400000 ≤ (y2 : Int32).toNatClampNeg
        · replace h := Eq.trans (if_pos c19).symm h
          cases h
        · replace h := Eq.trans (if_neg c19).symm h
          refine ml_deep S E hI c19 d_Mod_node_147 ?_
          refine lv_iconst (v := 1) hx hb d_Mod_node_148 (by decide) ?_
          refine lv_aload_n hx hb d_Mod_node_149 rfl (lv_at hl 1 rfl) ?_
          refine mf_deep S E hI vt_1284 d_Mod_node_150 ?_
          refine lv_iload_n hx hb d_Mod_node_153 rfl (lv_at hl 4 rfl) ?_
          by_cases c20 : y3 < 0 ∨ 400000 ≤ (y3 : Int32).toNatClampNeg
          · replace h := Eq.trans (if_pos c20).symm h
            cases h
          · replace h := Eq.trans (if_neg c20).symm h
            refine ml_deep S E hI c20 d_Mod_node_154 ?_
            refine lv_iadd hx hb d_Mod_node_155 ?_
            refine va_mmax (x := ((mSA γ 6 (upd (γ.2 6) (t3 : Int32).toNatClampNeg (if (t1 + t0) < t2 then (t1 + t0) else t2))).2 7 (y2 : Int32).toNatClampNeg)) (y := (1 + ((mSA γ 6 (upd (γ.2 6) (t3 : Int32).toNatClampNeg (if (t1 + t0) < t2 then (t1 + t0) else t2))).2 7 (y3 : Int32).toNatClampNeg))) hx hb (S.2.2.1.trans hl.1.symm) hown (hT _ vt_1510) (hT _ vt_553) (hT _ vt_317) (hT _ vt_554) (Nat.le_of_ble_eq_true rfl) (Nat.le_of_ble_eq_true rfl) (Nat.zero_le _) (Nat.zero_le _) d_Mod_node_156 ?_
            refine lv_goto (tgt := 199) hx hb d_Mod_node_159 (by decide) ?_
            by_cases c21 : y5 < 0 ∨ 400000 ≤ (y5 : Int32).toNatClampNeg
            · replace h := Eq.trans (if_pos c21).symm h
              cases h
            · replace h := Eq.trans (if_neg c21).symm h
              refine ms_deep S E hI c21 d_Mod_node_199 (fun H locs hI => ?_)
              refine lv_iload hx hb d_Mod_node_200 (lv_at hl 0 rfl) ?_
              exact mc_iret (w := y5) hx hb hr rfl hlocks E hI h d_Mod_node_202
  refine lv_aload_n hx hb d_Mod_node_0 rfl (lv_at hl 0 rfl) ?_
  refine mf_top S E hI vt_1285 d_Mod_node_1 ?_
  refine lv_ldc (v := 400000) hx hb hown (hT _ vt_1278) d_Mod_node_4 ?_
  refine lv_icmp_ne (tgt := 15) hx hb d_Mod_node_6 (by decide) (fun c1 => ?_) (fun c1 => ?_)
  · replace h := Eq.trans (if_neg c1).symm h
    refine lv_aload_n hx hb d_Mod_node_15 rfl (lv_at hl 0 rfl) ?_
    refine lv_dup hx hb d_Mod_node_16 rfl ?_
    refine mf_top S E hI vt_1285 d_Mod_node_17 ?_
    refine lv_dup_x1 hx hb d_Mod_node_20 rfl rfl ?_
    refine lv_iconst (v := 1) hx hb d_Mod_node_21 (by decide) ?_
    refine lv_iadd hx hb d_Mod_node_22 ?_
    refine mp_top S E hI vt_1285 d_Mod_node_23 (fun H locs hI => ?_)
    refine lv_istore (lv' := [(5, .int (α.1 10)), (0, .ref (mad g 0)), (1, .int a1), (2, .int a2), (3, .int a3), (4, .int a4)]) hx hb d_Mod_node_26 hl (by decide) rfl (fun ls hl => ?_)
    refine lv_aload_n hx hb d_Mod_node_28 rfl (lv_at hl 1 rfl) ?_
    refine mf_kind S E hI vt_1279 d_Mod_node_29 ?_
    refine lv_iload hx hb d_Mod_node_32 (lv_at hl 0 rfl) ?_
    refine lv_iload_n hx hb d_Mod_node_34 rfl (lv_at hl 2 rfl) ?_
    refine lv_i2b (v := (a1).toInt8.toInt32) hx hb d_Mod_node_35 rfl ?_
    by_cases c2 : (α.1 10) < 0 ∨ 400000 ≤ ((α.1 10) : Int32).toNatClampNeg
    · replace h := Eq.trans (if_pos c2).symm h
      cases h
    · replace h := Eq.trans (if_neg c2).symm h
      refine ms_kind S E hI c2 d_Mod_node_36 (fun H locs hI => ?_)
      refine lv_aload_n hx hb d_Mod_node_37 rfl (lv_at hl 1 rfl) ?_
      refine mf_one S E hI vt_1280 d_Mod_node_38 ?_
      refine lv_iload hx hb d_Mod_node_41 (lv_at hl 0 rfl) ?_
      refine lv_iload_n hx hb d_Mod_node_43 rfl (lv_at hl 3 rfl) ?_
      by_cases c3 : (α.1 10) < 0 ∨ 400000 ≤ ((α.1 10) : Int32).toNatClampNeg
      · replace h := Eq.trans (if_pos c3).symm h
        cases h
      · replace h := Eq.trans (if_neg c3).symm h
        refine ms_one S E hI c3 d_Mod_node_44 (fun H locs hI => ?_)
        refine lv_aload_n hx hb d_Mod_node_45 rfl (lv_at hl 1 rfl) ?_
        refine mf_two S E hI vt_1281 d_Mod_node_46 ?_
        refine lv_iload hx hb d_Mod_node_49 (lv_at hl 0 rfl) ?_
        refine lv_iload_n hx hb d_Mod_node_51 rfl (lv_at hl 4 rfl) ?_
        by_cases c4 : (α.1 10) < 0 ∨ 400000 ≤ ((α.1 10) : Int32).toNatClampNeg
        · replace h := Eq.trans (if_pos c4).symm h
          cases h
        · replace h := Eq.trans (if_neg c4).symm h
          refine ms_two S E hI c4 d_Mod_node_52 (fun H locs hI => ?_)
          refine lv_aload_n hx hb d_Mod_node_53 rfl (lv_at hl 1 rfl) ?_
          refine mf_three S E hI vt_1282 d_Mod_node_54 ?_
          refine lv_iload hx hb d_Mod_node_57 (lv_at hl 0 rfl) ?_
          refine lv_iload hx hb d_Mod_node_59 (lv_at hl 5 rfl) ?_
          by_cases c5 : (α.1 10) < 0 ∨ 400000 ≤ ((α.1 10) : Int32).toNatClampNeg
          · replace h := Eq.trans (if_pos c5).symm h
            cases h
          · replace h := Eq.trans (if_neg c5).symm h
            refine ms_three S E hI c5 d_Mod_node_61 (fun H locs hI => ?_)
            refine lv_aload_n hx hb d_Mod_node_62 rfl (lv_at hl 1 rfl) ?_
            refine mf_big S E hI vt_1283 d_Mod_node_63 ?_
            refine lv_iload hx hb d_Mod_node_66 (lv_at hl 0 rfl) ?_
            refine lv_iconst (v := 1) hx hb d_Mod_node_68 (by decide) ?_
            by_cases c6 : (α.1 10) < 0 ∨ 400000 ≤ ((α.1 10) : Int32).toNatClampNeg
            · replace h := Eq.trans (if_pos c6).symm h
              cases h
            · replace h := Eq.trans (if_neg c6).symm h
              refine ms_big S E hI c6 d_Mod_node_69 (fun H locs hI => ?_)
              refine lv_aload_n hx hb d_Mod_node_70 rfl (lv_at hl 1 rfl) ?_
              refine mf_deep S E hI vt_1284 d_Mod_node_71 ?_
              refine lv_iload hx hb d_Mod_node_74 (lv_at hl 0 rfl) ?_
              refine lv_iconst (v := 1) hx hb d_Mod_node_76 (by decide) ?_
              by_cases c7 : (α.1 10) < 0 ∨ 400000 ≤ ((α.1 10) : Int32).toNatClampNeg
              · replace h := Eq.trans (if_pos c7).symm h
                cases h
              · replace h := Eq.trans (if_neg c7).symm h
                refine ms_deep S E hI c7 d_Mod_node_77 (fun H locs hI => ?_)
                refine lv_iload_n hx hb d_Mod_node_78 rfl (lv_at hl 2 rfl) ?_
                refine lv_bipush (v := 6) hx hb d_Mod_node_79 (by decide) ?_
                refine lv_icmp_lt (tgt := 200) hx hb d_Mod_node_81 (by decide) (fun c8 => ?_) (fun c8 => ?_)
                · replace h := Eq.trans (if_pos c8).symm h
                  refine lv_iload hx hb d_Mod_node_200 (lv_at hl 0 rfl) ?_
                  exact mc_iret (w := (α.1 10)) hx hb hr rfl hlocks E hI h d_Mod_node_202
                · replace h := Eq.trans (if_neg c8).symm h
                  refine lv_aload_n hx hb d_Mod_node_84 rfl (lv_at hl 1 rfl) ?_
                  refine mf_big S E hI vt_1283 d_Mod_node_85 ?_
                  refine lv_iload hx hb d_Mod_node_88 (lv_at hl 0 rfl) ?_
                  refine lv_ldcw (v := 1000000) hx hb hown (hT _ vt_1508) d_Mod_node_90 ?_
                  refine lv_iconst (v := 1) hx hb d_Mod_node_93 (by decide) ?_
                  refine lv_aload_n hx hb d_Mod_node_94 rfl (lv_at hl 1 rfl) ?_
                  refine mf_big S E hI vt_1283 d_Mod_node_95 ?_
                  refine lv_iload_n hx hb d_Mod_node_98 rfl (lv_at hl 3 rfl) ?_
                  by_cases c9 : a2 < 0 ∨ 400000 ≤ (a2 : Int32).toNatClampNeg
                  · replace h := Eq.trans (if_pos c9).symm h
                    cases h
                  · replace h := Eq.trans (if_neg c9).symm h
                    refine ml_big S E hI c9 d_Mod_node_99 ?_
                    refine lv_iadd hx hb d_Mod_node_100 ?_
                    refine lv_aload_n hx hb d_Mod_node_101 rfl (lv_at hl 1 rfl) ?_
                    refine mf_big S E hI vt_1283 d_Mod_node_102 ?_
                    refine lv_iload_n hx hb d_Mod_node_105 rfl (lv_at hl 4 rfl) ?_
                    by_cases c10 : a3 < 0 ∨ 400000 ≤ (a3 : Int32).toNatClampNeg
                    · replace h := Eq.trans (if_pos c10).symm h
                      cases h
                    · replace h := Eq.trans (if_neg c10).symm h
                      refine ml_big S E hI c10 d_Mod_node_106 ?_
                      refine lv_iadd hx hb d_Mod_node_107 ?_
                      refine lv_iload_n hx hb d_Mod_node_108 rfl (lv_at hl 2 rfl) ?_
                      refine lv_bipush (v := 9) hx hb d_Mod_node_109 (by decide) ?_
                      refine lv_icmp_ne (tgt := 124) hx hb d_Mod_node_111 (by decide) (fun c11 => ?_) (fun c11 => ?_)
                      · replace h := Eq.trans (if_neg c11).symm h
                        refine lv_iconst (v := 0) hx hb d_Mod_node_124 (by decide) ?_
                        exact J125 (α.1 10) a1 a2 a3 a4 0 ((1 + ((mSA (mSA (mSA (mSA (mSA (mSA (mSi α 10 ((α.1 10) + 1)) 2 (upd ((mSi α 10 ((α.1 10) + 1)).2 2) ((α.1 10) : Int32).toNatClampNeg (vp_nar .byte (a1).toInt8.toInt32))) 3 (upd ((mSA (mSi α 10 ((α.1 10) + 1)) 2 (upd ((mSi α 10 ((α.1 10) + 1)).2 2) ((α.1 10) : Int32).toNatClampNeg (vp_nar .byte (a1).toInt8.toInt32))).2 3) ((α.1 10) : Int32).toNatClampNeg a2)) 4 (upd ((mSA (mSA (mSi α 10 ((α.1 10) + 1)) 2 (upd ((mSi α 10 ((α.1 10) + 1)).2 2) ((α.1 10) : Int32).toNatClampNeg (vp_nar .byte (a1).toInt8.toInt32))) 3 (upd ((mSA (mSi α 10 ((α.1 10) + 1)) 2 (upd ((mSi α 10 ((α.1 10) + 1)).2 2) ((α.1 10) : Int32).toNatClampNeg (vp_nar .byte (a1).toInt8.toInt32))).2 3) ((α.1 10) : Int32).toNatClampNeg a2)).2 4) ((α.1 10) : Int32).toNatClampNeg a3)) 5 (upd ((mSA (mSA (mSA (mSi α 10 ((α.1 10) + 1)) 2 (upd ((mSi α 10 ((α.1 10) + 1)).2 2) ((α.1 10) : Int32).toNatClampNeg (vp_nar .byte (a1).toInt8.toInt32))) 3 (upd ((mSA (mSi α 10 ((α.1 10) + 1)) 2 (upd ((mSi α 10 ((α.1 10) + 1)).2 2) ((α.1 10) : Int32).toNatClampNeg (vp_nar .byte (a1).toInt8.toInt32))).2 3) ((α.1 10) : Int32).toNatClampNeg a2)) 4 (upd ((mSA (mSA (mSi α 10 ((α.1 10) + 1)) 2 (upd ((mSi α 10 ((α.1 10) + 1)).2 2) ((α.1 10) : Int32).toNatClampNeg (vp_nar .byte (a1).toInt8.toInt32))) 3 (upd ((mSA (mSi α 10 ((α.1 10) + 1)) 2 (upd ((mSi α 10 ((α.1 10) + 1)).2 2) ((α.1 10) : Int32).toNatClampNeg (vp_nar .byte (a1).toInt8.toInt32))).2 3) ((α.1 10) : Int32).toNatClampNeg a2)).2 4) ((α.1 10) : Int32).toNatClampNeg a3)).2 5) ((α.1 10) : Int32).toNatClampNeg a4)) 6 (upd ((mSA (mSA (mSA (mSA (mSi α 10 ((α.1 10) + 1)) 2 (upd ((mSi α 10 ((α.1 10) + 1)).2 2) ((α.1 10) : Int32).toNatClampNeg (vp_nar .byte (a1).toInt8.toInt32))) 3 (upd ((mSA (mSi α 10 ((α.1 10) + 1)) 2 (upd ((mSi α 10 ((α.1 10) + 1)).2 2) ((α.1 10) : Int32).toNatClampNeg (vp_nar .byte (a1).toInt8.toInt32))).2 3) ((α.1 10) : Int32).toNatClampNeg a2)) 4 (upd ((mSA (mSA (mSi α 10 ((α.1 10) + 1)) 2 (upd ((mSi α 10 ((α.1 10) + 1)).2 2) ((α.1 10) : Int32).toNatClampNeg (vp_nar .byte (a1).toInt8.toInt32))) 3 (upd ((mSA (mSi α 10 ((α.1 10) + 1)) 2 (upd ((mSi α 10 ((α.1 10) + 1)).2 2) ((α.1 10) : Int32).toNatClampNeg (vp_nar .byte (a1).toInt8.toInt32))).2 3) ((α.1 10) : Int32).toNatClampNeg a2)).2 4) ((α.1 10) : Int32).toNatClampNeg a3)) 5 (upd ((mSA (mSA (mSA (mSi α 10 ((α.1 10) + 1)) 2 (upd ((mSi α 10 ((α.1 10) + 1)).2 2) ((α.1 10) : Int32).toNatClampNeg (vp_nar .byte (a1).toInt8.toInt32))) 3 (upd ((mSA (mSi α 10 ((α.1 10) + 1)) 2 (upd ((mSi α 10 ((α.1 10) + 1)).2 2) ((α.1 10) : Int32).toNatClampNeg (vp_nar .byte (a1).toInt8.toInt32))).2 3) ((α.1 10) : Int32).toNatClampNeg a2)) 4 (upd ((mSA (mSA (mSi α 10 ((α.1 10) + 1)) 2 (upd ((mSi α 10 ((α.1 10) + 1)).2 2) ((α.1 10) : Int32).toNatClampNeg (vp_nar .byte (a1).toInt8.toInt32))) 3 (upd ((mSA (mSi α 10 ((α.1 10) + 1)) 2 (upd ((mSi α 10 ((α.1 10) + 1)).2 2) ((α.1 10) : Int32).toNatClampNeg (vp_nar .byte (a1).toInt8.toInt32))).2 3) ((α.1 10) : Int32).toNatClampNeg a2)).2 4) ((α.1 10) : Int32).toNatClampNeg a3)).2 5) ((α.1 10) : Int32).toNatClampNeg a4)).2 6) ((α.1 10) : Int32).toNatClampNeg 1)) 7 (upd ((mSA (mSA (mSA (mSA (mSA (mSi α 10 ((α.1 10) + 1)) 2 (upd ((mSi α 10 ((α.1 10) + 1)).2 2) ((α.1 10) : Int32).toNatClampNeg (vp_nar .byte (a1).toInt8.toInt32))) 3 (upd ((mSA (mSi α 10 ((α.1 10) + 1)) 2 (upd ((mSi α 10 ((α.1 10) + 1)).2 2) ((α.1 10) : Int32).toNatClampNeg (vp_nar .byte (a1).toInt8.toInt32))).2 3) ((α.1 10) : Int32).toNatClampNeg a2)) 4 (upd ((mSA (mSA (mSi α 10 ((α.1 10) + 1)) 2 (upd ((mSi α 10 ((α.1 10) + 1)).2 2) ((α.1 10) : Int32).toNatClampNeg (vp_nar .byte (a1).toInt8.toInt32))) 3 (upd ((mSA (mSi α 10 ((α.1 10) + 1)) 2 (upd ((mSi α 10 ((α.1 10) + 1)).2 2) ((α.1 10) : Int32).toNatClampNeg (vp_nar .byte (a1).toInt8.toInt32))).2 3) ((α.1 10) : Int32).toNatClampNeg a2)).2 4) ((α.1 10) : Int32).toNatClampNeg a3)) 5 (upd ((mSA (mSA (mSA (mSi α 10 ((α.1 10) + 1)) 2 (upd ((mSi α 10 ((α.1 10) + 1)).2 2) ((α.1 10) : Int32).toNatClampNeg (vp_nar .byte (a1).toInt8.toInt32))) 3 (upd ((mSA (mSi α 10 ((α.1 10) + 1)) 2 (upd ((mSi α 10 ((α.1 10) + 1)).2 2) ((α.1 10) : Int32).toNatClampNeg (vp_nar .byte (a1).toInt8.toInt32))).2 3) ((α.1 10) : Int32).toNatClampNeg a2)) 4 (upd ((mSA (mSA (mSi α 10 ((α.1 10) + 1)) 2 (upd ((mSi α 10 ((α.1 10) + 1)).2 2) ((α.1 10) : Int32).toNatClampNeg (vp_nar .byte (a1).toInt8.toInt32))) 3 (upd ((mSA (mSi α 10 ((α.1 10) + 1)) 2 (upd ((mSi α 10 ((α.1 10) + 1)).2 2) ((α.1 10) : Int32).toNatClampNeg (vp_nar .byte (a1).toInt8.toInt32))).2 3) ((α.1 10) : Int32).toNatClampNeg a2)).2 4) ((α.1 10) : Int32).toNatClampNeg a3)).2 5) ((α.1 10) : Int32).toNatClampNeg a4)) 6 (upd ((mSA (mSA (mSA (mSA (mSi α 10 ((α.1 10) + 1)) 2 (upd ((mSi α 10 ((α.1 10) + 1)).2 2) ((α.1 10) : Int32).toNatClampNeg (vp_nar .byte (a1).toInt8.toInt32))) 3 (upd ((mSA (mSi α 10 ((α.1 10) + 1)) 2 (upd ((mSi α 10 ((α.1 10) + 1)).2 2) ((α.1 10) : Int32).toNatClampNeg (vp_nar .byte (a1).toInt8.toInt32))).2 3) ((α.1 10) : Int32).toNatClampNeg a2)) 4 (upd ((mSA (mSA (mSi α 10 ((α.1 10) + 1)) 2 (upd ((mSi α 10 ((α.1 10) + 1)).2 2) ((α.1 10) : Int32).toNatClampNeg (vp_nar .byte (a1).toInt8.toInt32))) 3 (upd ((mSA (mSi α 10 ((α.1 10) + 1)) 2 (upd ((mSi α 10 ((α.1 10) + 1)).2 2) ((α.1 10) : Int32).toNatClampNeg (vp_nar .byte (a1).toInt8.toInt32))).2 3) ((α.1 10) : Int32).toNatClampNeg a2)).2 4) ((α.1 10) : Int32).toNatClampNeg a3)) 5 (upd ((mSA (mSA (mSA (mSi α 10 ((α.1 10) + 1)) 2 (upd ((mSi α 10 ((α.1 10) + 1)).2 2) ((α.1 10) : Int32).toNatClampNeg (vp_nar .byte (a1).toInt8.toInt32))) 3 (upd ((mSA (mSi α 10 ((α.1 10) + 1)) 2 (upd ((mSi α 10 ((α.1 10) + 1)).2 2) ((α.1 10) : Int32).toNatClampNeg (vp_nar .byte (a1).toInt8.toInt32))).2 3) ((α.1 10) : Int32).toNatClampNeg a2)) 4 (upd ((mSA (mSA (mSi α 10 ((α.1 10) + 1)) 2 (upd ((mSi α 10 ((α.1 10) + 1)).2 2) ((α.1 10) : Int32).toNatClampNeg (vp_nar .byte (a1).toInt8.toInt32))) 3 (upd ((mSA (mSi α 10 ((α.1 10) + 1)) 2 (upd ((mSi α 10 ((α.1 10) + 1)).2 2) ((α.1 10) : Int32).toNatClampNeg (vp_nar .byte (a1).toInt8.toInt32))).2 3) ((α.1 10) : Int32).toNatClampNeg a2)).2 4) ((α.1 10) : Int32).toNatClampNeg a3)).2 5) ((α.1 10) : Int32).toNatClampNeg a4)).2 6) ((α.1 10) : Int32).toNatClampNeg 1)).2 7) ((α.1 10) : Int32).toNatClampNeg 1)).2 6 (a2 : Int32).toNatClampNeg)) + ((mSA (mSA (mSA (mSA (mSA (mSA (mSi α 10 ((α.1 10) + 1)) 2 (upd ((mSi α 10 ((α.1 10) + 1)).2 2) ((α.1 10) : Int32).toNatClampNeg (vp_nar .byte (a1).toInt8.toInt32))) 3 (upd ((mSA (mSi α 10 ((α.1 10) + 1)) 2 (upd ((mSi α 10 ((α.1 10) + 1)).2 2) ((α.1 10) : Int32).toNatClampNeg (vp_nar .byte (a1).toInt8.toInt32))).2 3) ((α.1 10) : Int32).toNatClampNeg a2)) 4 (upd ((mSA (mSA (mSi α 10 ((α.1 10) + 1)) 2 (upd ((mSi α 10 ((α.1 10) + 1)).2 2) ((α.1 10) : Int32).toNatClampNeg (vp_nar .byte (a1).toInt8.toInt32))) 3 (upd ((mSA (mSi α 10 ((α.1 10) + 1)) 2 (upd ((mSi α 10 ((α.1 10) + 1)).2 2) ((α.1 10) : Int32).toNatClampNeg (vp_nar .byte (a1).toInt8.toInt32))).2 3) ((α.1 10) : Int32).toNatClampNeg a2)).2 4) ((α.1 10) : Int32).toNatClampNeg a3)) 5 (upd ((mSA (mSA (mSA (mSi α 10 ((α.1 10) + 1)) 2 (upd ((mSi α 10 ((α.1 10) + 1)).2 2) ((α.1 10) : Int32).toNatClampNeg (vp_nar .byte (a1).toInt8.toInt32))) 3 (upd ((mSA (mSi α 10 ((α.1 10) + 1)) 2 (upd ((mSi α 10 ((α.1 10) + 1)).2 2) ((α.1 10) : Int32).toNatClampNeg (vp_nar .byte (a1).toInt8.toInt32))).2 3) ((α.1 10) : Int32).toNatClampNeg a2)) 4 (upd ((mSA (mSA (mSi α 10 ((α.1 10) + 1)) 2 (upd ((mSi α 10 ((α.1 10) + 1)).2 2) ((α.1 10) : Int32).toNatClampNeg (vp_nar .byte (a1).toInt8.toInt32))) 3 (upd ((mSA (mSi α 10 ((α.1 10) + 1)) 2 (upd ((mSi α 10 ((α.1 10) + 1)).2 2) ((α.1 10) : Int32).toNatClampNeg (vp_nar .byte (a1).toInt8.toInt32))).2 3) ((α.1 10) : Int32).toNatClampNeg a2)).2 4) ((α.1 10) : Int32).toNatClampNeg a3)).2 5) ((α.1 10) : Int32).toNatClampNeg a4)) 6 (upd ((mSA (mSA (mSA (mSA (mSi α 10 ((α.1 10) + 1)) 2 (upd ((mSi α 10 ((α.1 10) + 1)).2 2) ((α.1 10) : Int32).toNatClampNeg (vp_nar .byte (a1).toInt8.toInt32))) 3 (upd ((mSA (mSi α 10 ((α.1 10) + 1)) 2 (upd ((mSi α 10 ((α.1 10) + 1)).2 2) ((α.1 10) : Int32).toNatClampNeg (vp_nar .byte (a1).toInt8.toInt32))).2 3) ((α.1 10) : Int32).toNatClampNeg a2)) 4 (upd ((mSA (mSA (mSi α 10 ((α.1 10) + 1)) 2 (upd ((mSi α 10 ((α.1 10) + 1)).2 2) ((α.1 10) : Int32).toNatClampNeg (vp_nar .byte (a1).toInt8.toInt32))) 3 (upd ((mSA (mSi α 10 ((α.1 10) + 1)) 2 (upd ((mSi α 10 ((α.1 10) + 1)).2 2) ((α.1 10) : Int32).toNatClampNeg (vp_nar .byte (a1).toInt8.toInt32))).2 3) ((α.1 10) : Int32).toNatClampNeg a2)).2 4) ((α.1 10) : Int32).toNatClampNeg a3)) 5 (upd ((mSA (mSA (mSA (mSi α 10 ((α.1 10) + 1)) 2 (upd ((mSi α 10 ((α.1 10) + 1)).2 2) ((α.1 10) : Int32).toNatClampNeg (vp_nar .byte (a1).toInt8.toInt32))) 3 (upd ((mSA (mSi α 10 ((α.1 10) + 1)) 2 (upd ((mSi α 10 ((α.1 10) + 1)).2 2) ((α.1 10) : Int32).toNatClampNeg (vp_nar .byte (a1).toInt8.toInt32))).2 3) ((α.1 10) : Int32).toNatClampNeg a2)) 4 (upd ((mSA (mSA (mSi α 10 ((α.1 10) + 1)) 2 (upd ((mSi α 10 ((α.1 10) + 1)).2 2) ((α.1 10) : Int32).toNatClampNeg (vp_nar .byte (a1).toInt8.toInt32))) 3 (upd ((mSA (mSi α 10 ((α.1 10) + 1)) 2 (upd ((mSi α 10 ((α.1 10) + 1)).2 2) ((α.1 10) : Int32).toNatClampNeg (vp_nar .byte (a1).toInt8.toInt32))).2 3) ((α.1 10) : Int32).toNatClampNeg a2)).2 4) ((α.1 10) : Int32).toNatClampNeg a3)).2 5) ((α.1 10) : Int32).toNatClampNeg a4)).2 6) ((α.1 10) : Int32).toNatClampNeg 1)) 7 (upd ((mSA (mSA (mSA (mSA (mSA (mSi α 10 ((α.1 10) + 1)) 2 (upd ((mSi α 10 ((α.1 10) + 1)).2 2) ((α.1 10) : Int32).toNatClampNeg (vp_nar .byte (a1).toInt8.toInt32))) 3 (upd ((mSA (mSi α 10 ((α.1 10) + 1)) 2 (upd ((mSi α 10 ((α.1 10) + 1)).2 2) ((α.1 10) : Int32).toNatClampNeg (vp_nar .byte (a1).toInt8.toInt32))).2 3) ((α.1 10) : Int32).toNatClampNeg a2)) 4 (upd ((mSA (mSA (mSi α 10 ((α.1 10) + 1)) 2 (upd ((mSi α 10 ((α.1 10) + 1)).2 2) ((α.1 10) : Int32).toNatClampNeg (vp_nar .byte (a1).toInt8.toInt32))) 3 (upd ((mSA (mSi α 10 ((α.1 10) + 1)) 2 (upd ((mSi α 10 ((α.1 10) + 1)).2 2) ((α.1 10) : Int32).toNatClampNeg (vp_nar .byte (a1).toInt8.toInt32))).2 3) ((α.1 10) : Int32).toNatClampNeg a2)).2 4) ((α.1 10) : Int32).toNatClampNeg a3)) 5 (upd ((mSA (mSA (mSA (mSi α 10 ((α.1 10) + 1)) 2 (upd ((mSi α 10 ((α.1 10) + 1)).2 2) ((α.1 10) : Int32).toNatClampNeg (vp_nar .byte (a1).toInt8.toInt32))) 3 (upd ((mSA (mSi α 10 ((α.1 10) + 1)) 2 (upd ((mSi α 10 ((α.1 10) + 1)).2 2) ((α.1 10) : Int32).toNatClampNeg (vp_nar .byte (a1).toInt8.toInt32))).2 3) ((α.1 10) : Int32).toNatClampNeg a2)) 4 (upd ((mSA (mSA (mSi α 10 ((α.1 10) + 1)) 2 (upd ((mSi α 10 ((α.1 10) + 1)).2 2) ((α.1 10) : Int32).toNatClampNeg (vp_nar .byte (a1).toInt8.toInt32))) 3 (upd ((mSA (mSi α 10 ((α.1 10) + 1)) 2 (upd ((mSi α 10 ((α.1 10) + 1)).2 2) ((α.1 10) : Int32).toNatClampNeg (vp_nar .byte (a1).toInt8.toInt32))).2 3) ((α.1 10) : Int32).toNatClampNeg a2)).2 4) ((α.1 10) : Int32).toNatClampNeg a3)).2 5) ((α.1 10) : Int32).toNatClampNeg a4)) 6 (upd ((mSA (mSA (mSA (mSA (mSi α 10 ((α.1 10) + 1)) 2 (upd ((mSi α 10 ((α.1 10) + 1)).2 2) ((α.1 10) : Int32).toNatClampNeg (vp_nar .byte (a1).toInt8.toInt32))) 3 (upd ((mSA (mSi α 10 ((α.1 10) + 1)) 2 (upd ((mSi α 10 ((α.1 10) + 1)).2 2) ((α.1 10) : Int32).toNatClampNeg (vp_nar .byte (a1).toInt8.toInt32))).2 3) ((α.1 10) : Int32).toNatClampNeg a2)) 4 (upd ((mSA (mSA (mSi α 10 ((α.1 10) + 1)) 2 (upd ((mSi α 10 ((α.1 10) + 1)).2 2) ((α.1 10) : Int32).toNatClampNeg (vp_nar .byte (a1).toInt8.toInt32))) 3 (upd ((mSA (mSi α 10 ((α.1 10) + 1)) 2 (upd ((mSi α 10 ((α.1 10) + 1)).2 2) ((α.1 10) : Int32).toNatClampNeg (vp_nar .byte (a1).toInt8.toInt32))).2 3) ((α.1 10) : Int32).toNatClampNeg a2)).2 4) ((α.1 10) : Int32).toNatClampNeg a3)) 5 (upd ((mSA (mSA (mSA (mSi α 10 ((α.1 10) + 1)) 2 (upd ((mSi α 10 ((α.1 10) + 1)).2 2) ((α.1 10) : Int32).toNatClampNeg (vp_nar .byte (a1).toInt8.toInt32))) 3 (upd ((mSA (mSi α 10 ((α.1 10) + 1)) 2 (upd ((mSi α 10 ((α.1 10) + 1)).2 2) ((α.1 10) : Int32).toNatClampNeg (vp_nar .byte (a1).toInt8.toInt32))).2 3) ((α.1 10) : Int32).toNatClampNeg a2)) 4 (upd ((mSA (mSA (mSi α 10 ((α.1 10) + 1)) 2 (upd ((mSi α 10 ((α.1 10) + 1)).2 2) ((α.1 10) : Int32).toNatClampNeg (vp_nar .byte (a1).toInt8.toInt32))) 3 (upd ((mSA (mSi α 10 ((α.1 10) + 1)) 2 (upd ((mSi α 10 ((α.1 10) + 1)).2 2) ((α.1 10) : Int32).toNatClampNeg (vp_nar .byte (a1).toInt8.toInt32))).2 3) ((α.1 10) : Int32).toNatClampNeg a2)).2 4) ((α.1 10) : Int32).toNatClampNeg a3)).2 5) ((α.1 10) : Int32).toNatClampNeg a4)).2 6) ((α.1 10) : Int32).toNatClampNeg 1)).2 7) ((α.1 10) : Int32).toNatClampNeg 1)).2 6 (a3 : Int32).toNatClampNeg)) 1000000 (α.1 10) _ _ _ _ h hI (lv_sub hl [0, 1, 2, 3, 4, 5] rfl)
                      · replace h := Eq.trans (if_pos c11).symm h
                        refine lv_aload_n hx hb d_Mod_node_114 rfl (lv_at hl 1 rfl) ?_
                        refine mf_big S E hI vt_1283 d_Mod_node_115 ?_
                        refine lv_iload hx hb d_Mod_node_118 (lv_at hl 5 rfl) ?_
                        by_cases c22 : a4 < 0 ∨ 400000 ≤ (a4 : Int32).toNatClampNeg
                        · replace h := Eq.trans (if_pos c22).symm h
                          cases h
                        · replace h := Eq.trans (if_neg c22).symm h
                          refine ml_big S E hI c22 d_Mod_node_120 ?_
                          refine lv_goto (tgt := 125) hx hb d_Mod_node_121 (by decide) ?_
                          exact J125 (α.1 10) a1 a2 a3 a4 ((mSA (mSA (mSA (mSA (mSA (mSA (mSi α 10 ((α.1 10) + 1)) 2 (upd ((mSi α 10 ((α.1 10) + 1)).2 2) ((α.1 10) : Int32).toNatClampNeg (vp_nar .byte (a1).toInt8.toInt32))) 3 (upd ((mSA (mSi α 10 ((α.1 10) + 1)) 2 (upd ((mSi α 10 ((α.1 10) + 1)).2 2) ((α.1 10) : Int32).toNatClampNeg (vp_nar .byte (a1).toInt8.toInt32))).2 3) ((α.1 10) : Int32).toNatClampNeg a2)) 4 (upd ((mSA (mSA (mSi α 10 ((α.1 10) + 1)) 2 (upd ((mSi α 10 ((α.1 10) + 1)).2 2) ((α.1 10) : Int32).toNatClampNeg (vp_nar .byte (a1).toInt8.toInt32))) 3 (upd ((mSA (mSi α 10 ((α.1 10) + 1)) 2 (upd ((mSi α 10 ((α.1 10) + 1)).2 2) ((α.1 10) : Int32).toNatClampNeg (vp_nar .byte (a1).toInt8.toInt32))).2 3) ((α.1 10) : Int32).toNatClampNeg a2)).2 4) ((α.1 10) : Int32).toNatClampNeg a3)) 5 (upd ((mSA (mSA (mSA (mSi α 10 ((α.1 10) + 1)) 2 (upd ((mSi α 10 ((α.1 10) + 1)).2 2) ((α.1 10) : Int32).toNatClampNeg (vp_nar .byte (a1).toInt8.toInt32))) 3 (upd ((mSA (mSi α 10 ((α.1 10) + 1)) 2 (upd ((mSi α 10 ((α.1 10) + 1)).2 2) ((α.1 10) : Int32).toNatClampNeg (vp_nar .byte (a1).toInt8.toInt32))).2 3) ((α.1 10) : Int32).toNatClampNeg a2)) 4 (upd ((mSA (mSA (mSi α 10 ((α.1 10) + 1)) 2 (upd ((mSi α 10 ((α.1 10) + 1)).2 2) ((α.1 10) : Int32).toNatClampNeg (vp_nar .byte (a1).toInt8.toInt32))) 3 (upd ((mSA (mSi α 10 ((α.1 10) + 1)) 2 (upd ((mSi α 10 ((α.1 10) + 1)).2 2) ((α.1 10) : Int32).toNatClampNeg (vp_nar .byte (a1).toInt8.toInt32))).2 3) ((α.1 10) : Int32).toNatClampNeg a2)).2 4) ((α.1 10) : Int32).toNatClampNeg a3)).2 5) ((α.1 10) : Int32).toNatClampNeg a4)) 6 (upd ((mSA (mSA (mSA (mSA (mSi α 10 ((α.1 10) + 1)) 2 (upd ((mSi α 10 ((α.1 10) + 1)).2 2) ((α.1 10) : Int32).toNatClampNeg (vp_nar .byte (a1).toInt8.toInt32))) 3 (upd ((mSA (mSi α 10 ((α.1 10) + 1)) 2 (upd ((mSi α 10 ((α.1 10) + 1)).2 2) ((α.1 10) : Int32).toNatClampNeg (vp_nar .byte (a1).toInt8.toInt32))).2 3) ((α.1 10) : Int32).toNatClampNeg a2)) 4 (upd ((mSA (mSA (mSi α 10 ((α.1 10) + 1)) 2 (upd ((mSi α 10 ((α.1 10) + 1)).2 2) ((α.1 10) : Int32).toNatClampNeg (vp_nar .byte (a1).toInt8.toInt32))) 3 (upd ((mSA (mSi α 10 ((α.1 10) + 1)) 2 (upd ((mSi α 10 ((α.1 10) + 1)).2 2) ((α.1 10) : Int32).toNatClampNeg (vp_nar .byte (a1).toInt8.toInt32))).2 3) ((α.1 10) : Int32).toNatClampNeg a2)).2 4) ((α.1 10) : Int32).toNatClampNeg a3)) 5 (upd ((mSA (mSA (mSA (mSi α 10 ((α.1 10) + 1)) 2 (upd ((mSi α 10 ((α.1 10) + 1)).2 2) ((α.1 10) : Int32).toNatClampNeg (vp_nar .byte (a1).toInt8.toInt32))) 3 (upd ((mSA (mSi α 10 ((α.1 10) + 1)) 2 (upd ((mSi α 10 ((α.1 10) + 1)).2 2) ((α.1 10) : Int32).toNatClampNeg (vp_nar .byte (a1).toInt8.toInt32))).2 3) ((α.1 10) : Int32).toNatClampNeg a2)) 4 (upd ((mSA (mSA (mSi α 10 ((α.1 10) + 1)) 2 (upd ((mSi α 10 ((α.1 10) + 1)).2 2) ((α.1 10) : Int32).toNatClampNeg (vp_nar .byte (a1).toInt8.toInt32))) 3 (upd ((mSA (mSi α 10 ((α.1 10) + 1)) 2 (upd ((mSi α 10 ((α.1 10) + 1)).2 2) ((α.1 10) : Int32).toNatClampNeg (vp_nar .byte (a1).toInt8.toInt32))).2 3) ((α.1 10) : Int32).toNatClampNeg a2)).2 4) ((α.1 10) : Int32).toNatClampNeg a3)).2 5) ((α.1 10) : Int32).toNatClampNeg a4)).2 6) ((α.1 10) : Int32).toNatClampNeg 1)) 7 (upd ((mSA (mSA (mSA (mSA (mSA (mSi α 10 ((α.1 10) + 1)) 2 (upd ((mSi α 10 ((α.1 10) + 1)).2 2) ((α.1 10) : Int32).toNatClampNeg (vp_nar .byte (a1).toInt8.toInt32))) 3 (upd ((mSA (mSi α 10 ((α.1 10) + 1)) 2 (upd ((mSi α 10 ((α.1 10) + 1)).2 2) ((α.1 10) : Int32).toNatClampNeg (vp_nar .byte (a1).toInt8.toInt32))).2 3) ((α.1 10) : Int32).toNatClampNeg a2)) 4 (upd ((mSA (mSA (mSi α 10 ((α.1 10) + 1)) 2 (upd ((mSi α 10 ((α.1 10) + 1)).2 2) ((α.1 10) : Int32).toNatClampNeg (vp_nar .byte (a1).toInt8.toInt32))) 3 (upd ((mSA (mSi α 10 ((α.1 10) + 1)) 2 (upd ((mSi α 10 ((α.1 10) + 1)).2 2) ((α.1 10) : Int32).toNatClampNeg (vp_nar .byte (a1).toInt8.toInt32))).2 3) ((α.1 10) : Int32).toNatClampNeg a2)).2 4) ((α.1 10) : Int32).toNatClampNeg a3)) 5 (upd ((mSA (mSA (mSA (mSi α 10 ((α.1 10) + 1)) 2 (upd ((mSi α 10 ((α.1 10) + 1)).2 2) ((α.1 10) : Int32).toNatClampNeg (vp_nar .byte (a1).toInt8.toInt32))) 3 (upd ((mSA (mSi α 10 ((α.1 10) + 1)) 2 (upd ((mSi α 10 ((α.1 10) + 1)).2 2) ((α.1 10) : Int32).toNatClampNeg (vp_nar .byte (a1).toInt8.toInt32))).2 3) ((α.1 10) : Int32).toNatClampNeg a2)) 4 (upd ((mSA (mSA (mSi α 10 ((α.1 10) + 1)) 2 (upd ((mSi α 10 ((α.1 10) + 1)).2 2) ((α.1 10) : Int32).toNatClampNeg (vp_nar .byte (a1).toInt8.toInt32))) 3 (upd ((mSA (mSi α 10 ((α.1 10) + 1)) 2 (upd ((mSi α 10 ((α.1 10) + 1)).2 2) ((α.1 10) : Int32).toNatClampNeg (vp_nar .byte (a1).toInt8.toInt32))).2 3) ((α.1 10) : Int32).toNatClampNeg a2)).2 4) ((α.1 10) : Int32).toNatClampNeg a3)).2 5) ((α.1 10) : Int32).toNatClampNeg a4)) 6 (upd ((mSA (mSA (mSA (mSA (mSi α 10 ((α.1 10) + 1)) 2 (upd ((mSi α 10 ((α.1 10) + 1)).2 2) ((α.1 10) : Int32).toNatClampNeg (vp_nar .byte (a1).toInt8.toInt32))) 3 (upd ((mSA (mSi α 10 ((α.1 10) + 1)) 2 (upd ((mSi α 10 ((α.1 10) + 1)).2 2) ((α.1 10) : Int32).toNatClampNeg (vp_nar .byte (a1).toInt8.toInt32))).2 3) ((α.1 10) : Int32).toNatClampNeg a2)) 4 (upd ((mSA (mSA (mSi α 10 ((α.1 10) + 1)) 2 (upd ((mSi α 10 ((α.1 10) + 1)).2 2) ((α.1 10) : Int32).toNatClampNeg (vp_nar .byte (a1).toInt8.toInt32))) 3 (upd ((mSA (mSi α 10 ((α.1 10) + 1)) 2 (upd ((mSi α 10 ((α.1 10) + 1)).2 2) ((α.1 10) : Int32).toNatClampNeg (vp_nar .byte (a1).toInt8.toInt32))).2 3) ((α.1 10) : Int32).toNatClampNeg a2)).2 4) ((α.1 10) : Int32).toNatClampNeg a3)) 5 (upd ((mSA (mSA (mSA (mSi α 10 ((α.1 10) + 1)) 2 (upd ((mSi α 10 ((α.1 10) + 1)).2 2) ((α.1 10) : Int32).toNatClampNeg (vp_nar .byte (a1).toInt8.toInt32))) 3 (upd ((mSA (mSi α 10 ((α.1 10) + 1)) 2 (upd ((mSi α 10 ((α.1 10) + 1)).2 2) ((α.1 10) : Int32).toNatClampNeg (vp_nar .byte (a1).toInt8.toInt32))).2 3) ((α.1 10) : Int32).toNatClampNeg a2)) 4 (upd ((mSA (mSA (mSi α 10 ((α.1 10) + 1)) 2 (upd ((mSi α 10 ((α.1 10) + 1)).2 2) ((α.1 10) : Int32).toNatClampNeg (vp_nar .byte (a1).toInt8.toInt32))) 3 (upd ((mSA (mSi α 10 ((α.1 10) + 1)) 2 (upd ((mSi α 10 ((α.1 10) + 1)).2 2) ((α.1 10) : Int32).toNatClampNeg (vp_nar .byte (a1).toInt8.toInt32))).2 3) ((α.1 10) : Int32).toNatClampNeg a2)).2 4) ((α.1 10) : Int32).toNatClampNeg a3)).2 5) ((α.1 10) : Int32).toNatClampNeg a4)).2 6) ((α.1 10) : Int32).toNatClampNeg 1)).2 7) ((α.1 10) : Int32).toNatClampNeg 1)).2 6 (a4 : Int32).toNatClampNeg) ((1 + ((mSA (mSA (mSA (mSA (mSA (mSA (mSi α 10 ((α.1 10) + 1)) 2 (upd ((mSi α 10 ((α.1 10) + 1)).2 2) ((α.1 10) : Int32).toNatClampNeg (vp_nar .byte (a1).toInt8.toInt32))) 3 (upd ((mSA (mSi α 10 ((α.1 10) + 1)) 2 (upd ((mSi α 10 ((α.1 10) + 1)).2 2) ((α.1 10) : Int32).toNatClampNeg (vp_nar .byte (a1).toInt8.toInt32))).2 3) ((α.1 10) : Int32).toNatClampNeg a2)) 4 (upd ((mSA (mSA (mSi α 10 ((α.1 10) + 1)) 2 (upd ((mSi α 10 ((α.1 10) + 1)).2 2) ((α.1 10) : Int32).toNatClampNeg (vp_nar .byte (a1).toInt8.toInt32))) 3 (upd ((mSA (mSi α 10 ((α.1 10) + 1)) 2 (upd ((mSi α 10 ((α.1 10) + 1)).2 2) ((α.1 10) : Int32).toNatClampNeg (vp_nar .byte (a1).toInt8.toInt32))).2 3) ((α.1 10) : Int32).toNatClampNeg a2)).2 4) ((α.1 10) : Int32).toNatClampNeg a3)) 5 (upd ((mSA (mSA (mSA (mSi α 10 ((α.1 10) + 1)) 2 (upd ((mSi α 10 ((α.1 10) + 1)).2 2) ((α.1 10) : Int32).toNatClampNeg (vp_nar .byte (a1).toInt8.toInt32))) 3 (upd ((mSA (mSi α 10 ((α.1 10) + 1)) 2 (upd ((mSi α 10 ((α.1 10) + 1)).2 2) ((α.1 10) : Int32).toNatClampNeg (vp_nar .byte (a1).toInt8.toInt32))).2 3) ((α.1 10) : Int32).toNatClampNeg a2)) 4 (upd ((mSA (mSA (mSi α 10 ((α.1 10) + 1)) 2 (upd ((mSi α 10 ((α.1 10) + 1)).2 2) ((α.1 10) : Int32).toNatClampNeg (vp_nar .byte (a1).toInt8.toInt32))) 3 (upd ((mSA (mSi α 10 ((α.1 10) + 1)) 2 (upd ((mSi α 10 ((α.1 10) + 1)).2 2) ((α.1 10) : Int32).toNatClampNeg (vp_nar .byte (a1).toInt8.toInt32))).2 3) ((α.1 10) : Int32).toNatClampNeg a2)).2 4) ((α.1 10) : Int32).toNatClampNeg a3)).2 5) ((α.1 10) : Int32).toNatClampNeg a4)) 6 (upd ((mSA (mSA (mSA (mSA (mSi α 10 ((α.1 10) + 1)) 2 (upd ((mSi α 10 ((α.1 10) + 1)).2 2) ((α.1 10) : Int32).toNatClampNeg (vp_nar .byte (a1).toInt8.toInt32))) 3 (upd ((mSA (mSi α 10 ((α.1 10) + 1)) 2 (upd ((mSi α 10 ((α.1 10) + 1)).2 2) ((α.1 10) : Int32).toNatClampNeg (vp_nar .byte (a1).toInt8.toInt32))).2 3) ((α.1 10) : Int32).toNatClampNeg a2)) 4 (upd ((mSA (mSA (mSi α 10 ((α.1 10) + 1)) 2 (upd ((mSi α 10 ((α.1 10) + 1)).2 2) ((α.1 10) : Int32).toNatClampNeg (vp_nar .byte (a1).toInt8.toInt32))) 3 (upd ((mSA (mSi α 10 ((α.1 10) + 1)) 2 (upd ((mSi α 10 ((α.1 10) + 1)).2 2) ((α.1 10) : Int32).toNatClampNeg (vp_nar .byte (a1).toInt8.toInt32))).2 3) ((α.1 10) : Int32).toNatClampNeg a2)).2 4) ((α.1 10) : Int32).toNatClampNeg a3)) 5 (upd ((mSA (mSA (mSA (mSi α 10 ((α.1 10) + 1)) 2 (upd ((mSi α 10 ((α.1 10) + 1)).2 2) ((α.1 10) : Int32).toNatClampNeg (vp_nar .byte (a1).toInt8.toInt32))) 3 (upd ((mSA (mSi α 10 ((α.1 10) + 1)) 2 (upd ((mSi α 10 ((α.1 10) + 1)).2 2) ((α.1 10) : Int32).toNatClampNeg (vp_nar .byte (a1).toInt8.toInt32))).2 3) ((α.1 10) : Int32).toNatClampNeg a2)) 4 (upd ((mSA (mSA (mSi α 10 ((α.1 10) + 1)) 2 (upd ((mSi α 10 ((α.1 10) + 1)).2 2) ((α.1 10) : Int32).toNatClampNeg (vp_nar .byte (a1).toInt8.toInt32))) 3 (upd ((mSA (mSi α 10 ((α.1 10) + 1)) 2 (upd ((mSi α 10 ((α.1 10) + 1)).2 2) ((α.1 10) : Int32).toNatClampNeg (vp_nar .byte (a1).toInt8.toInt32))).2 3) ((α.1 10) : Int32).toNatClampNeg a2)).2 4) ((α.1 10) : Int32).toNatClampNeg a3)).2 5) ((α.1 10) : Int32).toNatClampNeg a4)).2 6) ((α.1 10) : Int32).toNatClampNeg 1)) 7 (upd ((mSA (mSA (mSA (mSA (mSA (mSi α 10 ((α.1 10) + 1)) 2 (upd ((mSi α 10 ((α.1 10) + 1)).2 2) ((α.1 10) : Int32).toNatClampNeg (vp_nar .byte (a1).toInt8.toInt32))) 3 (upd ((mSA (mSi α 10 ((α.1 10) + 1)) 2 (upd ((mSi α 10 ((α.1 10) + 1)).2 2) ((α.1 10) : Int32).toNatClampNeg (vp_nar .byte (a1).toInt8.toInt32))).2 3) ((α.1 10) : Int32).toNatClampNeg a2)) 4 (upd ((mSA (mSA (mSi α 10 ((α.1 10) + 1)) 2 (upd ((mSi α 10 ((α.1 10) + 1)).2 2) ((α.1 10) : Int32).toNatClampNeg (vp_nar .byte (a1).toInt8.toInt32))) 3 (upd ((mSA (mSi α 10 ((α.1 10) + 1)) 2 (upd ((mSi α 10 ((α.1 10) + 1)).2 2) ((α.1 10) : Int32).toNatClampNeg (vp_nar .byte (a1).toInt8.toInt32))).2 3) ((α.1 10) : Int32).toNatClampNeg a2)).2 4) ((α.1 10) : Int32).toNatClampNeg a3)) 5 (upd ((mSA (mSA (mSA (mSi α 10 ((α.1 10) + 1)) 2 (upd ((mSi α 10 ((α.1 10) + 1)).2 2) ((α.1 10) : Int32).toNatClampNeg (vp_nar .byte (a1).toInt8.toInt32))) 3 (upd ((mSA (mSi α 10 ((α.1 10) + 1)) 2 (upd ((mSi α 10 ((α.1 10) + 1)).2 2) ((α.1 10) : Int32).toNatClampNeg (vp_nar .byte (a1).toInt8.toInt32))).2 3) ((α.1 10) : Int32).toNatClampNeg a2)) 4 (upd ((mSA (mSA (mSi α 10 ((α.1 10) + 1)) 2 (upd ((mSi α 10 ((α.1 10) + 1)).2 2) ((α.1 10) : Int32).toNatClampNeg (vp_nar .byte (a1).toInt8.toInt32))) 3 (upd ((mSA (mSi α 10 ((α.1 10) + 1)) 2 (upd ((mSi α 10 ((α.1 10) + 1)).2 2) ((α.1 10) : Int32).toNatClampNeg (vp_nar .byte (a1).toInt8.toInt32))).2 3) ((α.1 10) : Int32).toNatClampNeg a2)).2 4) ((α.1 10) : Int32).toNatClampNeg a3)).2 5) ((α.1 10) : Int32).toNatClampNeg a4)) 6 (upd ((mSA (mSA (mSA (mSA (mSi α 10 ((α.1 10) + 1)) 2 (upd ((mSi α 10 ((α.1 10) + 1)).2 2) ((α.1 10) : Int32).toNatClampNeg (vp_nar .byte (a1).toInt8.toInt32))) 3 (upd ((mSA (mSi α 10 ((α.1 10) + 1)) 2 (upd ((mSi α 10 ((α.1 10) + 1)).2 2) ((α.1 10) : Int32).toNatClampNeg (vp_nar .byte (a1).toInt8.toInt32))).2 3) ((α.1 10) : Int32).toNatClampNeg a2)) 4 (upd ((mSA (mSA (mSi α 10 ((α.1 10) + 1)) 2 (upd ((mSi α 10 ((α.1 10) + 1)).2 2) ((α.1 10) : Int32).toNatClampNeg (vp_nar .byte (a1).toInt8.toInt32))) 3 (upd ((mSA (mSi α 10 ((α.1 10) + 1)) 2 (upd ((mSi α 10 ((α.1 10) + 1)).2 2) ((α.1 10) : Int32).toNatClampNeg (vp_nar .byte (a1).toInt8.toInt32))).2 3) ((α.1 10) : Int32).toNatClampNeg a2)).2 4) ((α.1 10) : Int32).toNatClampNeg a3)) 5 (upd ((mSA (mSA (mSA (mSi α 10 ((α.1 10) + 1)) 2 (upd ((mSi α 10 ((α.1 10) + 1)).2 2) ((α.1 10) : Int32).toNatClampNeg (vp_nar .byte (a1).toInt8.toInt32))) 3 (upd ((mSA (mSi α 10 ((α.1 10) + 1)) 2 (upd ((mSi α 10 ((α.1 10) + 1)).2 2) ((α.1 10) : Int32).toNatClampNeg (vp_nar .byte (a1).toInt8.toInt32))).2 3) ((α.1 10) : Int32).toNatClampNeg a2)) 4 (upd ((mSA (mSA (mSi α 10 ((α.1 10) + 1)) 2 (upd ((mSi α 10 ((α.1 10) + 1)).2 2) ((α.1 10) : Int32).toNatClampNeg (vp_nar .byte (a1).toInt8.toInt32))) 3 (upd ((mSA (mSi α 10 ((α.1 10) + 1)) 2 (upd ((mSi α 10 ((α.1 10) + 1)).2 2) ((α.1 10) : Int32).toNatClampNeg (vp_nar .byte (a1).toInt8.toInt32))).2 3) ((α.1 10) : Int32).toNatClampNeg a2)).2 4) ((α.1 10) : Int32).toNatClampNeg a3)).2 5) ((α.1 10) : Int32).toNatClampNeg a4)).2 6) ((α.1 10) : Int32).toNatClampNeg 1)).2 7) ((α.1 10) : Int32).toNatClampNeg 1)).2 6 (a2 : Int32).toNatClampNeg)) + ((mSA (mSA (mSA (mSA (mSA (mSA (mSi α 10 ((α.1 10) + 1)) 2 (upd ((mSi α 10 ((α.1 10) + 1)).2 2) ((α.1 10) : Int32).toNatClampNeg (vp_nar .byte (a1).toInt8.toInt32))) 3 (upd ((mSA (mSi α 10 ((α.1 10) + 1)) 2 (upd ((mSi α 10 ((α.1 10) + 1)).2 2) ((α.1 10) : Int32).toNatClampNeg (vp_nar .byte (a1).toInt8.toInt32))).2 3) ((α.1 10) : Int32).toNatClampNeg a2)) 4 (upd ((mSA (mSA (mSi α 10 ((α.1 10) + 1)) 2 (upd ((mSi α 10 ((α.1 10) + 1)).2 2) ((α.1 10) : Int32).toNatClampNeg (vp_nar .byte (a1).toInt8.toInt32))) 3 (upd ((mSA (mSi α 10 ((α.1 10) + 1)) 2 (upd ((mSi α 10 ((α.1 10) + 1)).2 2) ((α.1 10) : Int32).toNatClampNeg (vp_nar .byte (a1).toInt8.toInt32))).2 3) ((α.1 10) : Int32).toNatClampNeg a2)).2 4) ((α.1 10) : Int32).toNatClampNeg a3)) 5 (upd ((mSA (mSA (mSA (mSi α 10 ((α.1 10) + 1)) 2 (upd ((mSi α 10 ((α.1 10) + 1)).2 2) ((α.1 10) : Int32).toNatClampNeg (vp_nar .byte (a1).toInt8.toInt32))) 3 (upd ((mSA (mSi α 10 ((α.1 10) + 1)) 2 (upd ((mSi α 10 ((α.1 10) + 1)).2 2) ((α.1 10) : Int32).toNatClampNeg (vp_nar .byte (a1).toInt8.toInt32))).2 3) ((α.1 10) : Int32).toNatClampNeg a2)) 4 (upd ((mSA (mSA (mSi α 10 ((α.1 10) + 1)) 2 (upd ((mSi α 10 ((α.1 10) + 1)).2 2) ((α.1 10) : Int32).toNatClampNeg (vp_nar .byte (a1).toInt8.toInt32))) 3 (upd ((mSA (mSi α 10 ((α.1 10) + 1)) 2 (upd ((mSi α 10 ((α.1 10) + 1)).2 2) ((α.1 10) : Int32).toNatClampNeg (vp_nar .byte (a1).toInt8.toInt32))).2 3) ((α.1 10) : Int32).toNatClampNeg a2)).2 4) ((α.1 10) : Int32).toNatClampNeg a3)).2 5) ((α.1 10) : Int32).toNatClampNeg a4)) 6 (upd ((mSA (mSA (mSA (mSA (mSi α 10 ((α.1 10) + 1)) 2 (upd ((mSi α 10 ((α.1 10) + 1)).2 2) ((α.1 10) : Int32).toNatClampNeg (vp_nar .byte (a1).toInt8.toInt32))) 3 (upd ((mSA (mSi α 10 ((α.1 10) + 1)) 2 (upd ((mSi α 10 ((α.1 10) + 1)).2 2) ((α.1 10) : Int32).toNatClampNeg (vp_nar .byte (a1).toInt8.toInt32))).2 3) ((α.1 10) : Int32).toNatClampNeg a2)) 4 (upd ((mSA (mSA (mSi α 10 ((α.1 10) + 1)) 2 (upd ((mSi α 10 ((α.1 10) + 1)).2 2) ((α.1 10) : Int32).toNatClampNeg (vp_nar .byte (a1).toInt8.toInt32))) 3 (upd ((mSA (mSi α 10 ((α.1 10) + 1)) 2 (upd ((mSi α 10 ((α.1 10) + 1)).2 2) ((α.1 10) : Int32).toNatClampNeg (vp_nar .byte (a1).toInt8.toInt32))).2 3) ((α.1 10) : Int32).toNatClampNeg a2)).2 4) ((α.1 10) : Int32).toNatClampNeg a3)) 5 (upd ((mSA (mSA (mSA (mSi α 10 ((α.1 10) + 1)) 2 (upd ((mSi α 10 ((α.1 10) + 1)).2 2) ((α.1 10) : Int32).toNatClampNeg (vp_nar .byte (a1).toInt8.toInt32))) 3 (upd ((mSA (mSi α 10 ((α.1 10) + 1)) 2 (upd ((mSi α 10 ((α.1 10) + 1)).2 2) ((α.1 10) : Int32).toNatClampNeg (vp_nar .byte (a1).toInt8.toInt32))).2 3) ((α.1 10) : Int32).toNatClampNeg a2)) 4 (upd ((mSA (mSA (mSi α 10 ((α.1 10) + 1)) 2 (upd ((mSi α 10 ((α.1 10) + 1)).2 2) ((α.1 10) : Int32).toNatClampNeg (vp_nar .byte (a1).toInt8.toInt32))) 3 (upd ((mSA (mSi α 10 ((α.1 10) + 1)) 2 (upd ((mSi α 10 ((α.1 10) + 1)).2 2) ((α.1 10) : Int32).toNatClampNeg (vp_nar .byte (a1).toInt8.toInt32))).2 3) ((α.1 10) : Int32).toNatClampNeg a2)).2 4) ((α.1 10) : Int32).toNatClampNeg a3)).2 5) ((α.1 10) : Int32).toNatClampNeg a4)).2 6) ((α.1 10) : Int32).toNatClampNeg 1)) 7 (upd ((mSA (mSA (mSA (mSA (mSA (mSi α 10 ((α.1 10) + 1)) 2 (upd ((mSi α 10 ((α.1 10) + 1)).2 2) ((α.1 10) : Int32).toNatClampNeg (vp_nar .byte (a1).toInt8.toInt32))) 3 (upd ((mSA (mSi α 10 ((α.1 10) + 1)) 2 (upd ((mSi α 10 ((α.1 10) + 1)).2 2) ((α.1 10) : Int32).toNatClampNeg (vp_nar .byte (a1).toInt8.toInt32))).2 3) ((α.1 10) : Int32).toNatClampNeg a2)) 4 (upd ((mSA (mSA (mSi α 10 ((α.1 10) + 1)) 2 (upd ((mSi α 10 ((α.1 10) + 1)).2 2) ((α.1 10) : Int32).toNatClampNeg (vp_nar .byte (a1).toInt8.toInt32))) 3 (upd ((mSA (mSi α 10 ((α.1 10) + 1)) 2 (upd ((mSi α 10 ((α.1 10) + 1)).2 2) ((α.1 10) : Int32).toNatClampNeg (vp_nar .byte (a1).toInt8.toInt32))).2 3) ((α.1 10) : Int32).toNatClampNeg a2)).2 4) ((α.1 10) : Int32).toNatClampNeg a3)) 5 (upd ((mSA (mSA (mSA (mSi α 10 ((α.1 10) + 1)) 2 (upd ((mSi α 10 ((α.1 10) + 1)).2 2) ((α.1 10) : Int32).toNatClampNeg (vp_nar .byte (a1).toInt8.toInt32))) 3 (upd ((mSA (mSi α 10 ((α.1 10) + 1)) 2 (upd ((mSi α 10 ((α.1 10) + 1)).2 2) ((α.1 10) : Int32).toNatClampNeg (vp_nar .byte (a1).toInt8.toInt32))).2 3) ((α.1 10) : Int32).toNatClampNeg a2)) 4 (upd ((mSA (mSA (mSi α 10 ((α.1 10) + 1)) 2 (upd ((mSi α 10 ((α.1 10) + 1)).2 2) ((α.1 10) : Int32).toNatClampNeg (vp_nar .byte (a1).toInt8.toInt32))) 3 (upd ((mSA (mSi α 10 ((α.1 10) + 1)) 2 (upd ((mSi α 10 ((α.1 10) + 1)).2 2) ((α.1 10) : Int32).toNatClampNeg (vp_nar .byte (a1).toInt8.toInt32))).2 3) ((α.1 10) : Int32).toNatClampNeg a2)).2 4) ((α.1 10) : Int32).toNatClampNeg a3)).2 5) ((α.1 10) : Int32).toNatClampNeg a4)) 6 (upd ((mSA (mSA (mSA (mSA (mSi α 10 ((α.1 10) + 1)) 2 (upd ((mSi α 10 ((α.1 10) + 1)).2 2) ((α.1 10) : Int32).toNatClampNeg (vp_nar .byte (a1).toInt8.toInt32))) 3 (upd ((mSA (mSi α 10 ((α.1 10) + 1)) 2 (upd ((mSi α 10 ((α.1 10) + 1)).2 2) ((α.1 10) : Int32).toNatClampNeg (vp_nar .byte (a1).toInt8.toInt32))).2 3) ((α.1 10) : Int32).toNatClampNeg a2)) 4 (upd ((mSA (mSA (mSi α 10 ((α.1 10) + 1)) 2 (upd ((mSi α 10 ((α.1 10) + 1)).2 2) ((α.1 10) : Int32).toNatClampNeg (vp_nar .byte (a1).toInt8.toInt32))) 3 (upd ((mSA (mSi α 10 ((α.1 10) + 1)) 2 (upd ((mSi α 10 ((α.1 10) + 1)).2 2) ((α.1 10) : Int32).toNatClampNeg (vp_nar .byte (a1).toInt8.toInt32))).2 3) ((α.1 10) : Int32).toNatClampNeg a2)).2 4) ((α.1 10) : Int32).toNatClampNeg a3)) 5 (upd ((mSA (mSA (mSA (mSi α 10 ((α.1 10) + 1)) 2 (upd ((mSi α 10 ((α.1 10) + 1)).2 2) ((α.1 10) : Int32).toNatClampNeg (vp_nar .byte (a1).toInt8.toInt32))) 3 (upd ((mSA (mSi α 10 ((α.1 10) + 1)) 2 (upd ((mSi α 10 ((α.1 10) + 1)).2 2) ((α.1 10) : Int32).toNatClampNeg (vp_nar .byte (a1).toInt8.toInt32))).2 3) ((α.1 10) : Int32).toNatClampNeg a2)) 4 (upd ((mSA (mSA (mSi α 10 ((α.1 10) + 1)) 2 (upd ((mSi α 10 ((α.1 10) + 1)).2 2) ((α.1 10) : Int32).toNatClampNeg (vp_nar .byte (a1).toInt8.toInt32))) 3 (upd ((mSA (mSi α 10 ((α.1 10) + 1)) 2 (upd ((mSi α 10 ((α.1 10) + 1)).2 2) ((α.1 10) : Int32).toNatClampNeg (vp_nar .byte (a1).toInt8.toInt32))).2 3) ((α.1 10) : Int32).toNatClampNeg a2)).2 4) ((α.1 10) : Int32).toNatClampNeg a3)).2 5) ((α.1 10) : Int32).toNatClampNeg a4)).2 6) ((α.1 10) : Int32).toNatClampNeg 1)).2 7) ((α.1 10) : Int32).toNatClampNeg 1)).2 6 (a3 : Int32).toNatClampNeg)) 1000000 (α.1 10) _ _ _ _ h hI (lv_sub hl [0, 1, 2, 3, 4, 5] rfl)
  · replace h := Eq.trans (if_pos c1).symm h
    refine lv_bipush (v := 10) hx hb d_Mod_node_9 (by decide) ?_
    refine mg_fails S E hI kw_Mod_323 hl.1 ⟨Nat.le_of_ble_eq_true rfl, Nat.le_of_ble_eq_true rfl⟩ (Nat.le_of_ble_eq_true rfl) d_Mod_node_11 (fun q H locs hN => ?_)
    exact mg_athrow S hlocks hno E hN h d_Mod_node_14
theorem kw_Mod_336 : kWv "FamilyKernelModel" 336 "FamilyKernelModel" y_Mod_node b_Mod_node 6 (some .int) 4 := ⟨vt_1496, vt_1497, vt_1498, vt_1349, vt_1499, by decide, by decide, by decide +kernel⟩
def f_Mod_free (N : Nat) (a1 : Int32) (α : mS) : Option (kO × mS) := mBi (f_Mod_node N 3 a1 0 0 α) fun v3 α1 => (some (some (some v3), α1))
set_option maxHeartbeats 4000000 in
set_option maxRecDepth 100000 in
theorem k_Mod_free {l : Launch} {g : mG} {α : mS} (N : Nat) (a1 : Int32)  : ∀ x, f_Mod_free N a1 α = some x → mC l g y_Mod_free b_Mod_free 2 (some .int) (44) (1285) [.ref (mad g 0), .int a1] α (mQr x) := by
  intro x h
  unfold f_Mod_free at h
  refine mc_ofW (by decide) (fun A p e s m args below meth c S hr hlocks hno hargs E hI => ?_)
  have hx := S.1
  have hb := S.2.1
  have hown := S.2.2.2.1
  have hT := S.2.2.2.2
  subst hargs
  have hl := lv_entry ([.ref (mad g 0), .int a1]) (n := 2) (Nat.le_of_ble_eq_true rfl)
  rw [lg_entry_eq]
  generalize (lg_sl ([.ref (mad g 0), .int a1]) ++ List.replicate (2 - (lg_sl ([.ref (mad g 0), .int a1])).length) Slot.unset).toArray = ls at hl ⊢
  have hl : lv_has ls 2 [(0, .ref (mad g 0)), (1, .int a1)] := hl
  refine lv_aload_n hx hb d_Mod_free_0 rfl (lv_at hl 0 rfl) ?_
  refine lv_iconst (v := 3) hx hb d_Mod_free_1 (by decide) ?_
  refine lv_iload_n hx hb d_Mod_free_2 rfl (lv_at hl 1 rfl) ?_
  refine lv_iconst (v := 0) hx hb d_Mod_free_3 (by decide) ?_
  refine lv_iconst (v := 0) hx hb d_Mod_free_4 (by decide) ?_
  refine mg_cI (As := [.int 3, .int a1, .int 0, .int 0]) (rest := []) h (k_Mod_node (l := l) (g := g) (α := α) N 3 a1 0 0) S hlocks hno E hI kw_Mod_336 ⟨Nat.le_of_ble_eq_true rfl, Nat.le_of_ble_eq_true rfl⟩ (mv_Mod E hI) rfl hl.1 rfl (Nat.le_of_ble_eq_true rfl) d_Mod_free_5 (fun v3 α1 H locs e2 h hI => ?_)
  exact mc_iret (w := v3) hx hb hr rfl hlocks E hI h d_Mod_free_8
def f_Mod_sort (N : Nat) (a1 : Int32) (α : mS) : Option (kO × mS) := mBi (f_Mod_node N 0 a1 0 0 α) fun v3 α1 => (some (some (some v3), α1))
set_option maxHeartbeats 4000000 in
set_option maxRecDepth 100000 in
theorem k_Mod_sort {l : Launch} {g : mG} {α : mS} (N : Nat) (a1 : Int32)  : ∀ x, f_Mod_sort N a1 α = some x → mC l g y_Mod_sort b_Mod_sort 2 (some .int) (44) (1285) [.ref (mad g 0), .int a1] α (mQr x) := by
  intro x h
  unfold f_Mod_sort at h
  refine mc_ofW (by decide) (fun A p e s m args below meth c S hr hlocks hno hargs E hI => ?_)
  have hx := S.1
  have hb := S.2.1
  have hown := S.2.2.2.1
  have hT := S.2.2.2.2
  subst hargs
  have hl := lv_entry ([.ref (mad g 0), .int a1]) (n := 2) (Nat.le_of_ble_eq_true rfl)
  rw [lg_entry_eq]
  generalize (lg_sl ([.ref (mad g 0), .int a1]) ++ List.replicate (2 - (lg_sl ([.ref (mad g 0), .int a1])).length) Slot.unset).toArray = ls at hl ⊢
  have hl : lv_has ls 2 [(0, .ref (mad g 0)), (1, .int a1)] := hl
  refine lv_aload_n hx hb d_Mod_sort_0 rfl (lv_at hl 0 rfl) ?_
  refine lv_iconst (v := 0) hx hb d_Mod_sort_1 (by decide) ?_
  refine lv_iload_n hx hb d_Mod_sort_2 rfl (lv_at hl 1 rfl) ?_
  refine lv_iconst (v := 0) hx hb d_Mod_sort_3 (by decide) ?_
  refine lv_iconst (v := 0) hx hb d_Mod_sort_4 (by decide) ?_
  refine mg_cI (As := [.int 0, .int a1, .int 0, .int 0]) (rest := []) h (k_Mod_node (l := l) (g := g) (α := α) N 0 a1 0 0) S hlocks hno E hI kw_Mod_336 ⟨Nat.le_of_ble_eq_true rfl, Nat.le_of_ble_eq_true rfl⟩ (mv_Mod E hI) rfl hl.1 rfl (Nat.le_of_ble_eq_true rfl) d_Mod_sort_5 (fun v3 α1 H locs e2 h hI => ?_)
  exact mc_iret (w := v3) hx hb hr rfl hlocks E hI h d_Mod_sort_8
theorem kw_Mod_353 : kWv "FamilyKernelModel" 353 "FamilyKernelModel" y_Mod_free b_Mod_free 2 (some .int) 1 := ⟨vt_1555, vt_1556, vt_1557, vt_1349, vt_1558, by decide, by decide, by decide +kernel⟩
theorem kw_Mod_356 : kWv "FamilyKernelModel" 356 "FamilyKernelModel" y_Mod_sort b_Mod_sort 2 (some .int) 1 := ⟨vt_1531, vt_1532, vt_1533, vt_1349, vt_1534, by decide, by decide, by decide +kernel⟩
def f_Mod_leaf_185 (N : Nat)  : Nat → Int32 → Int32 → Int32 → mS → Option (kO × mS)
  | 0, _, _, _, _ => none
  | n + 1, x3_185, x1_185, x2_185, β185 => if x3_185 < (β185.1 13) then (some (some (some x1_185), β185)) else (if x3_185 < 0 ∨ 9000 ≤ (x3_185 : Int32).toNatClampNeg then none else (if x1_185 < 0 ∨ 400000 ≤ (x1_185 : Int32).toNatClampNeg then none else (if (β185.2 41 (x3_185 : Int32).toNatClampNeg) = (β185.2 3 (x1_185 : Int32).toNatClampNeg) then (mBi (f_Mod_node N 4 (((x2_185 + (β185.1 14)) - 1) - x3_185) 0 0 β185) fun v37 α35 => (some (some (some v37), α35))) else (f_Mod_leaf_185 N n (x3_185 + (-1)) x1_185 x2_185 β185))))
def f_Mod_leaf_j264 (N : Nat)  (y1 : Int32) (γ : mS) : Option (kO × mS) := if y1 < 0 ∨ 400000 ≤ (y1 : Int32).toNatClampNeg then none else (if (γ.2 2 (y1 : Int32).toNatClampNeg) = 2 then (if y1 < 0 ∨ 400000 ≤ (y1 : Int32).toNatClampNeg then none else (if (γ.2 4 (y1 : Int32).toNatClampNeg) = (-1) then (if y1 < 0 ∨ 400000 ≤ (y1 : Int32).toNatClampNeg then none else (mBi (f_Mod_node N 2 (γ.2 3 (y1 : Int32).toNatClampNeg) (γ.1 14) 0 γ) fun v48 α46 => (some (some (some v48), α46)))) else (some (some (some y1), γ)))) else (some (some (some y1), γ)))
def f_Mod_leaf (N : Nat) (a1 : Int32) (a2 : Int32) (α : mS) : Option (kO × mS) := if (α.1 12) = 0 then (if a1 < 0 ∨ 400000 ≤ (a1 : Int32).toNatClampNeg then none else (if (α.2 2 (a1 : Int32).toNatClampNeg) = 5 then (if a1 < 0 ∨ 400000 ≤ (a1 : Int32).toNatClampNeg then none else (if (α.1 14) ≤ (α.2 3 (a1 : Int32).toNatClampNeg) then (if a1 < 0 ∨ 400000 ≤ (a1 : Int32).toNatClampNeg then none else (mBi (f_Mod_node N 4 ((a2 - 1) - (α.2 3 (a1 : Int32).toNatClampNeg)) 0 0 α) fun v9 α7 => (some (some (some v9), α7)))) else (if a1 < 0 ∨ 400000 ≤ (a1 : Int32).toNatClampNeg then none else (if (α.2 3 (a1 : Int32).toNatClampNeg) < 0 ∨ 5000 ≤ ((α.2 3 (a1 : Int32).toNatClampNeg) : Int32).toNatClampNeg then none else (mBi (f_Mod_free N (α.2 33 ((α.2 3 (a1 : Int32).toNatClampNeg) : Int32).toNatClampNeg) α) fun v14 α12 => (some (some (some v14), α12))))))) else (some (some (some a1), α)))) else (if (α.1 12) = 1 then (if a1 < 0 ∨ 400000 ≤ (a1 : Int32).toNatClampNeg then none else (if (α.2 2 (a1 : Int32).toNatClampNeg) = 4 then (if a1 < 0 ∨ 400000 ≤ (a1 : Int32).toNatClampNeg then none else (if (α.2 3 (a1 : Int32).toNatClampNeg) = a2 then (some (some (some (α.1 14)), α)) else (some (some (some a1), α)))) else (some (some (some a1), α)))) else (if (α.1 12) = 2 then (if a1 < 0 ∨ 400000 ≤ (a1 : Int32).toNatClampNeg then none else (if (α.2 2 (a1 : Int32).toNatClampNeg) = 3 then (if a1 < 0 ∨ 400000 ≤ (a1 : Int32).toNatClampNeg then none else (if (α.2 3 (a1 : Int32).toNatClampNeg) = (α.1 13) then (mBi (f_Mod_node N 4 a2 0 0 α) fun v27 α25 => (some (some (some v27), α25))) else (some (some (some a1), α)))) else (some (some (some a1), α)))) else (if (α.1 12) = 3 then (if a1 < 0 ∨ 400000 ≤ (a1 : Int32).toNatClampNeg then none else (if (α.2 2 (a1 : Int32).toNatClampNeg) = 3 then (f_Mod_leaf_185 N N ((α.1 14) - 1) a1 a2 α) else (some (some (some a1), α)))) else (if (α.1 12) = 4 then (if a1 < 0 ∨ 400000 ≤ (a1 : Int32).toNatClampNeg then none else (if (α.2 2 (a1 : Int32).toNatClampNeg) = 0 then (if a1 < 0 ∨ 400000 ≤ (a1 : Int32).toNatClampNeg then none else (if (α.2 3 (a1 : Int32).toNatClampNeg) = (-1) then (mBi (f_Mod_sort N (α.1 14) α) fun v53 α51 => (some (some (some v53), α51))) else (f_Mod_leaf_j264 N a1 α))) else (f_Mod_leaf_j264 N a1 α))) else (if a1 < 0 ∨ 400000 ≤ (a1 : Int32).toNatClampNeg then none else (if a1 < 0 ∨ 400000 ≤ (a1 : Int32).toNatClampNeg then none else (if a1 < 0 ∨ 400000 ≤ (a1 : Int32).toNatClampNeg then none else (if a1 < 0 ∨ 400000 ≤ (a1 : Int32).toNatClampNeg then none else (mBi (f_Mod_node N (α.2 2 (a1 : Int32).toNatClampNeg) (α.2 3 (a1 : Int32).toNatClampNeg) (α.2 4 (a1 : Int32).toNatClampNeg) (α.2 5 (a1 : Int32).toNatClampNeg) α) fun v60 α58 => (some (some (some v60), α58)))))))))))
set_option maxHeartbeats 4000000 in
set_option maxRecDepth 100000 in
theorem k_Mod_leaf {l : Launch} {g : mG} {α : mS} (N : Nat) (a1 : Int32) (a2 : Int32)  : ∀ x, f_Mod_leaf N a1 a2 α = some x → mC l g y_Mod_leaf b_Mod_leaf 4 (some .int) (45) (1306) [.ref (mad g 0), .int a1, .int a2] α (mQr x) := by
  intro x h
  unfold f_Mod_leaf at h
  refine mc_ofW (by decide) (fun A p e s m args below meth c S hr hlocks hno hargs E hI => ?_)
  have hx := S.1
  have hb := S.2.1
  have hown := S.2.2.2.1
  have hT := S.2.2.2.2
  subst hargs
  have hl := lv_entry ([.ref (mad g 0), .int a1, .int a2]) (n := 4) (Nat.le_of_ble_eq_true rfl)
  rw [lg_entry_eq]
  generalize (lg_sl ([.ref (mad g 0), .int a1, .int a2]) ++ List.replicate (4 - (lg_sl ([.ref (mad g 0), .int a1, .int a2])).length) Slot.unset).toArray = ls at hl ⊢
  have hl : lv_has ls 4 [(0, .ref (mad g 0)), (1, .int a1), (2, .int a2)] := hl
  have J264 : ∀ (y1 : Int32) (γ : mS) (H : Heap) (locs : List Loc) (ls : Array Slot), f_Mod_leaf_j264 N y1 γ = some x → mI g A s γ H locs → lv_has ls 4 [(0, .ref (mad g 0)), (1, .int y1)] → W p l e (mR (45) (1306)) s m ([.ref (mad g 0), .int a1, .int a2]).toArray below meth c H locs 0 0 (vEQ below (mQ g A (mQr x)) ([.ref (mad g 0), .int a1, .int a2]).toArray s A) (F0 m 264 ls []) := by
    intro y1 γ H locs ls h hI hl
    unfold f_Mod_leaf_j264 at h
    refine lv_aload_n hx hb d_Mod_leaf_264 rfl (lv_at hl 0 rfl) ?_
    refine mf_kind S E hI vt_1279 d_Mod_leaf_265 ?_
    refine lv_iload_n hx hb d_Mod_leaf_268 rfl (lv_at hl 1 rfl) ?_
    by_cases c41 : y1 < 0 ∨ 400000 ≤ (y1 : Int32).toNatClampNeg
    · replace h := Eq.trans (if_pos c41).symm h
      cases h
    · replace h := Eq.trans (if_neg c41).symm h
      refine ml_kind S E hI c41 d_Mod_leaf_269 ?_
      refine lv_iconst (v := 2) hx hb d_Mod_leaf_270 (by decide) ?_
      refine lv_icmp_ne (tgt := 303) hx hb d_Mod_leaf_271 (by decide) (fun c42 => ?_) (fun c42 => ?_)
      · replace h := Eq.trans (if_neg c42).symm h
        refine lv_iload_n hx hb d_Mod_leaf_303 rfl (lv_at hl 1 rfl) ?_
        exact mc_iret (w := y1) hx hb hr rfl hlocks E hI h d_Mod_leaf_304
      · replace h := Eq.trans (if_pos c42).symm h
        refine lv_aload_n hx hb d_Mod_leaf_274 rfl (lv_at hl 0 rfl) ?_
        refine mf_two S E hI vt_1281 d_Mod_leaf_275 ?_
        refine lv_iload_n hx hb d_Mod_leaf_278 rfl (lv_at hl 1 rfl) ?_
        by_cases c43 : y1 < 0 ∨ 400000 ≤ (y1 : Int32).toNatClampNeg
        · replace h := Eq.trans (if_pos c43).symm h
          cases h
        · replace h := Eq.trans (if_neg c43).symm h
          refine ml_two S E hI c43 d_Mod_leaf_279 ?_
          refine lv_iconst (v := (-1)) hx hb d_Mod_leaf_280 (by decide) ?_
          refine lv_icmp_ne (tgt := 303) hx hb d_Mod_leaf_281 (by decide) (fun c44 => ?_) (fun c44 => ?_)
          · replace h := Eq.trans (if_neg c44).symm h
            refine lv_iload_n hx hb d_Mod_leaf_303 rfl (lv_at hl 1 rfl) ?_
            exact mc_iret (w := y1) hx hb hr rfl hlocks E hI h d_Mod_leaf_304
          · replace h := Eq.trans (if_pos c44).symm h
            refine lv_aload_n hx hb d_Mod_leaf_284 rfl (lv_at hl 0 rfl) ?_
            refine lv_iconst (v := 2) hx hb d_Mod_leaf_285 (by decide) ?_
            refine lv_aload_n hx hb d_Mod_leaf_286 rfl (lv_at hl 0 rfl) ?_
            refine mf_one S E hI vt_1280 d_Mod_leaf_287 ?_
            refine lv_iload_n hx hb d_Mod_leaf_290 rfl (lv_at hl 1 rfl) ?_
            by_cases c45 : y1 < 0 ∨ 400000 ≤ (y1 : Int32).toNatClampNeg
            · replace h := Eq.trans (if_pos c45).symm h
              cases h
            · replace h := Eq.trans (if_neg c45).symm h
              refine ml_one S E hI c45 d_Mod_leaf_291 ?_
              refine lv_aload_n hx hb d_Mod_leaf_292 rfl (lv_at hl 0 rfl) ?_
              refine mf_mapTo S E hI vt_1290 d_Mod_leaf_293 ?_
              refine lv_iconst (v := 0) hx hb d_Mod_leaf_296 (by decide) ?_
              refine mg_cI (As := [.int 2, .int (γ.2 3 (y1 : Int32).toNatClampNeg), .int (γ.1 14), .int 0]) (rest := []) h (k_Mod_node (l := l) (g := g) (α := γ) N 2 (γ.2 3 (y1 : Int32).toNatClampNeg) (γ.1 14) 0) S hlocks hno E hI kw_Mod_336 ⟨Nat.le_of_ble_eq_true rfl, Nat.le_of_ble_eq_true rfl⟩ (mv_Mod E hI) rfl hl.1 rfl (Nat.le_of_ble_eq_true rfl) d_Mod_leaf_297 (fun v48 α46 H locs e47 h hI => ?_)
              refine lv_goto (tgt := 304) hx hb d_Mod_leaf_300 (by decide) ?_
              exact mc_iret (w := v48) hx hb hr rfl hlocks E hI h d_Mod_leaf_304
  refine lv_aload_n hx hb d_Mod_leaf_0 rfl (lv_at hl 0 rfl) ?_
  refine mf_mapHow S E hI vt_1288 d_Mod_leaf_1 ?_
  by_cases c1 : (α.1 12) = 0
  · replace h := Eq.trans (if_pos c1).symm h
    refine lv_tableIn (off := 36) (tgt := 40) hx hb d_Mod_leaf_4 (by rw [c1]; decide) (by rw [c1]; decide) (by rw [c1]; rfl) (by decide) ?_
    refine lv_aload_n hx hb d_Mod_leaf_40 rfl (lv_at hl 0 rfl) ?_
    refine mf_kind S E hI vt_1279 d_Mod_leaf_41 ?_
    refine lv_iload_n hx hb d_Mod_leaf_44 rfl (lv_at hl 1 rfl) ?_
    by_cases c2 : a1 < 0 ∨ 400000 ≤ (a1 : Int32).toNatClampNeg
    · replace h := Eq.trans (if_pos c2).symm h
      cases h
    · replace h := Eq.trans (if_neg c2).symm h
      refine ml_kind S E hI c2 d_Mod_leaf_45 ?_
      refine lv_iconst (v := 5) hx hb d_Mod_leaf_46 (by decide) ?_
      refine lv_icmp_eq (tgt := 54) hx hb d_Mod_leaf_47 (by decide) (fun c3 => ?_) (fun c3 => ?_)
      · replace h := Eq.trans (if_pos c3).symm h
        refine lv_aload_n hx hb d_Mod_leaf_54 rfl (lv_at hl 0 rfl) ?_
        refine mf_one S E hI vt_1280 d_Mod_leaf_55 ?_
        refine lv_iload_n hx hb d_Mod_leaf_58 rfl (lv_at hl 1 rfl) ?_
        by_cases c4 : a1 < 0 ∨ 400000 ≤ (a1 : Int32).toNatClampNeg
        · replace h := Eq.trans (if_pos c4).symm h
          cases h
        · replace h := Eq.trans (if_neg c4).symm h
          refine ml_one S E hI c4 d_Mod_leaf_59 ?_
          refine lv_aload_n hx hb d_Mod_leaf_60 rfl (lv_at hl 0 rfl) ?_
          refine mf_mapTo S E hI vt_1290 d_Mod_leaf_61 ?_
          refine lv_icmp_ge (tgt := 85) hx hb d_Mod_leaf_64 (by decide) (fun c5 => ?_) (fun c5 => ?_)
          · replace h := Eq.trans (if_pos c5).symm h
            refine lv_aload_n hx hb d_Mod_leaf_85 rfl (lv_at hl 0 rfl) ?_
            refine lv_iconst (v := 4) hx hb d_Mod_leaf_86 (by decide) ?_
            refine lv_iload_n hx hb d_Mod_leaf_87 rfl (lv_at hl 2 rfl) ?_
            refine lv_iconst (v := 1) hx hb d_Mod_leaf_88 (by decide) ?_
            refine lv_isub hx hb d_Mod_leaf_89 ?_
            refine lv_aload_n hx hb d_Mod_leaf_90 rfl (lv_at hl 0 rfl) ?_
            refine mf_one S E hI vt_1280 d_Mod_leaf_91 ?_
            refine lv_iload_n hx hb d_Mod_leaf_94 rfl (lv_at hl 1 rfl) ?_
            by_cases c6 : a1 < 0 ∨ 400000 ≤ (a1 : Int32).toNatClampNeg
            · replace h := Eq.trans (if_pos c6).symm h
              cases h
            · replace h := Eq.trans (if_neg c6).symm h
              refine ml_one S E hI c6 d_Mod_leaf_95 ?_
              refine lv_isub hx hb d_Mod_leaf_96 ?_
              refine lv_iconst (v := 0) hx hb d_Mod_leaf_97 (by decide) ?_
              refine lv_iconst (v := 0) hx hb d_Mod_leaf_98 (by decide) ?_
              refine mg_cI (As := [.int 4, .int ((a2 - 1) - (α.2 3 (a1 : Int32).toNatClampNeg)), .int 0, .int 0]) (rest := []) h (k_Mod_node (l := l) (g := g) (α := α) N 4 ((a2 - 1) - (α.2 3 (a1 : Int32).toNatClampNeg)) 0 0) S hlocks hno E hI kw_Mod_336 ⟨Nat.le_of_ble_eq_true rfl, Nat.le_of_ble_eq_true rfl⟩ (mv_Mod E hI) rfl hl.1 rfl (Nat.le_of_ble_eq_true rfl) d_Mod_leaf_99 (fun v9 α7 H locs e8 h hI => ?_)
              exact mc_iret (w := v9) hx hb hr rfl hlocks E hI h d_Mod_leaf_102
          · replace h := Eq.trans (if_neg c5).symm h
            refine lv_aload_n hx hb d_Mod_leaf_67 rfl (lv_at hl 0 rfl) ?_
            refine lv_aload_n hx hb d_Mod_leaf_68 rfl (lv_at hl 0 rfl) ?_
            refine mf_are S E hI vt_1331 d_Mod_leaf_69 ?_
            refine lv_aload_n hx hb d_Mod_leaf_72 rfl (lv_at hl 0 rfl) ?_
            refine mf_one S E hI vt_1280 d_Mod_leaf_73 ?_
            refine lv_iload_n hx hb d_Mod_leaf_76 rfl (lv_at hl 1 rfl) ?_
            by_cases c10 : a1 < 0 ∨ 400000 ≤ (a1 : Int32).toNatClampNeg
            · replace h := Eq.trans (if_pos c10).symm h
              cases h
            · replace h := Eq.trans (if_neg c10).symm h
              refine ml_one S E hI c10 d_Mod_leaf_77 ?_
              by_cases c11 : (α.2 3 (a1 : Int32).toNatClampNeg) < 0 ∨ 5000 ≤ ((α.2 3 (a1 : Int32).toNatClampNeg) : Int32).toNatClampNeg
              · replace h := Eq.trans (if_pos c11).symm h
                cases h
              · replace h := Eq.trans (if_neg c11).symm h
                refine ml_are S E hI c11 d_Mod_leaf_78 ?_
                refine mg_cI (As := [.int (α.2 33 ((α.2 3 (a1 : Int32).toNatClampNeg) : Int32).toNatClampNeg)]) (rest := []) h (k_Mod_free (l := l) (g := g) (α := α) N (α.2 33 ((α.2 3 (a1 : Int32).toNatClampNeg) : Int32).toNatClampNeg)) S hlocks hno E hI kw_Mod_353 ⟨Nat.le_of_ble_eq_true rfl, Nat.le_of_ble_eq_true rfl⟩ (mv_Mod E hI) rfl hl.1 rfl (Nat.le_of_ble_eq_true rfl) d_Mod_leaf_79 (fun v14 α12 H locs e13 h hI => ?_)
                refine lv_goto (tgt := 102) hx hb d_Mod_leaf_82 (by decide) ?_
                exact mc_iret (w := v14) hx hb hr rfl hlocks E hI h d_Mod_leaf_102
      · replace h := Eq.trans (if_neg c3).symm h
        refine lv_iload_n hx hb d_Mod_leaf_50 rfl (lv_at hl 1 rfl) ?_
        refine lv_goto (tgt := 102) hx hb d_Mod_leaf_51 (by decide) ?_
        exact mc_iret (w := a1) hx hb hr rfl hlocks E hI h d_Mod_leaf_102
  · replace h := Eq.trans (if_neg c1).symm h
    have nc1 := ksw (z := 0) rfl c1
    by_cases c15 : (α.1 12) = 1
    · replace h := Eq.trans (if_pos c15).symm h
      refine lv_tableIn (off := 99) (tgt := 103) hx hb d_Mod_leaf_4 (by rw [c15]; decide) (by rw [c15]; decide) (by rw [c15]; rfl) (by decide) ?_
      refine lv_aload_n hx hb d_Mod_leaf_103 rfl (lv_at hl 0 rfl) ?_
      refine mf_kind S E hI vt_1279 d_Mod_leaf_104 ?_
      refine lv_iload_n hx hb d_Mod_leaf_107 rfl (lv_at hl 1 rfl) ?_
      by_cases c16 : a1 < 0 ∨ 400000 ≤ (a1 : Int32).toNatClampNeg
      · replace h := Eq.trans (if_pos c16).symm h
        cases h
      · replace h := Eq.trans (if_neg c16).symm h
        refine ml_kind S E hI c16 d_Mod_leaf_108 ?_
        refine lv_iconst (v := 4) hx hb d_Mod_leaf_109 (by decide) ?_
        refine lv_icmp_ne (tgt := 130) hx hb d_Mod_leaf_110 (by decide) (fun c17 => ?_) (fun c17 => ?_)
        · replace h := Eq.trans (if_neg c17).symm h
          refine lv_iload_n hx hb d_Mod_leaf_130 rfl (lv_at hl 1 rfl) ?_
          exact mc_iret (w := a1) hx hb hr rfl hlocks E hI h d_Mod_leaf_131
        · replace h := Eq.trans (if_pos c17).symm h
          refine lv_aload_n hx hb d_Mod_leaf_113 rfl (lv_at hl 0 rfl) ?_
          refine mf_one S E hI vt_1280 d_Mod_leaf_114 ?_
          refine lv_iload_n hx hb d_Mod_leaf_117 rfl (lv_at hl 1 rfl) ?_
          by_cases c18 : a1 < 0 ∨ 400000 ≤ (a1 : Int32).toNatClampNeg
          · replace h := Eq.trans (if_pos c18).symm h
            cases h
          · replace h := Eq.trans (if_neg c18).symm h
            refine ml_one S E hI c18 d_Mod_leaf_118 ?_
            refine lv_iload_n hx hb d_Mod_leaf_119 rfl (lv_at hl 2 rfl) ?_
            refine lv_icmp_ne (tgt := 130) hx hb d_Mod_leaf_120 (by decide) (fun c19 => ?_) (fun c19 => ?_)
            · replace h := Eq.trans (if_neg c19).symm h
              refine lv_iload_n hx hb d_Mod_leaf_130 rfl (lv_at hl 1 rfl) ?_
              exact mc_iret (w := a1) hx hb hr rfl hlocks E hI h d_Mod_leaf_131
            · replace h := Eq.trans (if_pos c19).symm h
              refine lv_aload_n hx hb d_Mod_leaf_123 rfl (lv_at hl 0 rfl) ?_
              refine mf_mapTo S E hI vt_1290 d_Mod_leaf_124 ?_
              refine lv_goto (tgt := 131) hx hb d_Mod_leaf_127 (by decide) ?_
              exact mc_iret (w := (α.1 14)) hx hb hr rfl hlocks E hI h d_Mod_leaf_131
    · replace h := Eq.trans (if_neg c15).symm h
      have nc15 := ksw (z := 1) rfl c15
      by_cases c20 : (α.1 12) = 2
      · replace h := Eq.trans (if_pos c20).symm h
        refine lv_tableIn (off := 128) (tgt := 132) hx hb d_Mod_leaf_4 (by rw [c20]; decide) (by rw [c20]; decide) (by rw [c20]; rfl) (by decide) ?_
        refine lv_aload_n hx hb d_Mod_leaf_132 rfl (lv_at hl 0 rfl) ?_
        refine mf_kind S E hI vt_1279 d_Mod_leaf_133 ?_
        refine lv_iload_n hx hb d_Mod_leaf_136 rfl (lv_at hl 1 rfl) ?_
        by_cases c21 : a1 < 0 ∨ 400000 ≤ (a1 : Int32).toNatClampNeg
        · replace h := Eq.trans (if_pos c21).symm h
          cases h
        · replace h := Eq.trans (if_neg c21).symm h
          refine ml_kind S E hI c21 d_Mod_leaf_137 ?_
          refine lv_iconst (v := 3) hx hb d_Mod_leaf_138 (by decide) ?_
          refine lv_icmp_ne (tgt := 166) hx hb d_Mod_leaf_139 (by decide) (fun c22 => ?_) (fun c22 => ?_)
          · replace h := Eq.trans (if_neg c22).symm h
            refine lv_iload_n hx hb d_Mod_leaf_166 rfl (lv_at hl 1 rfl) ?_
            exact mc_iret (w := a1) hx hb hr rfl hlocks E hI h d_Mod_leaf_167
          · replace h := Eq.trans (if_pos c22).symm h
            refine lv_aload_n hx hb d_Mod_leaf_142 rfl (lv_at hl 0 rfl) ?_
            refine mf_one S E hI vt_1280 d_Mod_leaf_143 ?_
            refine lv_iload_n hx hb d_Mod_leaf_146 rfl (lv_at hl 1 rfl) ?_
            by_cases c23 : a1 < 0 ∨ 400000 ≤ (a1 : Int32).toNatClampNeg
            · replace h := Eq.trans (if_pos c23).symm h
              cases h
            · replace h := Eq.trans (if_neg c23).symm h
              refine ml_one S E hI c23 d_Mod_leaf_147 ?_
              refine lv_aload_n hx hb d_Mod_leaf_148 rfl (lv_at hl 0 rfl) ?_
              refine mf_mapWhat S E hI vt_1289 d_Mod_leaf_149 ?_
              refine lv_icmp_ne (tgt := 166) hx hb d_Mod_leaf_152 (by decide) (fun c24 => ?_) (fun c24 => ?_)
              · replace h := Eq.trans (if_neg c24).symm h
                refine lv_iload_n hx hb d_Mod_leaf_166 rfl (lv_at hl 1 rfl) ?_
                exact mc_iret (w := a1) hx hb hr rfl hlocks E hI h d_Mod_leaf_167
              · replace h := Eq.trans (if_pos c24).symm h
                refine lv_aload_n hx hb d_Mod_leaf_155 rfl (lv_at hl 0 rfl) ?_
                refine lv_iconst (v := 4) hx hb d_Mod_leaf_156 (by decide) ?_
                refine lv_iload_n hx hb d_Mod_leaf_157 rfl (lv_at hl 2 rfl) ?_
                refine lv_iconst (v := 0) hx hb d_Mod_leaf_158 (by decide) ?_
                refine lv_iconst (v := 0) hx hb d_Mod_leaf_159 (by decide) ?_
                refine mg_cI (As := [.int 4, .int a2, .int 0, .int 0]) (rest := []) h (k_Mod_node (l := l) (g := g) (α := α) N 4 a2 0 0) S hlocks hno E hI kw_Mod_336 ⟨Nat.le_of_ble_eq_true rfl, Nat.le_of_ble_eq_true rfl⟩ (mv_Mod E hI) rfl hl.1 rfl (Nat.le_of_ble_eq_true rfl) d_Mod_leaf_160 (fun v27 α25 H locs e26 h hI => ?_)
                refine lv_goto (tgt := 167) hx hb d_Mod_leaf_163 (by decide) ?_
                exact mc_iret (w := v27) hx hb hr rfl hlocks E hI h d_Mod_leaf_167
      · replace h := Eq.trans (if_neg c20).symm h
        have nc20 := ksw (z := 2) rfl c20
        by_cases c28 : (α.1 12) = 3
        · replace h := Eq.trans (if_pos c28).symm h
          refine lv_tableIn (off := 164) (tgt := 168) hx hb d_Mod_leaf_4 (by rw [c28]; decide) (by rw [c28]; decide) (by rw [c28]; rfl) (by decide) ?_
          refine lv_aload_n hx hb d_Mod_leaf_168 rfl (lv_at hl 0 rfl) ?_
          refine mf_kind S E hI vt_1279 d_Mod_leaf_169 ?_
          refine lv_iload_n hx hb d_Mod_leaf_172 rfl (lv_at hl 1 rfl) ?_
          by_cases c29 : a1 < 0 ∨ 400000 ≤ (a1 : Int32).toNatClampNeg
          · replace h := Eq.trans (if_pos c29).symm h
            cases h
          · replace h := Eq.trans (if_neg c29).symm h
            refine ml_kind S E hI c29 d_Mod_leaf_173 ?_
            refine lv_iconst (v := 3) hx hb d_Mod_leaf_174 (by decide) ?_
            refine lv_icmp_ne (tgt := 232) hx hb d_Mod_leaf_175 (by decide) (fun c30 => ?_) (fun c30 => ?_)
            · replace h := Eq.trans (if_neg c30).symm h
              refine lv_iload_n hx hb d_Mod_leaf_232 rfl (lv_at hl 1 rfl) ?_
              exact mc_iret (w := a1) hx hb hr rfl hlocks E hI h d_Mod_leaf_233
            · replace h := Eq.trans (if_pos c30).symm h
              refine lv_aload_n hx hb d_Mod_leaf_178 rfl (lv_at hl 0 rfl) ?_
              refine mf_mapTo S E hI vt_1290 d_Mod_leaf_179 ?_
              refine lv_iconst (v := 1) hx hb d_Mod_leaf_182 (by decide) ?_
              refine lv_isub hx hb d_Mod_leaf_183 ?_
              refine lv_istore_n (lv' := [(3, .int ((α.1 14) - 1)), (0, .ref (mad g 0)), (1, .int a1), (2, .int a2)]) hx hb d_Mod_leaf_184 rfl hl (by decide) rfl (fun ls hl => ?_)
              have L185 : ∀ (n185 : Nat) (x3_185 : Int32) (x1_185 : Int32) (x2_185 : Int32) (β185 : mS) (H : Heap) (locs : List Loc) (ls : Array Slot), f_Mod_leaf_185 N n185 x3_185 x1_185 x2_185 β185 = some x → mI g A s β185 H locs → lv_has ls 4 [(3, .int x3_185), (0, .ref (mad g 0)), (1, .int x1_185), (2, .int x2_185)] → W p l e (mR (45) (1306)) s m ([.ref (mad g 0), .int a1, .int a2]).toArray below meth c H locs 0 0 (vEQ below (mQ g A (mQr x)) ([.ref (mad g 0), .int a1, .int a2]).toArray s A) (F0 m 185 ls []) := by
                intro n185
                induction n185 with
                | zero => intro x3_185 x1_185 x2_185 β185 H locs ls h hI hl; rw [f_Mod_leaf_185] at h; cases h
                | succ n185 ih185 =>
                  intro x3_185 x1_185 x2_185 β185 H locs ls h hI hl
                  rw [f_Mod_leaf_185] at h
                  refine lv_iload_n hx hb d_Mod_leaf_185 rfl (lv_at hl 0 rfl) ?_
                  refine lv_aload_n hx hb d_Mod_leaf_186 rfl (lv_at hl 1 rfl) ?_
                  refine mf_mapWhat S E hI vt_1289 d_Mod_leaf_187 ?_
                  refine lv_icmp_lt (tgt := 232) hx hb d_Mod_leaf_190 (by decide) (fun c31 => ?_) (fun c31 => ?_)
                  · replace h := Eq.trans (if_pos c31).symm h
                    refine lv_iload_n hx hb d_Mod_leaf_232 rfl (lv_at hl 2 rfl) ?_
                    exact mc_iret (w := x1_185) hx hb hr rfl hlocks E hI h d_Mod_leaf_233
                  · replace h := Eq.trans (if_neg c31).symm h
                    refine lv_aload_n hx hb d_Mod_leaf_193 rfl (lv_at hl 1 rfl) ?_
                    refine mf_list S E hI vt_1340 d_Mod_leaf_194 ?_
                    refine lv_iload_n hx hb d_Mod_leaf_197 rfl (lv_at hl 0 rfl) ?_
                    by_cases c32 : x3_185 < 0 ∨ 9000 ≤ (x3_185 : Int32).toNatClampNeg
                    · replace h := Eq.trans (if_pos c32).symm h
                      cases h
                    · replace h := Eq.trans (if_neg c32).symm h
                      refine ml_list S E hI c32 d_Mod_leaf_198 ?_
                      refine lv_aload_n hx hb d_Mod_leaf_199 rfl (lv_at hl 1 rfl) ?_
                      refine mf_one S E hI vt_1280 d_Mod_leaf_200 ?_
                      refine lv_iload_n hx hb d_Mod_leaf_203 rfl (lv_at hl 2 rfl) ?_
                      by_cases c33 : x1_185 < 0 ∨ 400000 ≤ (x1_185 : Int32).toNatClampNeg
                      · replace h := Eq.trans (if_pos c33).symm h
                        cases h
                      · replace h := Eq.trans (if_neg c33).symm h
                        refine ml_one S E hI c33 d_Mod_leaf_204 ?_
                        refine lv_icmp_ne (tgt := 226) hx hb d_Mod_leaf_205 (by decide) (fun c34 => ?_) (fun c34 => ?_)
                        · replace h := Eq.trans (if_neg c34).symm h
                          refine lv_iinc (v := (x3_185 + (-1))) (lv' := [(3, .int (x3_185 + (-1))), (0, .ref (mad g 0)), (1, .int x1_185), (2, .int x2_185)]) hx hb d_Mod_leaf_226 hl (k := 0) rfl rfl (by decide) rfl (fun ls hl => ?_)
                          refine lv_goto (tgt := 185) hx hb d_Mod_leaf_229 (by decide) ?_
                          exact ih185 (x3_185 + (-1)) x1_185 x2_185 _ _ _ _ h hI (lv_sub hl [0, 1, 2, 3] rfl)
                        · replace h := Eq.trans (if_pos c34).symm h
                          refine lv_aload_n hx hb d_Mod_leaf_208 rfl (lv_at hl 1 rfl) ?_
                          refine lv_iconst (v := 4) hx hb d_Mod_leaf_209 (by decide) ?_
                          refine lv_iload_n hx hb d_Mod_leaf_210 rfl (lv_at hl 3 rfl) ?_
                          refine lv_aload_n hx hb d_Mod_leaf_211 rfl (lv_at hl 1 rfl) ?_
                          refine mf_mapTo S E hI vt_1290 d_Mod_leaf_212 ?_
                          refine lv_iadd hx hb d_Mod_leaf_215 ?_
                          refine lv_iconst (v := 1) hx hb d_Mod_leaf_216 (by decide) ?_
                          refine lv_isub hx hb d_Mod_leaf_217 ?_
                          refine lv_iload_n hx hb d_Mod_leaf_218 rfl (lv_at hl 0 rfl) ?_
                          refine lv_isub hx hb d_Mod_leaf_219 ?_
                          refine lv_iconst (v := 0) hx hb d_Mod_leaf_220 (by decide) ?_
                          refine lv_iconst (v := 0) hx hb d_Mod_leaf_221 (by decide) ?_
                          refine mg_cI (As := [.int 4, .int (((x2_185 + (β185.1 14)) - 1) - x3_185), .int 0, .int 0]) (rest := []) h (k_Mod_node (l := l) (g := g) (α := β185) N 4 (((x2_185 + (β185.1 14)) - 1) - x3_185) 0 0) S hlocks hno E hI kw_Mod_336 ⟨Nat.le_of_ble_eq_true rfl, Nat.le_of_ble_eq_true rfl⟩ (mv_Mod E hI) rfl hl.1 rfl (Nat.le_of_ble_eq_true rfl) d_Mod_leaf_222 (fun v37 α35 H locs e36 h hI => ?_)
                          exact mc_iret (w := v37) hx hb hr rfl hlocks E hI h d_Mod_leaf_225
              exact L185 N ((α.1 14) - 1) a1 a2 _ _ _ _ h hI (lv_sub hl [0, 1, 2, 3] rfl)
        · replace h := Eq.trans (if_neg c28).symm h
          have nc28 := ksw (z := 3) rfl c28
          by_cases c38 : (α.1 12) = 4
          · replace h := Eq.trans (if_pos c38).symm h
            refine lv_tableIn (off := 230) (tgt := 234) hx hb d_Mod_leaf_4 (by rw [c38]; decide) (by rw [c38]; decide) (by rw [c38]; rfl) (by decide) ?_
            refine lv_aload_n hx hb d_Mod_leaf_234 rfl (lv_at hl 0 rfl) ?_
            refine mf_kind S E hI vt_1279 d_Mod_leaf_235 ?_
            refine lv_iload_n hx hb d_Mod_leaf_238 rfl (lv_at hl 1 rfl) ?_
            by_cases c39 : a1 < 0 ∨ 400000 ≤ (a1 : Int32).toNatClampNeg
            · replace h := Eq.trans (if_pos c39).symm h
              cases h
            · replace h := Eq.trans (if_neg c39).symm h
              refine ml_kind S E hI c39 d_Mod_leaf_239 ?_
              refine lv_if_ne (tgt := 264) hx hb d_Mod_leaf_240 (by decide) (fun c40 => ?_) (fun c40 => ?_)
              · replace h := Eq.trans (if_neg c40).symm h
                exact J264 a1 _ _ _ _ h hI (lv_sub hl [0, 1] rfl)
              · replace h := Eq.trans (if_pos c40).symm h
                refine lv_aload_n hx hb d_Mod_leaf_243 rfl (lv_at hl 0 rfl) ?_
                refine mf_one S E hI vt_1280 d_Mod_leaf_244 ?_
                refine lv_iload_n hx hb d_Mod_leaf_247 rfl (lv_at hl 1 rfl) ?_
                by_cases c49 : a1 < 0 ∨ 400000 ≤ (a1 : Int32).toNatClampNeg
                · replace h := Eq.trans (if_pos c49).symm h
                  cases h
                · replace h := Eq.trans (if_neg c49).symm h
                  refine ml_one S E hI c49 d_Mod_leaf_248 ?_
                  refine lv_iconst (v := (-1)) hx hb d_Mod_leaf_249 (by decide) ?_
                  refine lv_icmp_ne (tgt := 264) hx hb d_Mod_leaf_250 (by decide) (fun c50 => ?_) (fun c50 => ?_)
                  · replace h := Eq.trans (if_neg c50).symm h
                    exact J264 a1 _ _ _ _ h hI (lv_sub hl [0, 1] rfl)
                  · replace h := Eq.trans (if_pos c50).symm h
                    refine lv_aload_n hx hb d_Mod_leaf_253 rfl (lv_at hl 0 rfl) ?_
                    refine lv_aload_n hx hb d_Mod_leaf_254 rfl (lv_at hl 0 rfl) ?_
                    refine mf_mapTo S E hI vt_1290 d_Mod_leaf_255 ?_
                    refine mg_cI (As := [.int (α.1 14)]) (rest := []) h (k_Mod_sort (l := l) (g := g) (α := α) N (α.1 14)) S hlocks hno E hI kw_Mod_356 ⟨Nat.le_of_ble_eq_true rfl, Nat.le_of_ble_eq_true rfl⟩ (mv_Mod E hI) rfl hl.1 rfl (Nat.le_of_ble_eq_true rfl) d_Mod_leaf_258 (fun v53 α51 H locs e52 h hI => ?_)
                    refine lv_goto (tgt := 304) hx hb d_Mod_leaf_261 (by decide) ?_
                    exact mc_iret (w := v53) hx hb hr rfl hlocks E hI h d_Mod_leaf_304
          · replace h := Eq.trans (if_neg c38).symm h
            have nc38 := ksw (z := 4) rfl c38
            refine lv_tableOut (tgt := 305) hx hb d_Mod_leaf_4 (by omega) (by decide) ?_
            refine lv_aload_n hx hb d_Mod_leaf_305 rfl (lv_at hl 0 rfl) ?_
            refine lv_aload_n hx hb d_Mod_leaf_306 rfl (lv_at hl 0 rfl) ?_
            refine mf_kind S E hI vt_1279 d_Mod_leaf_307 ?_
            refine lv_iload_n hx hb d_Mod_leaf_310 rfl (lv_at hl 1 rfl) ?_
            by_cases c54 : a1 < 0 ∨ 400000 ≤ (a1 : Int32).toNatClampNeg
            · replace h := Eq.trans (if_pos c54).symm h
              cases h
            · replace h := Eq.trans (if_neg c54).symm h
              refine ml_kind S E hI c54 d_Mod_leaf_311 ?_
              refine lv_aload_n hx hb d_Mod_leaf_312 rfl (lv_at hl 0 rfl) ?_
              refine mf_one S E hI vt_1280 d_Mod_leaf_313 ?_
              refine lv_iload_n hx hb d_Mod_leaf_316 rfl (lv_at hl 1 rfl) ?_
              by_cases c55 : a1 < 0 ∨ 400000 ≤ (a1 : Int32).toNatClampNeg
              · replace h := Eq.trans (if_pos c55).symm h
                cases h
              · replace h := Eq.trans (if_neg c55).symm h
                refine ml_one S E hI c55 d_Mod_leaf_317 ?_
                refine lv_aload_n hx hb d_Mod_leaf_318 rfl (lv_at hl 0 rfl) ?_
                refine mf_two S E hI vt_1281 d_Mod_leaf_319 ?_
                refine lv_iload_n hx hb d_Mod_leaf_322 rfl (lv_at hl 1 rfl) ?_
                by_cases c56 : a1 < 0 ∨ 400000 ≤ (a1 : Int32).toNatClampNeg
                · replace h := Eq.trans (if_pos c56).symm h
                  cases h
                · replace h := Eq.trans (if_neg c56).symm h
                  refine ml_two S E hI c56 d_Mod_leaf_323 ?_
                  refine lv_aload_n hx hb d_Mod_leaf_324 rfl (lv_at hl 0 rfl) ?_
                  refine mf_three S E hI vt_1282 d_Mod_leaf_325 ?_
                  refine lv_iload_n hx hb d_Mod_leaf_328 rfl (lv_at hl 1 rfl) ?_
                  by_cases c57 : a1 < 0 ∨ 400000 ≤ (a1 : Int32).toNatClampNeg
                  · replace h := Eq.trans (if_pos c57).symm h
                    cases h
                  · replace h := Eq.trans (if_neg c57).symm h
                    refine ml_three S E hI c57 d_Mod_leaf_329 ?_
                    refine mg_cI (As := [.int (α.2 2 (a1 : Int32).toNatClampNeg), .int (α.2 3 (a1 : Int32).toNatClampNeg), .int (α.2 4 (a1 : Int32).toNatClampNeg), .int (α.2 5 (a1 : Int32).toNatClampNeg)]) (rest := []) h (k_Mod_node (l := l) (g := g) (α := α) N (α.2 2 (a1 : Int32).toNatClampNeg) (α.2 3 (a1 : Int32).toNatClampNeg) (α.2 4 (a1 : Int32).toNatClampNeg) (α.2 5 (a1 : Int32).toNatClampNeg)) S hlocks hno E hI kw_Mod_336 ⟨Nat.le_of_ble_eq_true rfl, Nat.le_of_ble_eq_true rfl⟩ (mv_Mod E hI) rfl hl.1 rfl (Nat.le_of_ble_eq_true rfl) d_Mod_leaf_330 (fun v60 α58 H locs e59 h hI => ?_)
                    exact mc_iret (w := v60) hx hb hr rfl hlocks E hI h d_Mod_leaf_333
def f_Mod_apply (N : Nat) (a1 : Int32) (a2 : Int32) (α : mS) : Option (kO × mS) := mBi (f_Mod_node N 8 a1 a2 0 α) fun v3 α1 => (some (some (some v3), α1))
set_option maxHeartbeats 4000000 in
set_option maxRecDepth 100000 in
theorem k_Mod_apply {l : Launch} {g : mG} {α : mS} (N : Nat) (a1 : Int32) (a2 : Int32)  : ∀ x, f_Mod_apply N a1 a2 α = some x → mC l g y_Mod_apply b_Mod_apply 3 (some .int) (44) (1285) [.ref (mad g 0), .int a1, .int a2] α (mQr x) := by
  intro x h
  unfold f_Mod_apply at h
  refine mc_ofW (by decide) (fun A p e s m args below meth c S hr hlocks hno hargs E hI => ?_)
  have hx := S.1
  have hb := S.2.1
  have hown := S.2.2.2.1
  have hT := S.2.2.2.2
  subst hargs
  have hl := lv_entry ([.ref (mad g 0), .int a1, .int a2]) (n := 3) (Nat.le_of_ble_eq_true rfl)
  rw [lg_entry_eq]
  generalize (lg_sl ([.ref (mad g 0), .int a1, .int a2]) ++ List.replicate (3 - (lg_sl ([.ref (mad g 0), .int a1, .int a2])).length) Slot.unset).toArray = ls at hl ⊢
  have hl : lv_has ls 3 [(0, .ref (mad g 0)), (1, .int a1), (2, .int a2)] := hl
  refine lv_aload_n hx hb d_Mod_apply_0 rfl (lv_at hl 0 rfl) ?_
  refine lv_bipush (v := 8) hx hb d_Mod_apply_1 (by decide) ?_
  refine lv_iload_n hx hb d_Mod_apply_3 rfl (lv_at hl 1 rfl) ?_
  refine lv_iload_n hx hb d_Mod_apply_4 rfl (lv_at hl 2 rfl) ?_
  refine lv_iconst (v := 0) hx hb d_Mod_apply_5 (by decide) ?_
  refine mg_cI (As := [.int 8, .int a1, .int a2, .int 0]) (rest := []) h (k_Mod_node (l := l) (g := g) (α := α) N 8 a1 a2 0) S hlocks hno E hI kw_Mod_336 ⟨Nat.le_of_ble_eq_true rfl, Nat.le_of_ble_eq_true rfl⟩ (mv_Mod E hI) rfl hl.1 rfl (Nat.le_of_ble_eq_true rfl) d_Mod_apply_6 (fun v3 α1 H locs e2 h hI => ?_)
  exact mc_iret (w := v3) hx hb hr rfl hlocks E hI h d_Mod_apply_9
