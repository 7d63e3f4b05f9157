def hk_sayBinder (l : Launch) (g : mG) (kk : (Nat → Int32 → Int32 → mS → Option (kO × mS)) × (Int32 → Int32 → Int32 → mS → Option (kO × mS)) × (Int32 → Int32 → mS → Option (kO × mS))) (fr lo : Nat) : Prop := (∀ (r1 : Nat) (a2 : Int32) (a3 : Int32) (hr1 : r1 < 51) (α : mS) (x : kO × mS), kk.1 r1 a2 a3 α = some x → mC l g y_Mod_sayBinder b_Mod_sayBinder 4 none fr lo [.ref (mad g 0), .ref (kst g.1 r1), .int a2, .int a3] α (mQr x)) ∧ (∀ (a1 : Int32) (a2 : Int32) (a3 : Int32)  (α : mS) (x : kO × mS), kk.2.1 a1 a2 a3 α = some x → mC l g y_Mod_sayIn b_Mod_sayIn 4 none fr lo [.ref (mad g 0), .int a1, .int a2, .int a3] α (mQr x)) ∧ (∀ (a1 : Int32) (a2 : Int32)  (α : mS) (x : kO × mS), kk.2.2 a1 a2 α = some x → mC l g y_Mod_say_1 b_Mod_say_1 7 none fr lo [.ref (mad g 0), .int a1, .int a2] α (mQr x))
theorem kw_Mod_531 : kWv "FamilyKernelModel" 531 "FamilyKernelModel" y_Mod_say_1 b_Mod_say_1 7 none 2 := ⟨vt_1705, vt_1706, vt_1707, vt_1349, vt_1708, by decide, by decide, by decide +kernel⟩
def f_Mod_sayBinder (N : Nat) (kk : (Nat → Int32 → Int32 → mS → Option (kO × mS)) × (Int32 → Int32 → Int32 → mS → Option (kO × mS)) × (Int32 → Int32 → mS → Option (kO × mS))) (r1 : Nat) (a2 : Int32) (a3 : Int32) (α : mS) : Option (kO × mS) := mBv (f_Mod_say_2 N r1 α) fun α1 => (mBv ((G_sayNumber N dp_sayNumber) a3 α1) fun α3 => (mBv (f_Mod_say_2 N 43 α3) fun α5 => (if a2 < 0 ∨ 400000 ≤ (a2 : Int32).toNatClampNeg then none else (mBv (kk.2.2 (α5.2 3 (a2 : Int32).toNatClampNeg) a3 α5) fun α8 => (some (some none, α8))))))
set_option maxHeartbeats 4000000 in
set_option maxRecDepth 100000 in
theorem k_Mod_sayBinder {l : Launch} {g : mG} {α : mS} (N : Nat) (kk : (Nat → Int32 → Int32 → mS → Option (kO × mS)) × (Int32 → Int32 → Int32 → mS → Option (kO × mS)) × (Int32 → Int32 → mS → Option (kO × mS))) (d : Nat) (hk : hk_sayBinder l g kk (262 + d) (6004 + 26 * d)) (r1 : Nat) (a2 : Int32) (a3 : Int32) (hr1 : r1 < 51) : ∀ x, f_Mod_sayBinder N kk r1 a2 a3 α = some x → mC l g y_Mod_sayBinder b_Mod_sayBinder 4 none (262 + (d + 1)) (6004 + 26 * (d + 1)) [.ref (mad g 0), .ref (kst g.1 r1), .int a2, .int a3] α (mQr x) := by
  intro x h
  unfold f_Mod_sayBinder at h
  refine mc_ofW (by decide) (fun A p e s m args below meth c S hr hlocks hno hargs E hI => ?_)
  have hx := S.1
  have hb := S.2.1
  have hown := S.2.2.2.1
  have hT := S.2.2.2.2
  subst hargs
  have hl := lv_entry ([.ref (mad g 0), .ref (kst g.1 r1), .int a2, .int a3]) (n := 4) (Nat.le_of_ble_eq_true rfl)
  rw [lg_entry_eq]
  generalize (lg_sl ([.ref (mad g 0), .ref (kst g.1 r1), .int a2, .int a3]) ++ List.replicate (4 - (lg_sl ([.ref (mad g 0), .ref (kst g.1 r1), .int a2, .int a3])).length) Slot.unset).toArray = ls at hl ⊢
  have hl : lv_has ls 4 [(0, .ref (mad g 0)), (1, .ref (kst g.1 r1)), (2, .int a2), (3, .int a3)] := hl
  refine lv_aload_n hx hb d_Mod_sayBinder_0 rfl (lv_at hl 0 rfl) ?_
  refine lv_aload_n hx hb d_Mod_sayBinder_1 rfl (lv_at hl 1 rfl) ?_
  refine mg_cV (As := [.ref (kst g.1 r1)]) (rest := []) h (k_Mod_say_2 (l := l) (g := g) (α := α) N r1 hr1) S hlocks hno E hI kw_Mod_585 ⟨by omega, by omega⟩ (mv_Mod E hI) rfl hl.1 rfl (Nat.le_of_ble_eq_true rfl) d_Mod_sayBinder_2 (fun α1 H locs e2 h hI => ?_)
  refine lv_aload_n hx hb d_Mod_sayBinder_5 rfl (lv_at hl 0 rfl) ?_
  refine lv_iload_n hx hb d_Mod_sayBinder_6 rfl (lv_at hl 3 rfl) ?_
  refine mg_cV (As := [.int a3]) (rest := []) h (((ok_sayNumber (l := l) (g := g) N dp_sayNumber)) a3 α1) S hlocks hno E hI kw_Mod_582 ⟨by unfold dp_sayNumber; omega, by unfold dp_sayNumber; omega⟩ (mv_Mod E hI) rfl hl.1 rfl (Nat.le_of_ble_eq_true rfl) d_Mod_sayBinder_7 (fun α3 H locs e4 h hI => ?_)
  refine lv_aload_n hx hb d_Mod_sayBinder_10 rfl (lv_at hl 0 rfl) ?_
  refine mg_ldcw hx hb hown (E.2.2.2.2.1 43 (by decide)) d_Mod_sayBinder_11 ?_
  refine mg_cV (As := [.ref (kst g.1 43)]) (rest := []) h (k_Mod_say_2 (l := l) (g := g) (α := α3) N 43 (by decide)) S hlocks hno E hI kw_Mod_585 ⟨by omega, by omega⟩ (mv_Mod E hI) rfl hl.1 rfl (Nat.le_of_ble_eq_true rfl) d_Mod_sayBinder_14 (fun α5 H locs e6 h hI => ?_)
  refine lv_aload_n hx hb d_Mod_sayBinder_17 rfl (lv_at hl 0 rfl) ?_
  refine lv_aload_n hx hb d_Mod_sayBinder_18 rfl (lv_at hl 0 rfl) ?_
  refine mf_one S E hI vt_1280 d_Mod_sayBinder_19 ?_
  refine lv_iload_n hx hb d_Mod_sayBinder_22 rfl (lv_at hl 2 rfl) ?_
  by_cases c7 : a2 < 0 ∨ 400000 ≤ (a2 : Int32).toNatClampNeg
  · replace h := Eq.trans (if_pos c7).symm h
    cases h
  · replace h := Eq.trans (if_neg c7).symm h
    refine ml_one S E hI c7 d_Mod_sayBinder_23 ?_
    refine lv_iload_n hx hb d_Mod_sayBinder_24 rfl (lv_at hl 3 rfl) ?_
    refine mg_cV (As := [.int (α5.2 3 (a2 : Int32).toNatClampNeg), .int a3]) (rest := []) h (hk.2.2 (α5.2 3 (a2 : Int32).toNatClampNeg) a3 α5) S hlocks hno E hI kw_Mod_531 ⟨by omega, by omega⟩ (mv_Mod E hI) rfl hl.1 rfl (Nat.le_of_ble_eq_true rfl) d_Mod_sayBinder_25 (fun α8 H locs e9 h hI => ?_)
    exact mc_vret hx hb hr hlocks E hI h d_Mod_sayBinder_28
def f_Mod_sayIn_j10 (N : Nat)  (kk : (Nat → Int32 → Int32 → mS → Option (kO × mS)) × (Int32 → Int32 → Int32 → mS → Option (kO × mS)) × (Int32 → Int32 → mS → Option (kO × mS))) (y1 : Int32) (y2 : Int32) (y3 : Int32) (γ : mS) : Option (kO × mS) := mBv (kk.2.2 y1 y2 γ) fun α2 => (if y3 = 0 then (some (some none, α2)) else (mBv (f_Mod_say_0 N 41 α2) fun α5 => (some (some none, α5))))
def f_Mod_sayIn (N : Nat) (kk : (Nat → Int32 → Int32 → mS → Option (kO × mS)) × (Int32 → Int32 → Int32 → mS → Option (kO × mS)) × (Int32 → Int32 → mS → Option (kO × mS))) (a1 : Int32) (a2 : Int32) (a3 : Int32) (α : mS) : Option (kO × mS) := if a3 = 0 then (f_Mod_sayIn_j10 N kk a1 a2 a3 α) else (mBv (f_Mod_say_0 N 40 α) fun α7 => (f_Mod_sayIn_j10 N kk a1 a2 a3 α7))
set_option maxHeartbeats 4000000 in
set_option maxRecDepth 100000 in
theorem k_Mod_sayIn {l : Launch} {g : mG} {α : mS} (N : Nat) (kk : (Nat → Int32 → Int32 → mS → Option (kO × mS)) × (Int32 → Int32 → Int32 → mS → Option (kO × mS)) × (Int32 → Int32 → mS → Option (kO × mS))) (d : Nat) (hk : hk_sayBinder l g kk (262 + d) (6004 + 26 * d)) (a1 : Int32) (a2 : Int32) (a3 : Int32)  : ∀ x, f_Mod_sayIn N kk a1 a2 a3 α = some x → mC l g y_Mod_sayIn b_Mod_sayIn 4 none (262 + (d + 1)) (6004 + 26 * (d + 1)) [.ref (mad g 0), .int a1, .int a2, .int a3] α (mQr x) := by
  intro x h
  unfold f_Mod_sayIn at h
  refine mc_ofW (by decide) (fun A p e s m args below meth c S hr hlocks hno hargs E hI => ?_)
  have hx := S.1
  have hb := S.2.1
  have hown := S.2.2.2.1
  have hT := S.2.2.2.2
  subst hargs
  have hl := lv_entry ([.ref (mad g 0), .int a1, .int a2, .int a3]) (n := 4) (Nat.le_of_ble_eq_true rfl)
  rw [lg_entry_eq]
  generalize (lg_sl ([.ref (mad g 0), .int a1, .int a2, .int a3]) ++ List.replicate (4 - (lg_sl ([.ref (mad g 0), .int a1, .int a2, .int a3])).length) Slot.unset).toArray = ls at hl ⊢
  have hl : lv_has ls 4 [(0, .ref (mad g 0)), (1, .int a1), (2, .int a2), (3, .int a3)] := hl
  have J10 : ∀ (y1 : Int32) (y2 : Int32) (y3 : Int32) (γ : mS) (H : Heap) (locs : List Loc) (ls : Array Slot), f_Mod_sayIn_j10 N kk y1 y2 y3 γ = some x → mI g A s γ H locs → lv_has ls 4 [(0, .ref (mad g 0)), (1, .int y1), (2, .int y2), (3, .int y3)] → W p l e (mR (262 + (d + 1)) (6004 + 26 * (d + 1))) s m ([.ref (mad g 0), .int a1, .int a2, .int a3]).toArray below meth c H locs 0 0 (vEQ below (mQ g A (mQr x)) ([.ref (mad g 0), .int a1, .int a2, .int a3]).toArray s A) (F0 m 10 ls []) := by
    intro y1 y2 y3 γ H locs ls h hI hl
    unfold f_Mod_sayIn_j10 at h
    refine lv_aload_n hx hb d_Mod_sayIn_10 rfl (lv_at hl 0 rfl) ?_
    refine lv_iload_n hx hb d_Mod_sayIn_11 rfl (lv_at hl 1 rfl) ?_
    refine lv_iload_n hx hb d_Mod_sayIn_12 rfl (lv_at hl 2 rfl) ?_
    refine mg_cV (As := [.int y1, .int y2]) (rest := []) h (hk.2.2 y1 y2 γ) S hlocks hno E hI kw_Mod_531 ⟨by omega, by omega⟩ (mv_Mod E hI) rfl hl.1 rfl (Nat.le_of_ble_eq_true rfl) d_Mod_sayIn_13 (fun α2 H locs e3 h hI => ?_)
    refine lv_iload_n hx hb d_Mod_sayIn_16 rfl (lv_at hl 3 rfl) ?_
    refine lv_if_eq (tgt := 26) hx hb d_Mod_sayIn_17 (by decide) (fun c4 => ?_) (fun c4 => ?_)
    · replace h := Eq.trans (if_pos c4).symm h
      exact mc_vret hx hb hr hlocks E hI h d_Mod_sayIn_26
    · replace h := Eq.trans (if_neg c4).symm h
      refine lv_aload_n hx hb d_Mod_sayIn_20 rfl (lv_at hl 0 rfl) ?_
      refine lv_bipush (v := 41) hx hb d_Mod_sayIn_21 (by decide) ?_
      refine mg_cV (As := [.int 41]) (rest := []) h (k_Mod_say_0 (l := l) (g := g) (α := α2) N 41) S hlocks hno E hI kw_Mod_580 ⟨by omega, by omega⟩ (mv_Mod E hI) rfl hl.1 rfl (Nat.le_of_ble_eq_true rfl) d_Mod_sayIn_23 (fun α5 H locs e6 h hI => ?_)
      exact mc_vret hx hb hr hlocks E hI h d_Mod_sayIn_26
  refine lv_iload_n hx hb d_Mod_sayIn_0 rfl (lv_at hl 3 rfl) ?_
  refine lv_if_eq (tgt := 10) hx hb d_Mod_sayIn_1 (by decide) (fun c1 => ?_) (fun c1 => ?_)
  · replace h := Eq.trans (if_pos c1).symm h
    exact J10 a1 a2 a3 _ _ _ _ h hI (lv_sub hl [0, 1, 2, 3] rfl)
  · replace h := Eq.trans (if_neg c1).symm h
    refine lv_aload_n hx hb d_Mod_sayIn_4 rfl (lv_at hl 0 rfl) ?_
    refine lv_bipush (v := 40) hx hb d_Mod_sayIn_5 (by decide) ?_
    refine mg_cV (As := [.int 40]) (rest := []) h (k_Mod_say_0 (l := l) (g := g) (α := α) N 40) S hlocks hno E hI kw_Mod_580 ⟨by omega, by omega⟩ (mv_Mod E hI) rfl hl.1 rfl (Nat.le_of_ble_eq_true rfl) d_Mod_sayIn_7 (fun α7 H locs e8 h hI => ?_)
    exact J10 a1 a2 a3 _ _ _ _ h hI (lv_sub hl [0, 1, 2, 3] rfl)
theorem kw_Mod_589 : kWv "FamilyKernelModel" 589 "FamilyKernelModel" y_Mod_saySort b_Mod_saySort 2 none 1 := ⟨vt_1709, vt_1710, vt_1711, vt_1349, vt_1712, by decide, by decide, by decide +kernel⟩
theorem kw_Mod_592 : kWv "FamilyKernelModel" 592 "FamilyKernelModel" y_Mod_sayName b_Mod_sayName 3 none 1 := ⟨vt_1713, vt_1714, vt_1715, vt_1349, vt_1716, by decide, by decide, by decide +kernel⟩
theorem kw_Mod_606 : kWv "FamilyKernelModel" 606 "FamilyKernelModel" y_Mod_sayBinder b_Mod_sayBinder 4 none 3 := ⟨vt_1741, vt_1742, vt_1743, vt_1349, vt_1744, by decide, by decide, by decide +kernel⟩
theorem kw_Mod_597 : kWv "FamilyKernelModel" 597 "FamilyKernelModel" y_Mod_binds b_Mod_binds 2 (some .boolean) 1 := ⟨vt_1729, vt_1730, vt_1731, vt_1349, vt_1732, by decide, by decide, by decide +kernel⟩
theorem kw_Mod_600 : kWv "FamilyKernelModel" 600 "FamilyKernelModel" y_Mod_sayIn b_Mod_sayIn 4 none 3 := ⟨vt_1733, vt_1734, vt_1735, vt_1349, vt_1736, by decide, by decide, by decide +kernel⟩
def f_Mod_say_1_j334 (N : Nat)  (kk : (Nat → Int32 → Int32 → mS → Option (kO × mS)) × (Int32 → Int32 → Int32 → mS → Option (kO × mS)) × (Int32 → Int32 → mS → Option (kO × mS))) (y1 : Int32) (y2 : Int32) (γ : mS) : Option (kO × mS) := mBv (kk.1 48 y1 y2 γ) fun α22 => (mBv (f_Mod_say_2 N 49 α22) fun α24 => (if y1 < 0 ∨ 400000 ≤ (y1 : Int32).toNatClampNeg then none else (mBv (kk.2.2 (α24.2 4 (y1 : Int32).toNatClampNeg) y2 α24) fun α27 => (mBv (f_Mod_say_2 N 50 α27) fun α29 => (if y1 < 0 ∨ 400000 ≤ (y1 : Int32).toNatClampNeg then none else (mBv (kk.2.2 (α29.2 5 (y1 : Int32).toNatClampNeg) (y2 + 1) α29) fun α32 => (some (some none, α32))))))))
def f_Mod_say_1_j286 (N : Nat)  (kk : (Nat → Int32 → Int32 → mS → Option (kO × mS)) × (Int32 → Int32 → Int32 → mS → Option (kO × mS)) × (Int32 → Int32 → mS → Option (kO × mS))) (y1 : Int32) (y2 : Int32) (γ : mS) : Option (kO × mS) := if y1 < 0 ∨ 400000 ≤ (y1 : Int32).toNatClampNeg then none else (mBv (kk.2.2 (γ.2 4 (y1 : Int32).toNatClampNeg) (y2 + 1) γ) fun α55 => (some (some none, α55)))
def f_Mod_say_1_170 (N : Nat)  (kk : (Nat → Int32 → Int32 → mS → Option (kO × mS)) × (Int32 → Int32 → Int32 → mS → Option (kO × mS)) × (Int32 → Int32 → mS → Option (kO × mS))) : Nat → Int32 → Int32 → Int32 → Int32 → mS → Option (kO × mS)
  | 0, _, _, _, _, _ => none
  | n + 1, x5_170, x3_170, x1_170, x2_170, β170 => if x3_170 ≤ x5_170 then (some (some none, β170)) else (((f_Mod_nth N x1_170 x3_170 x5_170 β170)).bind fun v79 => (mBv (f_Mod_say_0 N 32 β170) fun α81 => (if v79 < 0 ∨ 400000 ≤ (v79 : Int32).toNatClampNeg then none else (if (α81.2 2 (v79 : Int32).toNatClampNeg) < 6 then (mBv (kk.2.1 v79 x2_170 0 α81) fun α85 => (f_Mod_say_1_170 N kk n (x5_170 + 1) x3_170 x1_170 x2_170 α85)) else (mBv (kk.2.1 v79 x2_170 1 α81) fun α87 => (f_Mod_say_1_170 N kk n (x5_170 + 1) x3_170 x1_170 x2_170 α87))))))
def f_Mod_say_1 (N : Nat) (kk : (Nat → Int32 → Int32 → mS → Option (kO × mS)) × (Int32 → Int32 → Int32 → mS → Option (kO × mS)) × (Int32 → Int32 → mS → Option (kO × mS))) (a1 : Int32) (a2 : Int32) (α : mS) : Option (kO × mS) := if a1 < 0 ∨ 400000 ≤ (a1 : Int32).toNatClampNeg then none else (if (α.2 2 (a1 : Int32).toNatClampNeg) = 0 then (if a1 < 0 ∨ 400000 ≤ (a1 : Int32).toNatClampNeg then none else (mBv (f_Mod_saySort N (α.2 3 (a1 : Int32).toNatClampNeg) α) fun α4 => (some (some none, α4)))) else (if (α.2 2 (a1 : Int32).toNatClampNeg) = 1 then (if a1 < 0 ∨ 400000 ≤ (a1 : Int32).toNatClampNeg then none else (mBv (f_Mod_sayName N (α.2 3 (a1 : Int32).toNatClampNeg) α) fun α8 => (some (some none, α8)))) else (if (α.2 2 (a1 : Int32).toNatClampNeg) = 2 then (mBv (f_Mod_say_2 N 41 α) fun α11 => (if a1 < 0 ∨ 400000 ≤ (a1 : Int32).toNatClampNeg then none else (mBv (f_Mod_sayName N (α11.2 3 (a1 : Int32).toNatClampNeg) α11) fun α14 => (mBv (f_Mod_say_0 N 32 α14) fun α16 => (if a1 < 0 ∨ 400000 ≤ (a1 : Int32).toNatClampNeg then none else (mBv (f_Mod_saySort N (α16.2 4 (a1 : Int32).toNatClampNeg) α16) fun α19 => (some (some none, α19)))))))) else (if (α.2 2 (a1 : Int32).toNatClampNeg) = 3 then (f_Mod_say_1_j334 N kk a1 a2 α) else (if (α.2 2 (a1 : Int32).toNatClampNeg) = 4 then (mBv (f_Mod_say_0 N 120 α) fun α35 => (if a1 < 0 ∨ 400000 ≤ (a1 : Int32).toNatClampNeg then none else (mBv ((G_sayNumber N dp_sayNumber) ((a2 - 1) - (α35.2 3 (a1 : Int32).toNatClampNeg)) α35) fun α38 => (some (some none, α38))))) else (if (α.2 2 (a1 : Int32).toNatClampNeg) = 5 then (f_Mod_say_1_j334 N kk a1 a2 α) else (if (α.2 2 (a1 : Int32).toNatClampNeg) = 6 then (if a1 < 0 ∨ 400000 ≤ (a1 : Int32).toNatClampNeg then none else ((((G_bound N dp_bound) (α.2 4 (a1 : Int32).toNatClampNeg) 0 α)).bind fun v43 => (if v43 = 0 then (if a1 < 0 ∨ 400000 ≤ (a1 : Int32).toNatClampNeg then none else (if a1 < 0 ∨ 400000 ≤ (a1 : Int32).toNatClampNeg then none else (((f_Mod_binds N (α.2 3 (a1 : Int32).toNatClampNeg) α)).bind fun v48 => (mBv (kk.2.1 (α.2 3 (a1 : Int32).toNatClampNeg) a2 v48 α) fun α50 => (mBv (f_Mod_say_2 N 45 α50) fun α52 => (f_Mod_say_1_j286 N kk a1 a2 α52)))))) else (mBv (kk.1 42 a1 a2 α) fun α57 => (mBv (f_Mod_say_2 N 44 α57) fun α59 => (f_Mod_say_1_j286 N kk a1 a2 α59)))))) else (if (α.2 2 (a1 : Int32).toNatClampNeg) = 7 then (mBv (kk.1 46 a1 a2 α) fun α62 => (mBv (f_Mod_say_2 N 47 α62) fun α64 => (if a1 < 0 ∨ 400000 ≤ (a1 : Int32).toNatClampNeg then none else (mBv (kk.2.2 (α64.2 4 (a1 : Int32).toNatClampNeg) (a2 + 1) α64) fun α67 => (some (some none, α67)))))) else (if (α.2 2 (a1 : Int32).toNatClampNeg) = 8 then (((f_Mod_behind N a1 α)).bind fun v70 => (((f_Mod_head N a1 α)).bind fun v72 => (((f_Mod_binds N v72 α)).bind fun v74 => (mBv (kk.2.1 v72 a2 v74 α) fun α76 => (f_Mod_say_1_170 N kk N 0 v70 a1 a2 α76))))) else (f_Mod_say_1_j334 N kk a1 a2 α))))))))))
set_option maxHeartbeats 4000000 in
set_option maxRecDepth 100000 in
theorem k_Mod_say_1 {l : Launch} {g : mG} {α : mS} (N : Nat) (kk : (Nat → Int32 → Int32 → mS → Option (kO × mS)) × (Int32 → Int32 → Int32 → mS → Option (kO × mS)) × (Int32 → Int32 → mS → Option (kO × mS))) (d : Nat) (hk : hk_sayBinder l g kk (262 + d) (6004 + 26 * d)) (a1 : Int32) (a2 : Int32)  : ∀ x, f_Mod_say_1 N kk a1 a2 α = some x → mC l g y_Mod_say_1 b_Mod_say_1 7 none (262 + (d + 1)) (6004 + 26 * (d + 1)) [.ref (mad g 0), .int a1, .int a2] α (mQr x) := by
  intro x h
  unfold f_Mod_say_1 at h
  refine mc_ofW (by decide) (fun A p e s m args below meth c S hr hlocks hno hargs E hI => ?_)
  have hx := S.1
  have hb := S.2.1
  have hown := S.2.2.2.1
  have hT := S.2.2.2.2
  subst hargs
  have hl := lv_entry ([.ref (mad g 0), .int a1, .int a2]) (n := 7) (Nat.le_of_ble_eq_true rfl)
  rw [lg_entry_eq]
  generalize (lg_sl ([.ref (mad g 0), .int a1, .int a2]) ++ List.replicate (7 - (lg_sl ([.ref (mad g 0), .int a1, .int a2])).length) Slot.unset).toArray = ls at hl ⊢
  have hl : lv_has ls 7 [(0, .ref (mad g 0)), (1, .int a1), (2, .int a2)] := hl
  have J334 : ∀ (y1 : Int32) (y2 : Int32) (γ : mS) (H : Heap) (locs : List Loc) (ls : Array Slot), f_Mod_say_1_j334 N kk y1 y2 γ = some x → mI g A s γ H locs → lv_has ls 7 [(0, .ref (mad g 0)), (1, .int y1), (2, .int y2)] → W p l e (mR (262 + (d + 1)) (6004 + 26 * (d + 1))) s m ([.ref (mad g 0), .int a1, .int a2]).toArray below meth c H locs 0 0 (vEQ below (mQ g A (mQr x)) ([.ref (mad g 0), .int a1, .int a2]).toArray s A) (F0 m 334 ls []) := by
    intro y1 y2 γ H locs ls h hI hl
    unfold f_Mod_say_1_j334 at h
    refine lv_aload_n hx hb d_Mod_say_1_334 rfl (lv_at hl 0 rfl) ?_
    refine mg_ldcw hx hb hown (E.2.2.2.2.1 48 (by decide)) d_Mod_say_1_335 ?_
    refine lv_iload_n hx hb d_Mod_say_1_338 rfl (lv_at hl 1 rfl) ?_
    refine lv_iload_n hx hb d_Mod_say_1_339 rfl (lv_at hl 2 rfl) ?_
    refine mg_cV (As := [.ref (kst g.1 48), .int y1, .int y2]) (rest := []) h (hk.1 48 y1 y2 (by decide) γ) S hlocks hno E hI kw_Mod_606 ⟨by omega, by omega⟩ (mv_Mod E hI) rfl hl.1 rfl (Nat.le_of_ble_eq_true rfl) d_Mod_say_1_340 (fun α22 H locs e23 h hI => ?_)
    refine lv_aload_n hx hb d_Mod_say_1_343 rfl (lv_at hl 0 rfl) ?_
    refine mg_ldcw hx hb hown (E.2.2.2.2.1 49 (by decide)) d_Mod_say_1_344 ?_
    refine mg_cV (As := [.ref (kst g.1 49)]) (rest := []) h (k_Mod_say_2 (l := l) (g := g) (α := α22) N 49 (by decide)) S hlocks hno E hI kw_Mod_585 ⟨by omega, by omega⟩ (mv_Mod E hI) rfl hl.1 rfl (Nat.le_of_ble_eq_true rfl) d_Mod_say_1_347 (fun α24 H locs e25 h hI => ?_)
    refine lv_aload_n hx hb d_Mod_say_1_350 rfl (lv_at hl 0 rfl) ?_
    refine lv_aload_n hx hb d_Mod_say_1_351 rfl (lv_at hl 0 rfl) ?_
    refine mf_two S E hI vt_1281 d_Mod_say_1_352 ?_
    refine lv_iload_n hx hb d_Mod_say_1_355 rfl (lv_at hl 1 rfl) ?_
    by_cases c26 : y1 < 0 ∨ 400000 ≤ (y1 : Int32).toNatClampNeg
    · replace h := Eq.trans (if_pos c26).symm h
      cases h
    · replace h := Eq.trans (if_neg c26).symm h
      refine ml_two S E hI c26 d_Mod_say_1_356 ?_
      refine lv_iload_n hx hb d_Mod_say_1_357 rfl (lv_at hl 2 rfl) ?_
      refine mg_cV (As := [.int (α24.2 4 (y1 : Int32).toNatClampNeg), .int y2]) (rest := []) h (hk.2.2 (α24.2 4 (y1 : Int32).toNatClampNeg) y2 α24) S hlocks hno E hI kw_Mod_531 ⟨by omega, by omega⟩ (mv_Mod E hI) rfl hl.1 rfl (Nat.le_of_ble_eq_true rfl) d_Mod_say_1_358 (fun α27 H locs e28 h hI => ?_)
      refine lv_aload_n hx hb d_Mod_say_1_361 rfl (lv_at hl 0 rfl) ?_
      refine mg_ldcw hx hb hown (E.2.2.2.2.1 50 (by decide)) d_Mod_say_1_362 ?_
      refine mg_cV (As := [.ref (kst g.1 50)]) (rest := []) h (k_Mod_say_2 (l := l) (g := g) (α := α27) N 50 (by decide)) S hlocks hno E hI kw_Mod_585 ⟨by omega, by omega⟩ (mv_Mod E hI) rfl hl.1 rfl (Nat.le_of_ble_eq_true rfl) d_Mod_say_1_365 (fun α29 H locs e30 h hI => ?_)
      refine lv_aload_n hx hb d_Mod_say_1_368 rfl (lv_at hl 0 rfl) ?_
      refine lv_aload_n hx hb d_Mod_say_1_369 rfl (lv_at hl 0 rfl) ?_
      refine mf_three S E hI vt_1282 d_Mod_say_1_370 ?_
      refine lv_iload_n hx hb d_Mod_say_1_373 rfl (lv_at hl 1 rfl) ?_
      by_cases c31 : y1 < 0 ∨ 400000 ≤ (y1 : Int32).toNatClampNeg
      · replace h := Eq.trans (if_pos c31).symm h
        cases h
      · replace h := Eq.trans (if_neg c31).symm h
        refine ml_three S E hI c31 d_Mod_say_1_374 ?_
        refine lv_iload_n hx hb d_Mod_say_1_375 rfl (lv_at hl 2 rfl) ?_
        refine lv_iconst (v := 1) hx hb d_Mod_say_1_376 (by decide) ?_
        refine lv_iadd hx hb d_Mod_say_1_377 ?_
        refine mg_cV (As := [.int (α29.2 5 (y1 : Int32).toNatClampNeg), .int (y2 + 1)]) (rest := []) h (hk.2.2 (α29.2 5 (y1 : Int32).toNatClampNeg) (y2 + 1) α29) S hlocks hno E hI kw_Mod_531 ⟨by omega, by omega⟩ (mv_Mod E hI) rfl hl.1 rfl (Nat.le_of_ble_eq_true rfl) d_Mod_say_1_378 (fun α32 H locs e33 h hI => ?_)
        exact mc_vret hx hb hr hlocks E hI h d_Mod_say_1_381
  have J286 : ∀ (y1 : Int32) (y2 : Int32) (γ : mS) (H : Heap) (locs : List Loc) (ls : Array Slot), f_Mod_say_1_j286 N kk y1 y2 γ = some x → mI g A s γ H locs → lv_has ls 7 [(0, .ref (mad g 0)), (1, .int y1), (2, .int y2)] → W p l e (mR (262 + (d + 1)) (6004 + 26 * (d + 1))) s m ([.ref (mad g 0), .int a1, .int a2]).toArray below meth c H locs 0 0 (vEQ below (mQ g A (mQr x)) ([.ref (mad g 0), .int a1, .int a2]).toArray s A) (F0 m 286 ls []) := by
    intro y1 y2 γ H locs ls h hI hl
    unfold f_Mod_say_1_j286 at h
    refine lv_aload_n hx hb d_Mod_say_1_286 rfl (lv_at hl 0 rfl) ?_
    refine lv_aload_n hx hb d_Mod_say_1_287 rfl (lv_at hl 0 rfl) ?_
    refine mf_two S E hI vt_1281 d_Mod_say_1_288 ?_
    refine lv_iload_n hx hb d_Mod_say_1_291 rfl (lv_at hl 1 rfl) ?_
    by_cases c54 : y1 < 0 ∨ 400000 ≤ (y1 : Int32).toNatClampNeg
    · replace h := Eq.trans (if_pos c54).symm h
      cases h
    · replace h := Eq.trans (if_neg c54).symm h
      refine ml_two S E hI c54 d_Mod_say_1_292 ?_
      refine lv_iload_n hx hb d_Mod_say_1_293 rfl (lv_at hl 2 rfl) ?_
      refine lv_iconst (v := 1) hx hb d_Mod_say_1_294 (by decide) ?_
      refine lv_iadd hx hb d_Mod_say_1_295 ?_
      refine mg_cV (As := [.int (γ.2 4 (y1 : Int32).toNatClampNeg), .int (y2 + 1)]) (rest := []) h (hk.2.2 (γ.2 4 (y1 : Int32).toNatClampNeg) (y2 + 1) γ) S hlocks hno E hI kw_Mod_531 ⟨by omega, by omega⟩ (mv_Mod E hI) rfl hl.1 rfl (Nat.le_of_ble_eq_true rfl) d_Mod_say_1_296 (fun α55 H locs e56 h hI => ?_)
      refine lv_goto (tgt := 381) hx hb d_Mod_say_1_299 (by decide) ?_
      exact mc_vret hx hb hr hlocks E hI h d_Mod_say_1_381
  refine lv_aload_n hx hb d_Mod_say_1_0 rfl (lv_at hl 0 rfl) ?_
  refine mf_kind S E hI vt_1279 d_Mod_say_1_1 ?_
  refine lv_iload_n hx hb d_Mod_say_1_4 rfl (lv_at hl 1 rfl) ?_
  by_cases c1 : a1 < 0 ∨ 400000 ≤ (a1 : Int32).toNatClampNeg
  · replace h := Eq.trans (if_pos c1).symm h
    cases h
  · replace h := Eq.trans (if_neg c1).symm h
    refine ml_kind S E hI c1 d_Mod_say_1_5 ?_
    by_cases c2 : (α.2 2 (a1 : Int32).toNatClampNeg) = 0
    · replace h := Eq.trans (if_pos c2).symm h
      refine lv_tableIn (off := 50) (tgt := 56) hx hb d_Mod_say_1_6 (by rw [c2]; decide) (by rw [c2]; decide) (by rw [c2]; rfl) (by decide) ?_
      refine lv_aload_n hx hb d_Mod_say_1_56 rfl (lv_at hl 0 rfl) ?_
      refine lv_aload_n hx hb d_Mod_say_1_57 rfl (lv_at hl 0 rfl) ?_
      refine mf_one S E hI vt_1280 d_Mod_say_1_58 ?_
      refine lv_iload_n hx hb d_Mod_say_1_61 rfl (lv_at hl 1 rfl) ?_
      by_cases c3 : a1 < 0 ∨ 400000 ≤ (a1 : Int32).toNatClampNeg
      · replace h := Eq.trans (if_pos c3).symm h
        cases h
      · replace h := Eq.trans (if_neg c3).symm h
        refine ml_one S E hI c3 d_Mod_say_1_62 ?_
        refine mg_cV (As := [.int (α.2 3 (a1 : Int32).toNatClampNeg)]) (rest := []) h (k_Mod_saySort (l := l) (g := g) (α := α) N (α.2 3 (a1 : Int32).toNatClampNeg)) S hlocks hno E hI kw_Mod_589 ⟨by omega, by omega⟩ (mv_Mod E hI) rfl hl.1 rfl (Nat.le_of_ble_eq_true rfl) d_Mod_say_1_63 (fun α4 H locs e5 h hI => ?_)
        refine lv_goto (tgt := 381) hx hb d_Mod_say_1_66 (by decide) ?_
        exact mc_vret hx hb hr hlocks E hI h d_Mod_say_1_381
    · replace h := Eq.trans (if_neg c2).symm h
      have nc2 := ksw (z := 0) rfl c2
      by_cases c6 : (α.2 2 (a1 : Int32).toNatClampNeg) = 1
      · replace h := Eq.trans (if_pos c6).symm h
        refine lv_tableIn (off := 63) (tgt := 69) hx hb d_Mod_say_1_6 (by rw [c6]; decide) (by rw [c6]; decide) (by rw [c6]; rfl) (by decide) ?_
        refine lv_aload_n hx hb d_Mod_say_1_69 rfl (lv_at hl 0 rfl) ?_
        refine lv_aload_n hx hb d_Mod_say_1_70 rfl (lv_at hl 0 rfl) ?_
        refine mf_one S E hI vt_1280 d_Mod_say_1_71 ?_
        refine lv_iload_n hx hb d_Mod_say_1_74 rfl (lv_at hl 1 rfl) ?_
        by_cases c7 : a1 < 0 ∨ 400000 ≤ (a1 : Int32).toNatClampNeg
        · replace h := Eq.trans (if_pos c7).symm h
          cases h
        · replace h := Eq.trans (if_neg c7).symm h
          refine ml_one S E hI c7 d_Mod_say_1_75 ?_
          refine mg_cV (As := [.int (α.2 3 (a1 : Int32).toNatClampNeg)]) (rest := []) h (k_Mod_sayName (l := l) (g := g) (α := α) N (α.2 3 (a1 : Int32).toNatClampNeg)) S hlocks hno E hI kw_Mod_592 ⟨by omega, by omega⟩ (mv_Mod E hI) rfl hl.1 rfl (Nat.le_of_ble_eq_true rfl) d_Mod_say_1_76 (fun α8 H locs e9 h hI => ?_)
          refine lv_goto (tgt := 381) hx hb d_Mod_say_1_79 (by decide) ?_
          exact mc_vret hx hb hr hlocks E hI h d_Mod_say_1_381
      · replace h := Eq.trans (if_neg c6).symm h
        have nc6 := ksw (z := 1) rfl c6
        by_cases c10 : (α.2 2 (a1 : Int32).toNatClampNeg) = 2
        · replace h := Eq.trans (if_pos c10).symm h
          refine lv_tableIn (off := 76) (tgt := 82) hx hb d_Mod_say_1_6 (by rw [c10]; decide) (by rw [c10]; decide) (by rw [c10]; rfl) (by decide) ?_
          refine lv_aload_n hx hb d_Mod_say_1_82 rfl (lv_at hl 0 rfl) ?_
          refine mg_ldcw hx hb hown (E.2.2.2.2.1 41 (by decide)) d_Mod_say_1_83 ?_
          refine mg_cV (As := [.ref (kst g.1 41)]) (rest := []) h (k_Mod_say_2 (l := l) (g := g) (α := α) N 41 (by decide)) S hlocks hno E hI kw_Mod_585 ⟨by omega, by omega⟩ (mv_Mod E hI) rfl hl.1 rfl (Nat.le_of_ble_eq_true rfl) d_Mod_say_1_86 (fun α11 H locs e12 h hI => ?_)
          refine lv_aload_n hx hb d_Mod_say_1_89 rfl (lv_at hl 0 rfl) ?_
          refine lv_aload_n hx hb d_Mod_say_1_90 rfl (lv_at hl 0 rfl) ?_
          refine mf_one S E hI vt_1280 d_Mod_say_1_91 ?_
          refine lv_iload_n hx hb d_Mod_say_1_94 rfl (lv_at hl 1 rfl) ?_
          by_cases c13 : a1 < 0 ∨ 400000 ≤ (a1 : Int32).toNatClampNeg
          · replace h := Eq.trans (if_pos c13).symm h
            cases h
          · replace h := Eq.trans (if_neg c13).symm h
            refine ml_one S E hI c13 d_Mod_say_1_95 ?_
            refine mg_cV (As := [.int (α11.2 3 (a1 : Int32).toNatClampNeg)]) (rest := []) h (k_Mod_sayName (l := l) (g := g) (α := α11) N (α11.2 3 (a1 : Int32).toNatClampNeg)) S hlocks hno E hI kw_Mod_592 ⟨by omega, by omega⟩ (mv_Mod E hI) rfl hl.1 rfl (Nat.le_of_ble_eq_true rfl) d_Mod_say_1_96 (fun α14 H locs e15 h hI => ?_)
            refine lv_aload_n hx hb d_Mod_say_1_99 rfl (lv_at hl 0 rfl) ?_
            refine lv_bipush (v := 32) hx hb d_Mod_say_1_100 (by decide) ?_
            refine mg_cV (As := [.int 32]) (rest := []) h (k_Mod_say_0 (l := l) (g := g) (α := α14) N 32) S hlocks hno E hI kw_Mod_580 ⟨by omega, by omega⟩ (mv_Mod E hI) rfl hl.1 rfl (Nat.le_of_ble_eq_true rfl) d_Mod_say_1_102 (fun α16 H locs e17 h hI => ?_)
            refine lv_aload_n hx hb d_Mod_say_1_105 rfl (lv_at hl 0 rfl) ?_
            refine lv_aload_n hx hb d_Mod_say_1_106 rfl (lv_at hl 0 rfl) ?_
            refine mf_two S E hI vt_1281 d_Mod_say_1_107 ?_
            refine lv_iload_n hx hb d_Mod_say_1_110 rfl (lv_at hl 1 rfl) ?_
            by_cases c18 : a1 < 0 ∨ 400000 ≤ (a1 : Int32).toNatClampNeg
            · replace h := Eq.trans (if_pos c18).symm h
              cases h
            · replace h := Eq.trans (if_neg c18).symm h
              refine ml_two S E hI c18 d_Mod_say_1_111 ?_
              refine mg_cV (As := [.int (α16.2 4 (a1 : Int32).toNatClampNeg)]) (rest := []) h (k_Mod_saySort (l := l) (g := g) (α := α16) N (α16.2 4 (a1 : Int32).toNatClampNeg)) S hlocks hno E hI kw_Mod_589 ⟨by omega, by omega⟩ (mv_Mod E hI) rfl hl.1 rfl (Nat.le_of_ble_eq_true rfl) d_Mod_say_1_112 (fun α19 H locs e20 h hI => ?_)
              refine lv_goto (tgt := 381) hx hb d_Mod_say_1_115 (by decide) ?_
              exact mc_vret hx hb hr hlocks E hI h d_Mod_say_1_381
        · replace h := Eq.trans (if_neg c10).symm h
          have nc10 := ksw (z := 2) rfl c10
          by_cases c21 : (α.2 2 (a1 : Int32).toNatClampNeg) = 3
          · replace h := Eq.trans (if_pos c21).symm h
            refine lv_tableIn (off := 328) (tgt := 334) hx hb d_Mod_say_1_6 (by rw [c21]; decide) (by rw [c21]; decide) (by rw [c21]; rfl) (by decide) ?_
            exact J334 a1 a2 _ _ _ _ h hI (lv_sub hl [0, 1, 2] rfl)
          · replace h := Eq.trans (if_neg c21).symm h
            have nc21 := ksw (z := 3) rfl c21
            by_cases c34 : (α.2 2 (a1 : Int32).toNatClampNeg) = 4
            · replace h := Eq.trans (if_pos c34).symm h
              refine lv_tableIn (off := 112) (tgt := 118) hx hb d_Mod_say_1_6 (by rw [c34]; decide) (by rw [c34]; decide) (by rw [c34]; rfl) (by decide) ?_
              refine lv_aload_n hx hb d_Mod_say_1_118 rfl (lv_at hl 0 rfl) ?_
              refine lv_bipush (v := 120) hx hb d_Mod_say_1_119 (by decide) ?_
              refine mg_cV (As := [.int 120]) (rest := []) h (k_Mod_say_0 (l := l) (g := g) (α := α) N 120) S hlocks hno E hI kw_Mod_580 ⟨by omega, by omega⟩ (mv_Mod E hI) rfl hl.1 rfl (Nat.le_of_ble_eq_true rfl) d_Mod_say_1_121 (fun α35 H locs e36 h hI => ?_)
              refine lv_aload_n hx hb d_Mod_say_1_124 rfl (lv_at hl 0 rfl) ?_
              refine lv_iload_n hx hb d_Mod_say_1_125 rfl (lv_at hl 2 rfl) ?_
              refine lv_iconst (v := 1) hx hb d_Mod_say_1_126 (by decide) ?_
              refine lv_isub hx hb d_Mod_say_1_127 ?_
              refine lv_aload_n hx hb d_Mod_say_1_128 rfl (lv_at hl 0 rfl) ?_
              refine mf_one S E hI vt_1280 d_Mod_say_1_129 ?_
              refine lv_iload_n hx hb d_Mod_say_1_132 rfl (lv_at hl 1 rfl) ?_
              by_cases c37 : a1 < 0 ∨ 400000 ≤ (a1 : Int32).toNatClampNeg
              · replace h := Eq.trans (if_pos c37).symm h
                cases h
              · replace h := Eq.trans (if_neg c37).symm h
                refine ml_one S E hI c37 d_Mod_say_1_133 ?_
                refine lv_isub hx hb d_Mod_say_1_134 ?_
                refine mg_cV (As := [.int ((a2 - 1) - (α35.2 3 (a1 : Int32).toNatClampNeg))]) (rest := []) h (((ok_sayNumber (l := l) (g := g) N dp_sayNumber)) ((a2 - 1) - (α35.2 3 (a1 : Int32).toNatClampNeg)) α35) S hlocks hno E hI kw_Mod_582 ⟨by unfold dp_sayNumber; omega, by unfold dp_sayNumber; omega⟩ (mv_Mod E hI) rfl hl.1 rfl (Nat.le_of_ble_eq_true rfl) d_Mod_say_1_135 (fun α38 H locs e39 h hI => ?_)
                refine lv_goto (tgt := 381) hx hb d_Mod_say_1_138 (by decide) ?_
                exact mc_vret hx hb hr hlocks E hI h d_Mod_say_1_381
            · replace h := Eq.trans (if_neg c34).symm h
              have nc34 := ksw (z := 4) rfl c34
              by_cases c40 : (α.2 2 (a1 : Int32).toNatClampNeg) = 5
              · replace h := Eq.trans (if_pos c40).symm h
                refine lv_tableIn (off := 328) (tgt := 334) hx hb d_Mod_say_1_6 (by rw [c40]; decide) (by rw [c40]; decide) (by rw [c40]; rfl) (by decide) ?_
                exact J334 a1 a2 _ _ _ _ h hI (lv_sub hl [0, 1, 2] rfl)
              · replace h := Eq.trans (if_neg c40).symm h
                have nc40 := ksw (z := 5) rfl c40
                by_cases c41 : (α.2 2 (a1 : Int32).toNatClampNeg) = 6
                · replace h := Eq.trans (if_pos c41).symm h
                  refine lv_tableIn (off := 219) (tgt := 225) hx hb d_Mod_say_1_6 (by rw [c41]; decide) (by rw [c41]; decide) (by rw [c41]; rfl) (by decide) ?_
                  refine lv_aload_n hx hb d_Mod_say_1_225 rfl (lv_at hl 0 rfl) ?_
                  refine lv_aload_n hx hb d_Mod_say_1_226 rfl (lv_at hl 0 rfl) ?_
                  refine mf_two S E hI vt_1281 d_Mod_say_1_227 ?_
                  refine lv_iload_n hx hb d_Mod_say_1_230 rfl (lv_at hl 1 rfl) ?_
                  by_cases c42 : a1 < 0 ∨ 400000 ≤ (a1 : Int32).toNatClampNeg
                  · replace h := Eq.trans (if_pos c42).symm h
                    cases h
                  · replace h := Eq.trans (if_neg c42).symm h
                    refine ml_two S E hI c42 d_Mod_say_1_231 ?_
                    refine lv_iconst (v := 0) hx hb d_Mod_say_1_232 (by decide) ?_
                    obtain ⟨v43, e44, h⟩ := Option.bind_eq_some_iff.mp h
                    refine mg_p (As := [.int (α.2 4 (a1 : Int32).toNatClampNeg), .int 0]) (rest := []) ((((ok_bound (l := l) (g := g) N dp_bound)) (α.2 4 (a1 : Int32).toNatClampNeg) 0 α) _ e44) S E hI kw_Mod_370 (Or.inl rfl) ⟨by unfold dp_bound; omega, by unfold dp_bound; omega⟩ (mv_Mod E hI) rfl hl.1 rfl (Nat.le_of_ble_eq_true rfl) d_Mod_say_1_233 rfl ?_
                    refine lv_if_eq (tgt := 258) hx hb d_Mod_say_1_236 (by decide) (fun c45 => ?_) (fun c45 => ?_)
                    · replace h := Eq.trans (if_pos c45).symm h
                      refine lv_aload_n hx hb d_Mod_say_1_258 rfl (lv_at hl 0 rfl) ?_
                      refine lv_aload_n hx hb d_Mod_say_1_259 rfl (lv_at hl 0 rfl) ?_
                      refine mf_one S E hI vt_1280 d_Mod_say_1_260 ?_
                      refine lv_iload_n hx hb d_Mod_say_1_263 rfl (lv_at hl 1 rfl) ?_
                      by_cases c46 : a1 < 0 ∨ 400000 ≤ (a1 : Int32).toNatClampNeg
                      · replace h := Eq.trans (if_pos c46).symm h
                        cases h
                      · replace h := Eq.trans (if_neg c46).symm h
                        refine ml_one S E hI c46 d_Mod_say_1_264 ?_
                        refine lv_iload_n hx hb d_Mod_say_1_265 rfl (lv_at hl 2 rfl) ?_
                        refine lv_aload_n hx hb d_Mod_say_1_266 rfl (lv_at hl 0 rfl) ?_
                        refine lv_aload_n hx hb d_Mod_say_1_267 rfl (lv_at hl 0 rfl) ?_
                        refine mf_one S E hI vt_1280 d_Mod_say_1_268 ?_
                        refine lv_iload_n hx hb d_Mod_say_1_271 rfl (lv_at hl 1 rfl) ?_
                        by_cases c47 : a1 < 0 ∨ 400000 ≤ (a1 : Int32).toNatClampNeg
                        · replace h := Eq.trans (if_pos c47).symm h
                          cases h
                        · replace h := Eq.trans (if_neg c47).symm h
                          refine ml_one S E hI c47 d_Mod_say_1_272 ?_
                          obtain ⟨v48, e49, h⟩ := Option.bind_eq_some_iff.mp h
                          refine mg_p (As := [.int (α.2 3 (a1 : Int32).toNatClampNeg)]) (rest := [.int a2, .int (α.2 3 (a1 : Int32).toNatClampNeg), .ref (mad g 0)]) ((k_Mod_binds (l := l) (g := g) (α := α) N (α.2 3 (a1 : Int32).toNatClampNeg)) _ e49) S E hI kw_Mod_597 (Or.inl rfl) ⟨by omega, by omega⟩ (mv_Mod E hI) rfl hl.1 rfl (Nat.le_of_ble_eq_true rfl) d_Mod_say_1_273 rfl ?_
                          refine mg_cV (As := [.int (α.2 3 (a1 : Int32).toNatClampNeg), .int a2, .int v48]) (rest := []) h (hk.2.1 (α.2 3 (a1 : Int32).toNatClampNeg) a2 v48 α) S hlocks hno E hI kw_Mod_600 ⟨by omega, by omega⟩ (mv_Mod E hI) rfl hl.1 rfl (Nat.le_of_ble_eq_true rfl) d_Mod_say_1_276 (fun α50 H locs e51 h hI => ?_)
                          refine lv_aload_n hx hb d_Mod_say_1_279 rfl (lv_at hl 0 rfl) ?_
                          refine mg_ldcw hx hb hown (E.2.2.2.2.1 45 (by decide)) d_Mod_say_1_280 ?_
                          refine mg_cV (As := [.ref (kst g.1 45)]) (rest := []) h (k_Mod_say_2 (l := l) (g := g) (α := α50) N 45 (by decide)) S hlocks hno E hI kw_Mod_585 ⟨by omega, by omega⟩ (mv_Mod E hI) rfl hl.1 rfl (Nat.le_of_ble_eq_true rfl) d_Mod_say_1_283 (fun α52 H locs e53 h hI => ?_)
                          exact J286 a1 a2 _ _ _ _ h hI (lv_sub hl [0, 1, 2] rfl)
                    · replace h := Eq.trans (if_neg c45).symm h
                      refine lv_aload_n hx hb d_Mod_say_1_239 rfl (lv_at hl 0 rfl) ?_
                      refine mg_ldcw hx hb hown (E.2.2.2.2.1 42 (by decide)) d_Mod_say_1_240 ?_
                      refine lv_iload_n hx hb d_Mod_say_1_243 rfl (lv_at hl 1 rfl) ?_
                      refine lv_iload_n hx hb d_Mod_say_1_244 rfl (lv_at hl 2 rfl) ?_
                      refine mg_cV (As := [.ref (kst g.1 42), .int a1, .int a2]) (rest := []) h (hk.1 42 a1 a2 (by decide) α) S hlocks hno E hI kw_Mod_606 ⟨by omega, by omega⟩ (mv_Mod E hI) rfl hl.1 rfl (Nat.le_of_ble_eq_true rfl) d_Mod_say_1_245 (fun α57 H locs e58 h hI => ?_)
                      refine lv_aload_n hx hb d_Mod_say_1_248 rfl (lv_at hl 0 rfl) ?_
                      refine mg_ldcw hx hb hown (E.2.2.2.2.1 44 (by decide)) d_Mod_say_1_249 ?_
                      refine mg_cV (As := [.ref (kst g.1 44)]) (rest := []) h (k_Mod_say_2 (l := l) (g := g) (α := α57) N 44 (by decide)) S hlocks hno E hI kw_Mod_585 ⟨by omega, by omega⟩ (mv_Mod E hI) rfl hl.1 rfl (Nat.le_of_ble_eq_true rfl) d_Mod_say_1_252 (fun α59 H locs e60 h hI => ?_)
                      refine lv_goto (tgt := 286) hx hb d_Mod_say_1_255 (by decide) ?_
                      exact J286 a1 a2 _ _ _ _ h hI (lv_sub hl [0, 1, 2] rfl)
                · replace h := Eq.trans (if_neg c41).symm h
                  have nc41 := ksw (z := 6) rfl c41
                  by_cases c61 : (α.2 2 (a1 : Int32).toNatClampNeg) = 7
                  · replace h := Eq.trans (if_pos c61).symm h
                    refine lv_tableIn (off := 296) (tgt := 302) hx hb d_Mod_say_1_6 (by rw [c61]; decide) (by rw [c61]; decide) (by rw [c61]; rfl) (by decide) ?_
                    refine lv_aload_n hx hb d_Mod_say_1_302 rfl (lv_at hl 0 rfl) ?_
                    refine mg_ldcw hx hb hown (E.2.2.2.2.1 46 (by decide)) d_Mod_say_1_303 ?_
                    refine lv_iload_n hx hb d_Mod_say_1_306 rfl (lv_at hl 1 rfl) ?_
                    refine lv_iload_n hx hb d_Mod_say_1_307 rfl (lv_at hl 2 rfl) ?_
                    refine mg_cV (As := [.ref (kst g.1 46), .int a1, .int a2]) (rest := []) h (hk.1 46 a1 a2 (by decide) α) S hlocks hno E hI kw_Mod_606 ⟨by omega, by omega⟩ (mv_Mod E hI) rfl hl.1 rfl (Nat.le_of_ble_eq_true rfl) d_Mod_say_1_308 (fun α62 H locs e63 h hI => ?_)
                    refine lv_aload_n hx hb d_Mod_say_1_311 rfl (lv_at hl 0 rfl) ?_
                    refine mg_ldcw hx hb hown (E.2.2.2.2.1 47 (by decide)) d_Mod_say_1_312 ?_
                    refine mg_cV (As := [.ref (kst g.1 47)]) (rest := []) h (k_Mod_say_2 (l := l) (g := g) (α := α62) N 47 (by decide)) S hlocks hno E hI kw_Mod_585 ⟨by omega, by omega⟩ (mv_Mod E hI) rfl hl.1 rfl (Nat.le_of_ble_eq_true rfl) d_Mod_say_1_315 (fun α64 H locs e65 h hI => ?_)
                    refine lv_aload_n hx hb d_Mod_say_1_318 rfl (lv_at hl 0 rfl) ?_
                    refine lv_aload_n hx hb d_Mod_say_1_319 rfl (lv_at hl 0 rfl) ?_
                    refine mf_two S E hI vt_1281 d_Mod_say_1_320 ?_
                    refine lv_iload_n hx hb d_Mod_say_1_323 rfl (lv_at hl 1 rfl) ?_
                    by_cases c66 : a1 < 0 ∨ 400000 ≤ (a1 : Int32).toNatClampNeg
                    · replace h := Eq.trans (if_pos c66).symm h
                      cases h
                    · replace h := Eq.trans (if_neg c66).symm h
                      refine ml_two S E hI c66 d_Mod_say_1_324 ?_
                      refine lv_iload_n hx hb d_Mod_say_1_325 rfl (lv_at hl 2 rfl) ?_
                      refine lv_iconst (v := 1) hx hb d_Mod_say_1_326 (by decide) ?_
                      refine lv_iadd hx hb d_Mod_say_1_327 ?_
                      refine mg_cV (As := [.int (α64.2 4 (a1 : Int32).toNatClampNeg), .int (a2 + 1)]) (rest := []) h (hk.2.2 (α64.2 4 (a1 : Int32).toNatClampNeg) (a2 + 1) α64) S hlocks hno E hI kw_Mod_531 ⟨by omega, by omega⟩ (mv_Mod E hI) rfl hl.1 rfl (Nat.le_of_ble_eq_true rfl) d_Mod_say_1_328 (fun α67 H locs e68 h hI => ?_)
                      refine lv_goto (tgt := 381) hx hb d_Mod_say_1_331 (by decide) ?_
                      exact mc_vret hx hb hr hlocks E hI h d_Mod_say_1_381
                  · replace h := Eq.trans (if_neg c61).symm h
                    have nc61 := ksw (z := 7) rfl c61
                    by_cases c69 : (α.2 2 (a1 : Int32).toNatClampNeg) = 8
                    · replace h := Eq.trans (if_pos c69).symm h
                      refine lv_tableIn (off := 135) (tgt := 141) hx hb d_Mod_say_1_6 (by rw [c69]; decide) (by rw [c69]; decide) (by rw [c69]; rfl) (by decide) ?_
                      refine lv_aload_n hx hb d_Mod_say_1_141 rfl (lv_at hl 0 rfl) ?_
                      refine lv_iload_n hx hb d_Mod_say_1_142 rfl (lv_at hl 1 rfl) ?_
                      obtain ⟨v70, e71, h⟩ := Option.bind_eq_some_iff.mp h
                      refine mg_p (As := [.int a1]) (rest := []) ((k_Mod_behind (l := l) (g := g) (α := α) N a1) _ e71) S E hI kw_Mod_449 (Or.inl rfl) ⟨by omega, by omega⟩ (mv_Mod E hI) rfl hl.1 rfl (Nat.le_of_ble_eq_true rfl) d_Mod_say_1_143 rfl ?_
                      refine lv_istore_n (lv' := [(3, .int v70), (0, .ref (mad g 0)), (1, .int a1), (2, .int a2)]) hx hb d_Mod_say_1_146 rfl hl (by decide) rfl (fun ls hl => ?_)
                      refine lv_aload_n hx hb d_Mod_say_1_147 rfl (lv_at hl 1 rfl) ?_
                      refine lv_iload_n hx hb d_Mod_say_1_148 rfl (lv_at hl 2 rfl) ?_
                      obtain ⟨v72, e73, h⟩ := Option.bind_eq_some_iff.mp h
                      refine mg_p (As := [.int a1]) (rest := []) ((k_Mod_head (l := l) (g := g) (α := α) N a1) _ e73) S E hI kw_Mod_446 (Or.inl rfl) ⟨by omega, by omega⟩ (mv_Mod E hI) rfl hl.1 rfl (Nat.le_of_ble_eq_true rfl) d_Mod_say_1_149 rfl ?_
                      refine lv_istore (lv' := [(4, .int v72), (3, .int v70), (0, .ref (mad g 0)), (1, .int a1), (2, .int a2)]) hx hb d_Mod_say_1_152 hl (by decide) rfl (fun ls hl => ?_)
                      refine lv_aload_n hx hb d_Mod_say_1_154 rfl (lv_at hl 2 rfl) ?_
                      refine lv_iload hx hb d_Mod_say_1_155 (lv_at hl 0 rfl) ?_
                      refine lv_iload_n hx hb d_Mod_say_1_157 rfl (lv_at hl 4 rfl) ?_
                      refine lv_aload_n hx hb d_Mod_say_1_158 rfl (lv_at hl 2 rfl) ?_
                      refine lv_iload hx hb d_Mod_say_1_159 (lv_at hl 0 rfl) ?_
                      obtain ⟨v74, e75, h⟩ := Option.bind_eq_some_iff.mp h
                      refine mg_p (As := [.int v72]) (rest := [.int a2, .int v72, .ref (mad g 0)]) ((k_Mod_binds (l := l) (g := g) (α := α) N v72) _ e75) S E hI kw_Mod_597 (Or.inl rfl) ⟨by omega, by omega⟩ (mv_Mod E hI) rfl hl.1 rfl (Nat.le_of_ble_eq_true rfl) d_Mod_say_1_161 rfl ?_
                      refine mg_cV (As := [.int v72, .int a2, .int v74]) (rest := []) h (hk.2.1 v72 a2 v74 α) S hlocks hno E hI kw_Mod_600 ⟨by omega, by omega⟩ (mv_Mod E hI) rfl hl.1 rfl (Nat.le_of_ble_eq_true rfl) d_Mod_say_1_164 (fun α76 H locs e77 h hI => ?_)
                      refine lv_iconst (v := 0) hx hb d_Mod_say_1_167 (by decide) ?_
                      refine lv_istore (lv' := [(5, .int 0), (4, .int v72), (3, .int v70), (0, .ref (mad g 0)), (1, .int a1), (2, .int a2)]) hx hb d_Mod_say_1_168 hl (by decide) rfl (fun ls hl => ?_)
                      have L170 : ∀ (n170 : Nat) (x5_170 : Int32) (x3_170 : Int32) (x1_170 : Int32) (x2_170 : Int32) (β170 : mS) (H : Heap) (locs : List Loc) (ls : Array Slot), f_Mod_say_1_170 N kk n170 x5_170 x3_170 x1_170 x2_170 β170 = some x → mI g A s β170 H locs → lv_has ls 7 [(5, .int x5_170), (3, .int x3_170), (0, .ref (mad g 0)), (1, .int x1_170), (2, .int x2_170)] → W p l e (mR (262 + (d + 1)) (6004 + 26 * (d + 1))) s m ([.ref (mad g 0), .int a1, .int a2]).toArray below meth c H locs 0 0 (vEQ below (mQ g A (mQr x)) ([.ref (mad g 0), .int a1, .int a2]).toArray s A) (F0 m 170 ls []) := by
                        intro n170
                        induction n170 with
                        | zero => intro x5_170 x3_170 x1_170 x2_170 β170 H locs ls h hI hl; rw [f_Mod_say_1_170] at h; cases h
                        | succ n170 ih170 =>
                          intro x5_170 x3_170 x1_170 x2_170 β170 H locs ls h hI hl
                          rw [f_Mod_say_1_170] at h
                          refine lv_iload hx hb d_Mod_say_1_170 (lv_at hl 0 rfl) ?_
                          refine lv_iload_n hx hb d_Mod_say_1_172 rfl (lv_at hl 1 rfl) ?_
                          refine lv_icmp_ge (tgt := 222) hx hb d_Mod_say_1_173 (by decide) (fun c78 => ?_) (fun c78 => ?_)
                          · replace h := Eq.trans (if_pos c78).symm h
                            refine lv_goto (tgt := 381) hx hb d_Mod_say_1_222 (by decide) ?_
                            exact mc_vret hx hb hr hlocks E hI h d_Mod_say_1_381
                          · replace h := Eq.trans (if_neg c78).symm h
                            refine lv_aload_n hx hb d_Mod_say_1_176 rfl (lv_at hl 2 rfl) ?_
                            refine lv_iload_n hx hb d_Mod_say_1_177 rfl (lv_at hl 3 rfl) ?_
                            refine lv_iload_n hx hb d_Mod_say_1_178 rfl (lv_at hl 1 rfl) ?_
                            refine lv_iload hx hb d_Mod_say_1_179 (lv_at hl 0 rfl) ?_
                            obtain ⟨v79, e80, h⟩ := Option.bind_eq_some_iff.mp h
                            refine mg_p (As := [.int x1_170, .int x3_170, .int x5_170]) (rest := []) ((k_Mod_nth (l := l) (g := g) (α := β170) N x1_170 x3_170 x5_170) _ e80) S E hI kw_Mod_440 (Or.inl rfl) ⟨by omega, by omega⟩ (mv_Mod E hI) rfl hl.1 rfl (Nat.le_of_ble_eq_true rfl) d_Mod_say_1_181 rfl ?_
                            refine lv_istore (lv' := [(6, .int v79), (5, .int x5_170), (3, .int x3_170), (0, .ref (mad g 0)), (1, .int x1_170), (2, .int x2_170)]) hx hb d_Mod_say_1_184 hl (by decide) rfl (fun ls hl => ?_)
                            refine lv_aload_n hx hb d_Mod_say_1_186 rfl (lv_at hl 3 rfl) ?_
                            refine lv_bipush (v := 32) hx hb d_Mod_say_1_187 (by decide) ?_
                            refine mg_cV (As := [.int 32]) (rest := []) h (k_Mod_say_0 (l := l) (g := g) (α := β170) N 32) S hlocks hno E hI kw_Mod_580 ⟨by omega, by omega⟩ (mv_Mod E hI) rfl hl.1 rfl (Nat.le_of_ble_eq_true rfl) d_Mod_say_1_189 (fun α81 H locs e82 h hI => ?_)
                            refine lv_aload_n hx hb d_Mod_say_1_192 rfl (lv_at hl 3 rfl) ?_
                            refine lv_iload hx hb d_Mod_say_1_193 (lv_at hl 0 rfl) ?_
                            refine lv_iload_n hx hb d_Mod_say_1_195 rfl (lv_at hl 5 rfl) ?_
                            refine lv_aload_n hx hb d_Mod_say_1_196 rfl (lv_at hl 3 rfl) ?_
                            refine mf_kind S E hI vt_1279 d_Mod_say_1_197 ?_
                            refine lv_iload hx hb d_Mod_say_1_200 (lv_at hl 0 rfl) ?_
                            by_cases c83 : v79 < 0 ∨ 400000 ≤ (v79 : Int32).toNatClampNeg
                            · replace h := Eq.trans (if_pos c83).symm h
                              cases h
                            · replace h := Eq.trans (if_neg c83).symm h
                              refine ml_kind S E hI c83 d_Mod_say_1_202 ?_
                              refine lv_bipush (v := 6) hx hb d_Mod_say_1_203 (by decide) ?_
                              refine lv_icmp_lt (tgt := 212) hx hb d_Mod_say_1_205 (by decide) (fun c84 => ?_) (fun c84 => ?_)
                              · replace h := Eq.trans (if_pos c84).symm h
                                refine lv_iconst (v := 0) hx hb d_Mod_say_1_212 (by decide) ?_
                                refine mg_cV (As := [.int v79, .int x2_170, .int 0]) (rest := []) h (hk.2.1 v79 x2_170 0 α81) S hlocks hno E hI kw_Mod_600 ⟨by omega, by omega⟩ (mv_Mod E hI) rfl hl.1 rfl (Nat.le_of_ble_eq_true rfl) d_Mod_say_1_213 (fun α85 H locs e86 h hI => ?_)
                                refine lv_iinc (v := (x5_170 + 1)) (lv' := [(5, .int (x5_170 + 1)), (6, .int v79), (3, .int x3_170), (0, .ref (mad g 0)), (1, .int x1_170), (2, .int x2_170)]) hx hb d_Mod_say_1_216 hl (k := 1) rfl rfl (by decide) rfl (fun ls hl => ?_)
                                refine lv_goto (tgt := 170) hx hb d_Mod_say_1_219 (by decide) ?_
                                exact ih170 (x5_170 + 1) x3_170 x1_170 x2_170 _ _ _ _ h hI (lv_sub hl [0, 2, 3, 4, 5] rfl)
                              · replace h := Eq.trans (if_neg c84).symm h
                                refine lv_iconst (v := 1) hx hb d_Mod_say_1_208 (by decide) ?_
                                refine lv_goto (tgt := 213) hx hb d_Mod_say_1_209 (by decide) ?_
                                refine mg_cV (As := [.int v79, .int x2_170, .int 1]) (rest := []) h (hk.2.1 v79 x2_170 1 α81) S hlocks hno E hI kw_Mod_600 ⟨by omega, by omega⟩ (mv_Mod E hI) rfl hl.1 rfl (Nat.le_of_ble_eq_true rfl) d_Mod_say_1_213 (fun α87 H locs e88 h hI => ?_)
                                refine lv_iinc (v := (x5_170 + 1)) (lv' := [(5, .int (x5_170 + 1)), (6, .int v79), (3, .int x3_170), (0, .ref (mad g 0)), (1, .int x1_170), (2, .int x2_170)]) hx hb d_Mod_say_1_216 hl (k := 1) rfl rfl (by decide) rfl (fun ls hl => ?_)
                                refine lv_goto (tgt := 170) hx hb d_Mod_say_1_219 (by decide) ?_
                                exact ih170 (x5_170 + 1) x3_170 x1_170 x2_170 _ _ _ _ h hI (lv_sub hl [0, 2, 3, 4, 5] rfl)
                      exact L170 N 0 v70 a1 a2 _ _ _ _ h hI (lv_sub hl [0, 2, 3, 4, 5] rfl)
                    · replace h := Eq.trans (if_neg c69).symm h
                      have nc69 := ksw (z := 8) rfl c69
                      refine lv_tableOut (tgt := 334) hx hb d_Mod_say_1_6 (by omega) (by decide) ?_
                      exact J334 a1 a2 _ _ _ _ h hI (lv_sub hl [0, 1, 2] rfl)
def G_sayBinder (N : Nat) : Nat → (Nat → Int32 → Int32 → mS → Option (kO × mS)) × (Int32 → Int32 → Int32 → mS → Option (kO × mS)) × (Int32 → Int32 → mS → Option (kO × mS))
  | 0 => (fun _ _ _ _ => none, fun _ _ _ _ => none, fun _ _ _ => none)
  | d + 1 => (f_Mod_sayBinder N (G_sayBinder N d), f_Mod_sayIn N (G_sayBinder N d), f_Mod_say_1 N (G_sayBinder N d))
theorem ok_sayBinder {l : Launch} {g : mG} (N : Nat) : ∀ d, hk_sayBinder l g (G_sayBinder N d) (262 + d) (6004 + 26 * d)
  | 0 => ⟨(fun r1 a2 a3 hr1 α x h => by cases h), (fun a1 a2 a3  α x h => by cases h), (fun a1 a2  α x h => by cases h)⟩
  | d + 1 => by
    have ih := ok_sayBinder (l := l) (g := g) N d
    exact ⟨(fun r1 a2 a3 hr1 α x h => k_Mod_sayBinder (α := α) N _ d ih r1 a2 a3 hr1 x h), (fun a1 a2 a3  α x h => k_Mod_sayIn (α := α) N _ d ih a1 a2 a3  x h), (fun a1 a2  α x h => k_Mod_say_1 (α := α) N _ d ih a1 a2  x h)⟩
def dp_sayBinder : Nat := 820
