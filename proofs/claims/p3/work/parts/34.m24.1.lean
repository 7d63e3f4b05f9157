theorem kw_Mod_585 : kWv "FamilyKernelModel" 585 "FamilyKernelModel" y_Mod_say_2 b_Mod_say_2 3 none 1 := ⟨vt_1717, vt_1718, vt_1719, vt_1349, vt_1720, by decide, by decide, by decide +kernel⟩
def f_Mod_saySort (N : Nat) (a1 : Int32) (α : mS) : Option (kO × mS) := if a1 = 0 then (mBv (f_Mod_say_2 N 38 α) fun α6 => (some (some none, α6))) else (mBv (f_Mod_say_2 N 40 α) fun α2 => (mBv ((G_sayNumber N dp_sayNumber) (a1 - 1) α2) fun α4 => (some (some none, α4))))
set_option maxHeartbeats 4000000 in
set_option maxRecDepth 100000 in
theorem k_Mod_saySort {l : Launch} {g : mG} {α : mS} (N : Nat) (a1 : Int32)  : ∀ x, f_Mod_saySort N a1 α = some x → mC l g y_Mod_saySort b_Mod_saySort 2 none (15) (295) [.ref (mad g 0), .int a1] α (mQr x) := by
  intro x h
  unfold f_Mod_saySort at h
  refine mc_ofW (by decide) (fun A p e s m args below meth c S hr hlocks hno hargs E hI => ?_)
  have hx := S.1
  have hb := S.2.1
  have hown := S.2.2.2.1
  have hT := S.2.2.2.2
  subst hargs
  have hl := lv_entry ([.ref (mad g 0), .int a1]) (n := 2) (Nat.le_of_ble_eq_true rfl)
  rw [lg_entry_eq]
  generalize (lg_sl ([.ref (mad g 0), .int a1]) ++ List.replicate (2 - (lg_sl ([.ref (mad g 0), .int a1])).length) Slot.unset).toArray = ls at hl ⊢
  have hl : lv_has ls 2 [(0, .ref (mad g 0)), (1, .int a1)] := hl
  refine lv_iload_n hx hb d_Mod_saySort_0 rfl (lv_at hl 1 rfl) ?_
  refine lv_if_ne (tgt := 14) hx hb d_Mod_saySort_1 (by decide) (fun c1 => ?_) (fun c1 => ?_)
  · replace h := Eq.trans (if_neg c1).symm h
    refine lv_aload_n hx hb d_Mod_saySort_14 rfl (lv_at hl 0 rfl) ?_
    refine mg_ldcw hx hb hown (E.2.2.2.2.1 40 (by decide)) d_Mod_saySort_15 ?_
    refine mg_cV (As := [.ref (kst g.1 40)]) (rest := []) h (k_Mod_say_2 (l := l) (g := g) (α := α) N 40 (by decide)) S hlocks hno E hI kw_Mod_585 ⟨Nat.le_of_ble_eq_true rfl, Nat.le_of_ble_eq_true rfl⟩ (mv_Mod E hI) rfl hl.1 rfl (Nat.le_of_ble_eq_true rfl) d_Mod_saySort_18 (fun α2 H locs e3 h hI => ?_)
    refine lv_aload_n hx hb d_Mod_saySort_21 rfl (lv_at hl 0 rfl) ?_
    refine lv_iload_n hx hb d_Mod_saySort_22 rfl (lv_at hl 1 rfl) ?_
    refine lv_iconst (v := 1) hx hb d_Mod_saySort_23 (by decide) ?_
    refine lv_isub hx hb d_Mod_saySort_24 ?_
    refine mg_cV (As := [.int (a1 - 1)]) (rest := []) h (((ok_sayNumber (l := l) (g := g) N dp_sayNumber)) (a1 - 1) α2) S hlocks hno E hI kw_Mod_582 ⟨Nat.le_of_ble_eq_true rfl, Nat.le_of_ble_eq_true rfl⟩ (mv_Mod E hI) rfl hl.1 rfl (Nat.le_of_ble_eq_true rfl) d_Mod_saySort_25 (fun α4 H locs e5 h hI => ?_)
    exact mc_vret hx hb hr hlocks E hI h d_Mod_saySort_28
  · replace h := Eq.trans (if_pos c1).symm h
    refine lv_aload_n hx hb d_Mod_saySort_4 rfl (lv_at hl 0 rfl) ?_
    refine mg_ldcw hx hb hown (E.2.2.2.2.1 38 (by decide)) d_Mod_saySort_5 ?_
    refine mg_cV (As := [.ref (kst g.1 38)]) (rest := []) h (k_Mod_say_2 (l := l) (g := g) (α := α) N 38 (by decide)) S hlocks hno E hI kw_Mod_585 ⟨Nat.le_of_ble_eq_true rfl, Nat.le_of_ble_eq_true rfl⟩ (mv_Mod E hI) rfl hl.1 rfl (Nat.le_of_ble_eq_true rfl) d_Mod_saySort_8 (fun α6 H locs e7 h hI => ?_)
    refine lv_goto (tgt := 28) hx hb d_Mod_saySort_11 (by decide) ?_
    exact mc_vret hx hb hr hlocks E hI h d_Mod_saySort_28
def f_Mod_sayName_2 (N : Nat)  : Nat → Int32 → Int32 → mS → Option (kO × mS)
  | 0, _, _, _ => none
  | n + 1, x2_2, x1_2, β2 => if x1_2 < 0 ∨ 301 ≤ (x1_2 : Int32).toNatClampNeg then none else (if (β2.2 11 (x1_2 : Int32).toNatClampNeg) ≤ x2_2 then (some (some none, β2)) else (if x1_2 < 0 ∨ 301 ≤ (x1_2 : Int32).toNatClampNeg then none else (if ((β2.2 10 (x1_2 : Int32).toNatClampNeg) + x2_2) < 0 ∨ 9400 ≤ (((β2.2 10 (x1_2 : Int32).toNatClampNeg) + x2_2) : Int32).toNatClampNeg then none else (mBv (f_Mod_say_0 N (β2.2 9 (((β2.2 10 (x1_2 : Int32).toNatClampNeg) + x2_2) : Int32).toNatClampNeg) β2) fun α5 => (f_Mod_sayName_2 N n (x2_2 + 1) x1_2 α5)))))
def f_Mod_sayName (N : Nat) (a1 : Int32) (α : mS) : Option (kO × mS) := f_Mod_sayName_2 N N 0 a1 α
set_option maxHeartbeats 4000000 in
set_option maxRecDepth 100000 in
theorem k_Mod_sayName {l : Launch} {g : mG} {α : mS} (N : Nat) (a1 : Int32)  : ∀ x, f_Mod_sayName N a1 α = some x → mC l g y_Mod_sayName b_Mod_sayName 3 none (2) (22) [.ref (mad g 0), .int a1] α (mQr x) := by
  intro x h
  unfold f_Mod_sayName at h
  refine mc_ofW (by decide) (fun A p e s m args below meth c S hr hlocks hno hargs E hI => ?_)
  have hx := S.1
  have hb := S.2.1
  have hown := S.2.2.2.1
  have hT := S.2.2.2.2
  subst hargs
  have hl := lv_entry ([.ref (mad g 0), .int a1]) (n := 3) (Nat.le_of_ble_eq_true rfl)
  rw [lg_entry_eq]
  generalize (lg_sl ([.ref (mad g 0), .int a1]) ++ List.replicate (3 - (lg_sl ([.ref (mad g 0), .int a1])).length) Slot.unset).toArray = ls at hl ⊢
  have hl : lv_has ls 3 [(0, .ref (mad g 0)), (1, .int a1)] := hl
  refine lv_iconst (v := 0) hx hb d_Mod_sayName_0 (by decide) ?_
  refine lv_istore_n (lv' := [(2, .int 0), (0, .ref (mad g 0)), (1, .int a1)]) hx hb d_Mod_sayName_1 rfl hl (by decide) rfl (fun ls hl => ?_)
  have L2 : ∀ (n2 : Nat) (x2_2 : Int32) (x1_2 : Int32) (β2 : mS) (H : Heap) (locs : List Loc) (ls : Array Slot), f_Mod_sayName_2 N n2 x2_2 x1_2 β2 = some x → mI g A s β2 H locs → lv_has ls 3 [(2, .int x2_2), (0, .ref (mad g 0)), (1, .int x1_2)] → W p l e (mR (2) (22)) s m ([.ref (mad g 0), .int a1]).toArray below meth c H locs 0 0 (vEQ below (mQ g A (mQr x)) ([.ref (mad g 0), .int a1]).toArray s A) (F0 m 2 ls []) := by
    intro n2
    induction n2 with
    | zero => intro x2_2 x1_2 β2 H locs ls h hI hl; rw [f_Mod_sayName_2] at h; cases h
    | succ n2 ih2 =>
      intro x2_2 x1_2 β2 H locs ls h hI hl
      rw [f_Mod_sayName_2] at h
      refine lv_iload_n hx hb d_Mod_sayName_2 rfl (lv_at hl 0 rfl) ?_
      refine lv_aload_n hx hb d_Mod_sayName_3 rfl (lv_at hl 1 rfl) ?_
      refine mf_wordSize S E hI vt_1293 d_Mod_sayName_4 ?_
      refine lv_iload_n hx hb d_Mod_sayName_7 rfl (lv_at hl 2 rfl) ?_
      by_cases c1 : x1_2 < 0 ∨ 301 ≤ (x1_2 : Int32).toNatClampNeg
      · replace h := Eq.trans (if_pos c1).symm h
        cases h
      · replace h := Eq.trans (if_neg c1).symm h
        refine ml_wordSize S E hI c1 d_Mod_sayName_8 ?_
        refine lv_icmp_ge (tgt := 35) hx hb d_Mod_sayName_9 (by decide) (fun c2 => ?_) (fun c2 => ?_)
        · replace h := Eq.trans (if_pos c2).symm h
          exact mc_vret hx hb hr hlocks E hI h d_Mod_sayName_35
        · replace h := Eq.trans (if_neg c2).symm h
          refine lv_aload_n hx hb d_Mod_sayName_12 rfl (lv_at hl 1 rfl) ?_
          refine lv_aload_n hx hb d_Mod_sayName_13 rfl (lv_at hl 1 rfl) ?_
          refine mf_words S E hI vt_1291 d_Mod_sayName_14 ?_
          refine lv_aload_n hx hb d_Mod_sayName_17 rfl (lv_at hl 1 rfl) ?_
          refine mf_wordAt S E hI vt_1292 d_Mod_sayName_18 ?_
          refine lv_iload_n hx hb d_Mod_sayName_21 rfl (lv_at hl 2 rfl) ?_
          by_cases c3 : x1_2 < 0 ∨ 301 ≤ (x1_2 : Int32).toNatClampNeg
          · replace h := Eq.trans (if_pos c3).symm h
            cases h
          · replace h := Eq.trans (if_neg c3).symm h
            refine ml_wordAt S E hI c3 d_Mod_sayName_22 ?_
            refine lv_iload_n hx hb d_Mod_sayName_23 rfl (lv_at hl 0 rfl) ?_
            refine lv_iadd hx hb d_Mod_sayName_24 ?_
            by_cases c4 : ((β2.2 10 (x1_2 : Int32).toNatClampNeg) + x2_2) < 0 ∨ 9400 ≤ (((β2.2 10 (x1_2 : Int32).toNatClampNeg) + x2_2) : Int32).toNatClampNeg
            · replace h := Eq.trans (if_pos c4).symm h
              cases h
            · replace h := Eq.trans (if_neg c4).symm h
              refine ml_words S E hI c4 d_Mod_sayName_25 ?_
              refine mg_cV (As := [.int (β2.2 9 (((β2.2 10 (x1_2 : Int32).toNatClampNeg) + x2_2) : Int32).toNatClampNeg)]) (rest := []) h (k_Mod_say_0 (l := l) (g := g) (α := β2) N (β2.2 9 (((β2.2 10 (x1_2 : Int32).toNatClampNeg) + x2_2) : Int32).toNatClampNeg)) S hlocks hno E hI kw_Mod_580 ⟨Nat.le_of_ble_eq_true rfl, Nat.le_of_ble_eq_true rfl⟩ (mv_Mod E hI) rfl hl.1 rfl (Nat.le_of_ble_eq_true rfl) d_Mod_sayName_26 (fun α5 H locs e6 h hI => ?_)
              refine lv_iinc (v := (x2_2 + 1)) (lv' := [(2, .int (x2_2 + 1)), (0, .ref (mad g 0)), (1, .int x1_2)]) hx hb d_Mod_sayName_29 hl (k := 0) rfl rfl (by decide) rfl (fun ls hl => ?_)
              refine lv_goto (tgt := 2) hx hb d_Mod_sayName_32 (by decide) ?_
              exact ih2 (x2_2 + 1) x1_2 _ _ _ _ h hI (lv_sub hl [0, 1, 2] rfl)
  exact L2 N 0 a1 _ _ _ _ h hI (lv_sub hl [0, 1, 2] rfl)
