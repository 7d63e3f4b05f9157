def f_Terms_isUntouched (a1 : Int32) (a2 : Int32) (a3 : Int32) (a4 : Int32) (α : kS) : Int32 := if a1 = 5 then (0) else (if a1 = 2 then (if a3 < (f_Terms_free a2 α) then (0) else (1)) else (if a4 < (f_Terms_loose a2 α) then (0) else (1)))
set_option maxHeartbeats 4000000 in
set_option maxRecDepth 100000 in
theorem k_Terms_isUntouched {l : Launch} {g : kG} {α : kS} (a1 : Int32) (a2 : Int32) (a3 : Int32) (a4 : Int32)  : kV l g y_Terms_isUntouched b_Terms_isUntouched 5 (some .boolean) 2 22 [.ref (kad g 2), .int a1, .int a2, .int a3, .int a4] α (f_Terms_isUntouched a1 a2 a3 a4 α) := by
  generalize h : f_Terms_isUntouched a1 a2 a3 a4 α = x
  unfold f_Terms_isUntouched at h
  refine kv_ofW (by decide) (fun A ad p e s m args below meth c S hr hlocks hargs E hJ => ?_)
  have hx := S.1
  have hb := S.2.1
  have hown := S.2.2.2.1
  have hT := S.2.2.2.2
  subst hargs
  have hl := lv_entry ([.ref (kad g 2), .int a1, .int a2, .int a3, .int a4]) (n := 5) (Nat.le_of_ble_eq_true rfl)
  rw [lg_entry_eq]
  generalize (lg_sl ([.ref (kad g 2), .int a1, .int a2, .int a3, .int a4]) ++ List.replicate (5 - (lg_sl ([.ref (kad g 2), .int a1, .int a2, .int a3, .int a4])).length) Slot.unset).toArray = ls at hl ⊢
  have hl : lv_has ls 5 [(0, .ref (kad g 2)), (1, .int a1), (2, .int a2), (3, .int a3), (4, .int a4)] := hl
  refine lv_iload_n hx hb d_Terms_isUntouched_0 rfl (lv_at hl 1 rfl) ?_
  refine lv_iconst (v := 5) hx hb d_Terms_isUntouched_1 (by decide) ?_
  refine lv_icmp_ne (tgt := 7) hx hb d_Terms_isUntouched_2 (by decide) (fun c1 => ?_) (fun c1 => ?_)
  · replace h := Eq.trans (if_neg c1).symm h
    refine lv_iload_n hx hb d_Terms_isUntouched_7 rfl (lv_at hl 1 rfl) ?_
    refine lv_iconst (v := 2) hx hb d_Terms_isUntouched_8 (by decide) ?_
    refine lv_icmp_ne (tgt := 29) hx hb d_Terms_isUntouched_9 (by decide) (fun c2 => ?_) (fun c2 => ?_)
    · replace h := Eq.trans (if_neg c2).symm h
      refine lv_aload_n hx hb d_Terms_isUntouched_29 rfl (lv_at hl 0 rfl) ?_
      refine lv_iload_n hx hb d_Terms_isUntouched_30 rfl (lv_at hl 2 rfl) ?_
      refine kg_p (As := [.int a2]) (rest := []) (k_Terms_loose (l := l) (g := g) (α := α) a2) S E hJ kw_Terms_78 ⟨Nat.le_of_ble_eq_true rfl, Nat.le_of_ble_eq_true rfl⟩ ⟨Nat.le_refl _, Nat.le_refl _⟩ (kv_Terms E hJ) rfl hl.1 rfl (Nat.le_of_ble_eq_true rfl) d_Terms_isUntouched_31 rfl ?_
      refine lv_iload hx hb d_Terms_isUntouched_34 (lv_at hl 4 rfl) ?_
      refine lv_icmp_gt (tgt := 43) hx hb d_Terms_isUntouched_36 (by decide) (fun c3 => ?_) (fun c3 => ?_)
      · replace h := Eq.trans (if_pos c3).symm h
        refine lv_iconst (v := 0) hx hb d_Terms_isUntouched_43 (by decide) ?_
        exact kv_iret (w := 0) hx hb hr (by decide) hlocks h d_Terms_isUntouched_44
      · replace h := Eq.trans (if_neg c3).symm h
        refine lv_iconst (v := 1) hx hb d_Terms_isUntouched_39 (by decide) ?_
        refine lv_goto (tgt := 44) hx hb d_Terms_isUntouched_40 (by decide) ?_
        exact kv_iret (w := 1) hx hb hr (by decide) hlocks h d_Terms_isUntouched_44
    · replace h := Eq.trans (if_pos c2).symm h
      refine lv_aload_n hx hb d_Terms_isUntouched_12 rfl (lv_at hl 0 rfl) ?_
      refine lv_iload_n hx hb d_Terms_isUntouched_13 rfl (lv_at hl 2 rfl) ?_
      refine kg_p (As := [.int a2]) (rest := []) (k_Terms_free (l := l) (g := g) (α := α) a2) S E hJ kw_Terms_84 ⟨Nat.le_of_ble_eq_true rfl, Nat.le_of_ble_eq_true rfl⟩ ⟨Nat.le_refl _, Nat.le_refl _⟩ (kv_Terms E hJ) rfl hl.1 rfl (Nat.le_of_ble_eq_true rfl) d_Terms_isUntouched_14 rfl ?_
      refine lv_iload_n hx hb d_Terms_isUntouched_17 rfl (lv_at hl 3 rfl) ?_
      refine lv_icmp_gt (tgt := 25) hx hb d_Terms_isUntouched_18 (by decide) (fun c4 => ?_) (fun c4 => ?_)
      · replace h := Eq.trans (if_pos c4).symm h
        refine lv_iconst (v := 0) hx hb d_Terms_isUntouched_25 (by decide) ?_
        refine lv_goto (tgt := 44) hx hb d_Terms_isUntouched_26 (by decide) ?_
        exact kv_iret (w := 0) hx hb hr (by decide) hlocks h d_Terms_isUntouched_44
      · replace h := Eq.trans (if_neg c4).symm h
        refine lv_iconst (v := 1) hx hb d_Terms_isUntouched_21 (by decide) ?_
        refine lv_goto (tgt := 44) hx hb d_Terms_isUntouched_22 (by decide) ?_
        exact kv_iret (w := 1) hx hb hr (by decide) hlocks h d_Terms_isUntouched_44
  · replace h := Eq.trans (if_pos c1).symm h
    refine lv_iconst (v := 0) hx hb d_Terms_isUntouched_5 (by decide) ?_
    exact kv_iret (w := 0) hx hb hr (by decide) hlocks h d_Terms_isUntouched_6
def f_Terms_changedName (a1 : Int32) (a2 : Int32) (a3 : Int32) (a4 : Int32) (α : kS) : Int32 := if a1 = 2 then (a4) else (if a1 = 3 then (((f_Terms_left a2 α) + a3)) else (if a1 = 4 then ((((a3 - 1) - (f_Terms_left a2 α)) + a4)) else (if (f_Terms_kind a2 α) = 2 then (if (f_Terms_left a2 α) = 101 then (a3) else ((f_Terms_left a2 α))) else ((f_Terms_left a2 α)))))
set_option maxHeartbeats 4000000 in
set_option maxRecDepth 100000 in
theorem k_Terms_changedName {l : Launch} {g : kG} {α : kS} (a1 : Int32) (a2 : Int32) (a3 : Int32) (a4 : Int32)  : kV l g y_Terms_changedName b_Terms_changedName 6 (some .int) 2 22 [.ref (kad g 2), .int a1, .int a2, .int a3, .int a4] α (f_Terms_changedName a1 a2 a3 a4 α) := by
  generalize h : f_Terms_changedName a1 a2 a3 a4 α = x
  unfold f_Terms_changedName at h
  refine kv_ofW (by decide) (fun A ad p e s m args below meth c S hr hlocks hargs E hJ => ?_)
  have hx := S.1
  have hb := S.2.1
  have hown := S.2.2.2.1
  have hT := S.2.2.2.2
  subst hargs
  have hl := lv_entry ([.ref (kad g 2), .int a1, .int a2, .int a3, .int a4]) (n := 6) (Nat.le_of_ble_eq_true rfl)
  rw [lg_entry_eq]
  generalize (lg_sl ([.ref (kad g 2), .int a1, .int a2, .int a3, .int a4]) ++ List.replicate (6 - (lg_sl ([.ref (kad g 2), .int a1, .int a2, .int a3, .int a4])).length) Slot.unset).toArray = ls at hl ⊢
  have hl : lv_has ls 6 [(0, .ref (kad g 2)), (1, .int a1), (2, .int a2), (3, .int a3), (4, .int a4)] := hl
  refine lv_aload_n hx hb d_Terms_changedName_0 rfl (lv_at hl 0 rfl) ?_
  refine lv_iload_n hx hb d_Terms_changedName_1 rfl (lv_at hl 2 rfl) ?_
  refine kg_p (As := [.int a2]) (rest := []) (k_Terms_left (l := l) (g := g) (α := α) a2) S E hJ kw_Terms_56 ⟨Nat.le_of_ble_eq_true rfl, Nat.le_of_ble_eq_true rfl⟩ ⟨Nat.le_refl _, Nat.le_refl _⟩ (kv_Terms E hJ) rfl hl.1 rfl (Nat.le_of_ble_eq_true rfl) d_Terms_changedName_2 rfl ?_
  refine lv_istore (lv' := [(5, .int (f_Terms_left a2 α)), (0, .ref (kad g 2)), (1, .int a1), (2, .int a2), (3, .int a3), (4, .int a4)]) hx hb d_Terms_changedName_5 hl (by decide) rfl (fun ls hl => ?_)
  refine lv_iload_n hx hb d_Terms_changedName_7 rfl (lv_at hl 2 rfl) ?_
  by_cases c1 : a1 = 2
  · replace h := Eq.trans (if_pos c1).symm h
    refine lv_tableIn (off := 28) (tgt := 36) hx hb d_Terms_changedName_8 (by rw [c1]; decide) (by rw [c1]; decide) (by rw [c1]; rfl) (by decide) ?_
    refine lv_iload hx hb d_Terms_changedName_36 (lv_at hl 5 rfl) ?_
    exact kv_iret (w := a4) hx hb hr rfl hlocks h d_Terms_changedName_38
  · replace h := Eq.trans (if_neg c1).symm h
    have nc1 := ksw (z := 2) rfl c1
    by_cases c2 : a1 = 3
    · replace h := Eq.trans (if_pos c2).symm h
      refine lv_tableIn (off := 31) (tgt := 39) hx hb d_Terms_changedName_8 (by rw [c2]; decide) (by rw [c2]; decide) (by rw [c2]; rfl) (by decide) ?_
      refine lv_iload hx hb d_Terms_changedName_39 (lv_at hl 0 rfl) ?_
      refine lv_iload_n hx hb d_Terms_changedName_41 rfl (lv_at hl 4 rfl) ?_
      refine lv_iadd hx hb d_Terms_changedName_42 ?_
      exact kv_iret (w := ((f_Terms_left a2 α) + a3)) hx hb hr rfl hlocks h d_Terms_changedName_43
    · replace h := Eq.trans (if_neg c2).symm h
      have nc2 := ksw (z := 3) rfl c2
      by_cases c3 : a1 = 4
      · replace h := Eq.trans (if_pos c3).symm h
        refine lv_tableIn (off := 36) (tgt := 44) hx hb d_Terms_changedName_8 (by rw [c3]; decide) (by rw [c3]; decide) (by rw [c3]; rfl) (by decide) ?_
        refine lv_iload_n hx hb d_Terms_changedName_44 rfl (lv_at hl 4 rfl) ?_
        refine lv_iconst (v := 1) hx hb d_Terms_changedName_45 (by decide) ?_
        refine lv_isub hx hb d_Terms_changedName_46 ?_
        refine lv_iload hx hb d_Terms_changedName_47 (lv_at hl 0 rfl) ?_
        refine lv_isub hx hb d_Terms_changedName_49 ?_
        refine lv_iload hx hb d_Terms_changedName_50 (lv_at hl 5 rfl) ?_
        refine lv_iadd hx hb d_Terms_changedName_52 ?_
        exact kv_iret (w := (((a3 - 1) - (f_Terms_left a2 α)) + a4)) hx hb hr rfl hlocks h d_Terms_changedName_53
      · replace h := Eq.trans (if_neg c3).symm h
        have nc3 := ksw (z := 4) rfl c3
        refine lv_tableOut (tgt := 54) hx hb d_Terms_changedName_8 (by omega) (by decide) ?_
        refine lv_aload_n hx hb d_Terms_changedName_54 rfl (lv_at hl 1 rfl) ?_
        refine lv_iload_n hx hb d_Terms_changedName_55 rfl (lv_at hl 3 rfl) ?_
        refine kg_p (As := [.int a2]) (rest := []) (k_Terms_kind (l := l) (g := g) (α := α) a2) S E hJ kw_Terms_52 ⟨Nat.le_of_ble_eq_true rfl, Nat.le_of_ble_eq_true rfl⟩ ⟨Nat.le_refl _, Nat.le_refl _⟩ (kv_Terms E hJ) rfl hl.1 rfl (Nat.le_of_ble_eq_true rfl) d_Terms_changedName_56 rfl ?_
        refine lv_iconst (v := 2) hx hb d_Terms_changedName_59 (by decide) ?_
        refine lv_icmp_ne (tgt := 74) hx hb d_Terms_changedName_60 (by decide) (fun c4 => ?_) (fun c4 => ?_)
        · replace h := Eq.trans (if_neg c4).symm h
          refine lv_iload hx hb d_Terms_changedName_74 (lv_at hl 0 rfl) ?_
          exact kv_iret (w := (f_Terms_left a2 α)) hx hb hr rfl hlocks h d_Terms_changedName_76
        · replace h := Eq.trans (if_pos c4).symm h
          refine lv_iload hx hb d_Terms_changedName_63 (lv_at hl 0 rfl) ?_
          refine lv_bipush (v := 101) hx hb d_Terms_changedName_65 (by decide) ?_
          refine lv_icmp_ne (tgt := 74) hx hb d_Terms_changedName_67 (by decide) (fun c5 => ?_) (fun c5 => ?_)
          · replace h := Eq.trans (if_neg c5).symm h
            refine lv_iload hx hb d_Terms_changedName_74 (lv_at hl 0 rfl) ?_
            exact kv_iret (w := (f_Terms_left a2 α)) hx hb hr rfl hlocks h d_Terms_changedName_76
          · replace h := Eq.trans (if_pos c5).symm h
            refine lv_iload_n hx hb d_Terms_changedName_70 rfl (lv_at hl 4 rfl) ?_
            refine lv_goto (tgt := 76) hx hb d_Terms_changedName_71 (by decide) ?_
            exact kv_iret (w := a3) hx hb hr rfl hlocks h d_Terms_changedName_76
def f_Terms_changedKind (a1 : Int32) (a2 : Int32) (α : kS) : Int32 := if a1 = 2 then (0) else (if a1 = 4 then (1) else (a2))
set_option maxHeartbeats 4000000 in
set_option maxRecDepth 100000 in
theorem k_Terms_changedKind {l : Launch} {g : kG} {α : kS} (a1 : Int32) (a2 : Int32)  : kV l g y_Terms_changedKind b_Terms_changedKind 2 (some .int) 1 1 [.int a1, .int a2] α (f_Terms_changedKind a1 a2 α) := by
  generalize h : f_Terms_changedKind a1 a2 α = x
  unfold f_Terms_changedKind at h
  refine kv_ofW (by decide) (fun A ad p e s m args below meth c S hr hlocks hargs E hJ => ?_)
  have hx := S.1
  have hb := S.2.1
  have hown := S.2.2.2.1
  have hT := S.2.2.2.2
  subst hargs
  have hl := lv_entry ([.int a1, .int a2]) (n := 2) (Nat.le_of_ble_eq_true rfl)
  rw [lg_entry_eq]
  generalize (lg_sl ([.int a1, .int a2]) ++ List.replicate (2 - (lg_sl ([.int a1, .int a2])).length) Slot.unset).toArray = ls at hl ⊢
  have hl : lv_has ls 2 [(0, .int a1), (1, .int a2)] := hl
  refine lv_iload_n hx hb d_Terms_changedKind_0 rfl (lv_at hl 0 rfl) ?_
  refine lv_iconst (v := 2) hx hb d_Terms_changedKind_1 (by decide) ?_
  refine lv_icmp_ne (tgt := 7) hx hb d_Terms_changedKind_2 (by decide) (fun c1 => ?_) (fun c1 => ?_)
  · replace h := Eq.trans (if_neg c1).symm h
    refine lv_iload_n hx hb d_Terms_changedKind_7 rfl (lv_at hl 0 rfl) ?_
    refine lv_iconst (v := 4) hx hb d_Terms_changedKind_8 (by decide) ?_
    refine lv_icmp_ne (tgt := 16) hx hb d_Terms_changedKind_9 (by decide) (fun c2 => ?_) (fun c2 => ?_)
    · replace h := Eq.trans (if_neg c2).symm h
      refine lv_iload_n hx hb d_Terms_changedKind_16 rfl (lv_at hl 1 rfl) ?_
      exact kv_iret (w := a2) hx hb hr rfl hlocks h d_Terms_changedKind_17
    · replace h := Eq.trans (if_pos c2).symm h
      refine lv_iconst (v := 1) hx hb d_Terms_changedKind_12 (by decide) ?_
      refine lv_goto (tgt := 17) hx hb d_Terms_changedKind_13 (by decide) ?_
      exact kv_iret (w := 1) hx hb hr rfl hlocks h d_Terms_changedKind_17
  · replace h := Eq.trans (if_pos c1).symm h
    refine lv_iconst (v := 0) hx hb d_Terms_changedKind_5 (by decide) ?_
    exact kv_iret (w := 0) hx hb hr rfl hlocks h d_Terms_changedKind_6
theorem kw_Terms_109 : kWv "FamilyKernel$Terms" 109 "FamilyKernel$Row" y_Row_cut b_Row_cut 2 none 1 := ⟨vt_612, vt_232, vt_233, vt_4, vt_234, by decide, by decide, by decide +kernel⟩
theorem kw_Terms_112 : kWv "FamilyKernel$Terms" 112 "FamilyKernel$Row" y_Row_push b_Row_push 2 none 1 := ⟨vt_613, vt_252, vt_253, vt_4, vt_254, by decide, by decide, by decide +kernel⟩
theorem kw_Terms_118 : kWv "FamilyKernel$Terms" 118 "FamilyKernel$Row" y_Row_pop b_Row_pop 1 (some .int) 0 := ⟨vt_615, vt_599, vt_600, vt_4, vt_601, by decide, by decide, by decide +kernel⟩
theorem kw_Terms_135 : kWv "FamilyKernel$Terms" 135 "FamilyKernel$Meter" y_Meter_charge b_Meter_charge 2 none 1 := ⟨vt_636, vt_637, vt_638, vt_13, vt_639, by decide, by decide, by decide +kernel⟩
theorem kw_Terms_115 : kWv "FamilyKernel$Terms" 115 "FamilyKernel$Row" y_Row_size b_Row_size 1 (some .int) 0 := ⟨vt_614, vt_270, vt_271, vt_4, vt_272, by decide, by decide, by decide +kernel⟩
theorem kw_Terms_124 : kWv "FamilyKernel$Terms" 124 "FamilyKernel$Terms" y_Terms_isUntouched b_Terms_isUntouched 5 (some .boolean) 4 := ⟨vt_617, vt_618, vt_619, vt_19, vt_620, by decide, by decide, by decide +kernel⟩
theorem kw_Terms_128 : kWv "FamilyKernel$Terms" 128 "FamilyKernel$Terms" y_Terms_changedName b_Terms_changedName 6 (some .int) 4 := ⟨vt_621, vt_622, vt_623, vt_19, vt_624, by decide, by decide, by decide +kernel⟩
theorem kw_Terms_132 : kWs "FamilyKernel$Terms" 132 y_Terms_changedKind b_Terms_changedKind 2 (some .int) 2 := ⟨vt_629, vt_630, vt_19, vt_631, by decide, by decide, by decide +kernel⟩
theorem kw_Terms_121 : kWv "FamilyKernel$Terms" 121 "FamilyKernel$Terms" y_Terms_make b_Terms_make 10 (some .int) 3 := ⟨vt_616, vt_518, vt_519, vt_19, vt_520, by decide, by decide, by decide +kernel⟩
def f_Terms_rewrite_43 (N : Nat)  : Nat → Int32 → Int32 → Int32 → kS → Option (kO × kS)
  | 0, _, _, _, _ => none
  | n + 1, x4, x1, x3, β => if 16777216 ≤ x4 then (if x1 = 0 then (kBv (f_Meter_charge N (f_Terms_size (fR_pop β 4).1 (fR_pop β 4).2) (fR_pop β 4).2) fun α7 => (some (some (some (fR_pop β 4).1), α7))) else (if x1 = 2 then (kBv (f_Meter_charge N (f_Terms_size (fR_pop β 4).1 (fR_pop β 4).2) (fR_pop β 4).2) fun α10 => (some (some (some (fR_pop β 4).1), α10))) else (some (some (some (fR_pop β 4).1), (fR_pop β 4).2)))) else (if (fR_size β 2) ≤ 0 then (if x1 = 0 then (kBv (f_Meter_charge N (f_Terms_size (fR_pop β 4).1 (fR_pop β 4).2) (fR_pop β 4).2) fun α14 => (some (some (some (fR_pop β 4).1), α14))) else (if x1 = 2 then (kBv (f_Meter_charge N (f_Terms_size (fR_pop β 4).1 (fR_pop β 4).2) (fR_pop β 4).2) fun α17 => (some (some (some (fR_pop β 4).1), α17))) else (some (some (some (fR_pop β 4).1), (fR_pop β 4).2)))) else (if 0 ≤ (fR_pop (fR_pop β 3).2 2).1 then (if (f_Terms_isUntouched x1 (fR_pop (fR_pop β 3).2 2).1 x3 (fR_pop β 3).1 (fR_pop (fR_pop β 3).2 2).2) = 0 then (if 5 ≤ (f_Terms_kind (fR_pop (fR_pop β 3).2 2).1 (fR_pop (fR_pop β 3).2 2).2) then (if 5 ≤ (f_Terms_kind (fR_pop (fR_pop β 3).2 2).1 (fR_pop (fR_pop β 3).2 2).2) then (kBv (fR_push (fR_pop (fR_pop β 3).2 2).2 2 ((-1) - (fR_pop (fR_pop β 3).2 2).1)) fun α23 => (kBv (fR_push α23 3 0) fun α25 => (kBv (fR_push α25 2 (f_Terms_right (fR_pop (fR_pop β 3).2 2).1 α25)) fun α27 => (kBv (fR_push α27 3 ((fR_pop β 3).1 + (f_Terms_binds (f_Terms_kind (fR_pop (fR_pop β 3).2 2).1 α27) α27))) fun α29 => (kBv (fR_push α29 2 (f_Terms_left (fR_pop (fR_pop β 3).2 2).1 α29)) fun α31 => (kBv (fR_push α31 3 (fR_pop β 3).1) fun α33 => (f_Terms_rewrite_43 N n (x4 + 1) x1 x3 α33))))))) else (if (f_Terms_kind (fR_pop (fR_pop β 3).2 2).1 (fR_pop (fR_pop β 3).2 2).2) = 4 then (if (f_Terms_right (fR_pop (fR_pop β 3).2 2).1 (fR_pop (fR_pop β 3).2 2).2) = 101 then (kBi (f_Terms_make N (f_Terms_changedKind x1 (f_Terms_kind (fR_pop (fR_pop β 3).2 2).1 (fR_pop (fR_pop β 3).2 2).2) (fR_pop (fR_pop β 3).2 2).2) (f_Terms_changedName x1 (fR_pop (fR_pop β 3).2 2).1 x3 (fR_pop β 3).1 (fR_pop (fR_pop β 3).2 2).2) x3 (fR_pop (fR_pop β 3).2 2).2) fun v49 α47 => (kBv (fR_push α47 4 v49) fun α50 => (f_Terms_rewrite_43 N n (x4 + 1) x1 x3 α50))) else (kBi (f_Terms_make N (f_Terms_changedKind x1 (f_Terms_kind (fR_pop (fR_pop β 3).2 2).1 (fR_pop (fR_pop β 3).2 2).2) (fR_pop (fR_pop β 3).2 2).2) (f_Terms_changedName x1 (fR_pop (fR_pop β 3).2 2).1 x3 (fR_pop β 3).1 (fR_pop (fR_pop β 3).2 2).2) (f_Terms_right (fR_pop (fR_pop β 3).2 2).1 (fR_pop (fR_pop β 3).2 2).2) (fR_pop (fR_pop β 3).2 2).2) fun v44 α42 => (kBv (fR_push α42 4 v44) fun α45 => (f_Terms_rewrite_43 N n (x4 + 1) x1 x3 α45)))) else (kBi (f_Terms_make N (f_Terms_changedKind x1 (f_Terms_kind (fR_pop (fR_pop β 3).2 2).1 (fR_pop (fR_pop β 3).2 2).2) (fR_pop (fR_pop β 3).2 2).2) (f_Terms_changedName x1 (fR_pop (fR_pop β 3).2 2).1 x3 (fR_pop β 3).1 (fR_pop (fR_pop β 3).2 2).2) (f_Terms_right (fR_pop (fR_pop β 3).2 2).1 (fR_pop (fR_pop β 3).2 2).2) (fR_pop (fR_pop β 3).2 2).2) fun v38 α36 => (kBv (fR_push α36 4 v38) fun α39 => (f_Terms_rewrite_43 N n (x4 + 1) x1 x3 α39))))) else (if 1 < x1 then (if 5 ≤ (f_Terms_kind (fR_pop (fR_pop β 3).2 2).1 (fR_pop (fR_pop β 3).2 2).2) then (kBv (fR_push (fR_pop (fR_pop β 3).2 2).2 2 ((-1) - (fR_pop (fR_pop β 3).2 2).1)) fun α54 => (kBv (fR_push α54 3 0) fun α56 => (kBv (fR_push α56 2 (f_Terms_right (fR_pop (fR_pop β 3).2 2).1 α56)) fun α58 => (kBv (fR_push α58 3 ((fR_pop β 3).1 + (f_Terms_binds (f_Terms_kind (fR_pop (fR_pop β 3).2 2).1 α58) α58))) fun α60 => (kBv (fR_push α60 2 (f_Terms_left (fR_pop (fR_pop β 3).2 2).1 α60)) fun α62 => (kBv (fR_push α62 3 (fR_pop β 3).1) fun α64 => (f_Terms_rewrite_43 N n (x4 + 1) x1 x3 α64))))))) else (if (f_Terms_kind (fR_pop (fR_pop β 3).2 2).1 (fR_pop (fR_pop β 3).2 2).2) = 4 then (if (f_Terms_right (fR_pop (fR_pop β 3).2 2).1 (fR_pop (fR_pop β 3).2 2).2) = 101 then (kBi (f_Terms_make N (f_Terms_changedKind x1 (f_Terms_kind (fR_pop (fR_pop β 3).2 2).1 (fR_pop (fR_pop β 3).2 2).2) (fR_pop (fR_pop β 3).2 2).2) (f_Terms_changedName x1 (fR_pop (fR_pop β 3).2 2).1 x3 (fR_pop β 3).1 (fR_pop (fR_pop β 3).2 2).2) x3 (fR_pop (fR_pop β 3).2 2).2) fun v80 α78 => (kBv (fR_push α78 4 v80) fun α81 => (f_Terms_rewrite_43 N n (x4 + 1) x1 x3 α81))) else (kBi (f_Terms_make N (f_Terms_changedKind x1 (f_Terms_kind (fR_pop (fR_pop β 3).2 2).1 (fR_pop (fR_pop β 3).2 2).2) (fR_pop (fR_pop β 3).2 2).2) (f_Terms_changedName x1 (fR_pop (fR_pop β 3).2 2).1 x3 (fR_pop β 3).1 (fR_pop (fR_pop β 3).2 2).2) (f_Terms_right (fR_pop (fR_pop β 3).2 2).1 (fR_pop (fR_pop β 3).2 2).2) (fR_pop (fR_pop β 3).2 2).2) fun v75 α73 => (kBv (fR_push α73 4 v75) fun α76 => (f_Terms_rewrite_43 N n (x4 + 1) x1 x3 α76)))) else (kBi (f_Terms_make N (f_Terms_changedKind x1 (f_Terms_kind (fR_pop (fR_pop β 3).2 2).1 (fR_pop (fR_pop β 3).2 2).2) (fR_pop (fR_pop β 3).2 2).2) (f_Terms_changedName x1 (fR_pop (fR_pop β 3).2 2).1 x3 (fR_pop β 3).1 (fR_pop (fR_pop β 3).2 2).2) (f_Terms_right (fR_pop (fR_pop β 3).2 2).1 (fR_pop (fR_pop β 3).2 2).2) (fR_pop (fR_pop β 3).2 2).2) fun v69 α67 => (kBv (fR_push α67 4 v69) fun α70 => (f_Terms_rewrite_43 N n (x4 + 1) x1 x3 α70))))) else (kBv (fR_push (fR_pop (fR_pop β 3).2 2).2 4 x3) fun α83 => (f_Terms_rewrite_43 N n (x4 + 1) x1 x3 α83)))) else (kBv (fR_push (fR_pop (fR_pop β 3).2 2).2 4 (fR_pop (fR_pop β 3).2 2).1) fun α85 => (f_Terms_rewrite_43 N n (x4 + 1) x1 x3 α85))) else (kBi (f_Terms_make N (f_Terms_kind ((-1) - (fR_pop (fR_pop β 3).2 2).1) (fR_pop (fR_pop (fR_pop (fR_pop β 3).2 2).2 4).2 4).2) (fR_pop (fR_pop (fR_pop (fR_pop β 3).2 2).2 4).2 4).1 (fR_pop (fR_pop (fR_pop β 3).2 2).2 4).1 (fR_pop (fR_pop (fR_pop (fR_pop β 3).2 2).2 4).2 4).2) fun v89 α87 => (kBv (fR_push α87 4 v89) fun α90 => (f_Terms_rewrite_43 N n (x4 + 1) x1 x3 α90)))))
def f_Terms_rewrite (N : Nat) (a1 : Int32) (a2 : Int32) (a3 : Int32) (α : kS) : Option (kO × kS) := kBv (fR_push (fR_cut (fR_cut (fR_cut α 2 0) 3 0) 4 0) 2 a2) fun α1 => (kBv (fR_push α1 3 0) fun α3 => (f_Terms_rewrite_43 N N 0 a1 a3 α3))
set_option maxHeartbeats 4000000 in
set_option maxRecDepth 100000 in
theorem k_Terms_rewrite {l : Launch} {g : kG} {α : kS} (hfl : kFl l) (N : Nat) (a1 : Int32) (a2 : Int32) (a3 : Int32)  : ∀ x, f_Terms_rewrite N a1 a2 a3 α = some x → kC l g y_Terms_rewrite b_Terms_rewrite 9 (some .int) 31 921 [.ref (kad g 2), .int a1, .int a2, .int a3] α (kQr x) := by
  intro x h
  unfold f_Terms_rewrite at h
  refine kc_ofW (by decide) (fun A ad0 p e s m args below meth c S hr hlocks hno hadm hargs E hI => ?_)
  have hx := S.1
  have hb := S.2.1
  have hown := S.2.2.2.1
  have hT := S.2.2.2.2
  subst hargs
  have hl := lv_entry ([.ref (kad g 2), .int a1, .int a2, .int a3]) (n := 9) (Nat.le_of_ble_eq_true rfl)
  rw [lg_entry_eq]
  generalize (lg_sl ([.ref (kad g 2), .int a1, .int a2, .int a3]) ++ List.replicate (9 - (lg_sl ([.ref (kad g 2), .int a1, .int a2, .int a3])).length) Slot.unset).toArray = ls at hl ⊢
  have hl : lv_has ls 9 [(0, .ref (kad g 2)), (1, .int a1), (2, .int a2), (3, .int a3)] := hl
  refine lv_aload_n hx hb d_Terms_rewrite_0 rfl (lv_at hl 0 rfl) ?_
  refine kf_Terms_todo S E hI.1 vt_92 d_Terms_rewrite_1 ?_
  refine lv_iconst (v := 0) hx hb d_Terms_rewrite_4 (by decide) ?_
  refine kg_tV (As := [.int 0]) (rest := []) (k_Row_cut (l := l) (g := g) (α := α) (r := 2) (by decide) 0) S hlocks hno E hI kw_Terms_109 ⟨Nat.le_of_ble_eq_true rfl, Nat.le_of_ble_eq_true rfl⟩ (kv_Row (r := 2) (by decide) E hI.1) rfl hl.1 rfl (Nat.le_of_ble_eq_true rfl) d_Terms_rewrite_5 (fun ad H locs cells slots hRm hI => ?_)
  refine lv_aload_n hx hb d_Terms_rewrite_8 rfl (lv_at hl 0 rfl) ?_
  refine kf_Terms_offsets S E hI.1 vt_93 d_Terms_rewrite_9 ?_
  refine lv_iconst (v := 0) hx hb d_Terms_rewrite_12 (by decide) ?_
  refine kg_tV (As := [.int 0]) (rest := []) (k_Row_cut (l := l) (g := g) (α := (fR_cut α 2 0)) (r := 3) (by decide) 0) S hlocks hno E hI kw_Terms_109 ⟨Nat.le_of_ble_eq_true rfl, Nat.le_of_ble_eq_true rfl⟩ (kv_Row (r := 3) (by decide) E hI.1) rfl hl.1 rfl (Nat.le_of_ble_eq_true rfl) d_Terms_rewrite_13 (fun ad H locs cells slots hRm hI => ?_)
  refine lv_aload_n hx hb d_Terms_rewrite_16 rfl (lv_at hl 0 rfl) ?_
  refine kf_Terms_built S E hI.1 vt_94 d_Terms_rewrite_17 ?_
  refine lv_iconst (v := 0) hx hb d_Terms_rewrite_20 (by decide) ?_
  refine kg_tV (As := [.int 0]) (rest := []) (k_Row_cut (l := l) (g := g) (α := (fR_cut (fR_cut α 2 0) 3 0)) (r := 4) (by decide) 0) S hlocks hno E hI kw_Terms_109 ⟨Nat.le_of_ble_eq_true rfl, Nat.le_of_ble_eq_true rfl⟩ (kv_Row (r := 4) (by decide) E hI.1) rfl hl.1 rfl (Nat.le_of_ble_eq_true rfl) d_Terms_rewrite_21 (fun ad H locs cells slots hRm hI => ?_)
  refine lv_aload_n hx hb d_Terms_rewrite_24 rfl (lv_at hl 0 rfl) ?_
  refine kf_Terms_todo S E hI.1 vt_92 d_Terms_rewrite_25 ?_
  refine lv_iload_n hx hb d_Terms_rewrite_28 rfl (lv_at hl 2 rfl) ?_
  refine kg_cV (As := [.int a2]) (rest := []) h (k_Row_push (l := l) (g := g) (α := (fR_cut (fR_cut (fR_cut α 2 0) 3 0) 4 0)) (r := 2) (by decide) a2) S hlocks hno E hI kw_Terms_112 ⟨Nat.le_of_ble_eq_true rfl, Nat.le_of_ble_eq_true rfl⟩ (kv_Row (r := 2) (by decide) E hI.1) rfl hl.1 rfl (Nat.le_of_ble_eq_true rfl) d_Terms_rewrite_29 (fun α1 ad H locs cells slots e2 h hRm hI => ?_)
  refine lv_aload_n hx hb d_Terms_rewrite_32 rfl (lv_at hl 0 rfl) ?_
  refine kf_Terms_offsets S E hI.1 vt_93 d_Terms_rewrite_33 ?_
  refine lv_iconst (v := 0) hx hb d_Terms_rewrite_36 (by decide) ?_
  refine kg_cV (As := [.int 0]) (rest := []) h (k_Row_push (l := l) (g := g) (α := α1) (r := 3) (by decide) 0) S hlocks hno E hI kw_Terms_112 ⟨Nat.le_of_ble_eq_true rfl, Nat.le_of_ble_eq_true rfl⟩ (kv_Row (r := 3) (by decide) E hI.1) rfl hl.1 rfl (Nat.le_of_ble_eq_true rfl) d_Terms_rewrite_37 (fun α3 ad H locs cells slots e4 h hRm hI => ?_)
  refine lv_iconst (v := 0) hx hb d_Terms_rewrite_40 (by decide) ?_
  refine lv_istore (lv' := [(4, .int 0), (0, .ref (kad g 2)), (1, .int a1), (2, .int a2), (3, .int a3)]) hx hb d_Terms_rewrite_41 hl (by decide) rfl (fun ls hl => ?_)
  have L43 : ∀ (n : Nat) (x4 : Int32) (x1 : Int32) (x3 : Int32) (β : kS) (ad : Nat → Nat) (H : Heap) (locs : List Loc) (cells slots : Nat) (ls : Array Slot), f_Terms_rewrite_43 N n x4 x1 x3 β = some x → kI g A s α ad0 β ad H locs cells slots → lv_has ls 9 [(4, .int x4), (0, .ref (kad g 2)), (1, .int x1), (3, .int x3)] → W p l e (kR 31 921 α) s m ([.ref (kad g 2), .int a1, .int a2, .int a3]).toArray below meth c H locs cells slots (vEQ below (kQ g A α ad0 (kQr x)) ([.ref (kad g 2), .int a1, .int a2, .int a3]).toArray s A) (F0 m 43 ls []) := by
    intro n
    induction n with
    | zero => intro x4 x1 x3 β ad H locs cells slots ls h hI hl; rw [f_Terms_rewrite_43] at h; cases h
    | succ n ih43 =>
      intro x4 x1 x3 β ad H locs cells slots ls h hI hl
      rw [f_Terms_rewrite_43] at h
      refine lv_iload hx hb d_Terms_rewrite_43 (lv_at hl 0 rfl) ?_
      refine lv_ldc (v := 16777216) hx hb hown (hT _ vt_90) d_Terms_rewrite_45 ?_
      refine lv_icmp_ge (tgt := 340) hx hb d_Terms_rewrite_47 (by decide) (fun c5 => ?_) (fun c5 => ?_)
      · replace h := Eq.trans (if_pos c5).symm h
        refine lv_aload_n hx hb d_Terms_rewrite_340 rfl (lv_at hl 1 rfl) ?_
        refine kf_Terms_built S E hI.1 vt_94 d_Terms_rewrite_341 ?_
        refine kg_tI (As := []) (rest := []) (k_Row_pop (l := l) (g := g) (α := β) (r := 4) (by decide)) S hlocks hno E hI kw_Terms_118 ⟨Nat.le_of_ble_eq_true rfl, Nat.le_of_ble_eq_true rfl⟩ (kv_Row (r := 4) (by decide) E hI.1) rfl hl.1 rfl (Nat.le_of_ble_eq_true rfl) d_Terms_rewrite_344 (fun ad H locs cells slots hRm hI => ?_)
        refine lv_istore (lv' := [(4, .int (fR_pop β 4).1), (0, .ref (kad g 2)), (1, .int x1), (3, .int x3)]) hx hb d_Terms_rewrite_347 hl (by decide) rfl (fun ls hl => ?_)
        refine lv_iload_n hx hb d_Terms_rewrite_349 rfl (lv_at hl 2 rfl) ?_
        refine lv_if_eq (tgt := 358) hx hb d_Terms_rewrite_350 (by decide) (fun c6 => ?_) (fun c6 => ?_)
        · replace h := Eq.trans (if_pos c6).symm h
          refine lv_aload_n hx hb d_Terms_rewrite_358 rfl (lv_at hl 1 rfl) ?_
          refine kf_Terms_meter S E hI.1 vt_88 d_Terms_rewrite_359 ?_
          refine lv_aload_n hx hb d_Terms_rewrite_362 rfl (lv_at hl 1 rfl) ?_
          refine lv_iload hx hb d_Terms_rewrite_363 (lv_at hl 0 rfl) ?_
          refine kg_p (As := [.int (fR_pop β 4).1]) (rest := [.ref (kad g 1)]) (k_Terms_size (l := l) (g := g) (α := (fR_pop β 4).2) (fR_pop β 4).1) S E hI.1 kw_Terms_66 ⟨Nat.le_of_ble_eq_true rfl, Nat.le_of_ble_eq_true rfl⟩ hI.room (kv_Terms E hI.1) rfl hl.1 rfl (Nat.le_of_ble_eq_true rfl) d_Terms_rewrite_365 rfl ?_
          refine kg_cV (As := [.int (f_Terms_size (fR_pop β 4).1 (fR_pop β 4).2)]) (rest := []) h (k_Meter_charge (l := l) (g := g) (α := (fR_pop β 4).2) hfl N (f_Terms_size (fR_pop β 4).1 (fR_pop β 4).2)) S hlocks hno E hI kw_Terms_135 ⟨Nat.le_of_ble_eq_true rfl, Nat.le_of_ble_eq_true rfl⟩ (kv_Meter E hI.1) rfl hl.1 rfl (Nat.le_of_ble_eq_true rfl) d_Terms_rewrite_368 (fun α7 ad H locs cells slots e8 h hRm hI => ?_)
          refine lv_iload hx hb d_Terms_rewrite_371 (lv_at hl 0 rfl) ?_
          exact kc_iret (w := (fR_pop β 4).1) hx hb hr rfl hlocks E hI h d_Terms_rewrite_373
        · replace h := Eq.trans (if_neg c6).symm h
          refine lv_iload_n hx hb d_Terms_rewrite_353 rfl (lv_at hl 2 rfl) ?_
          refine lv_iconst (v := 2) hx hb d_Terms_rewrite_354 (by decide) ?_
          refine lv_icmp_ne (tgt := 371) hx hb d_Terms_rewrite_355 (by decide) (fun c9 => ?_) (fun c9 => ?_)
          · replace h := Eq.trans (if_neg c9).symm h
            refine lv_iload hx hb d_Terms_rewrite_371 (lv_at hl 0 rfl) ?_
            exact kc_iret (w := (fR_pop β 4).1) hx hb hr rfl hlocks E hI h d_Terms_rewrite_373
          · replace h := Eq.trans (if_pos c9).symm h
            refine lv_aload_n hx hb d_Terms_rewrite_358 rfl (lv_at hl 1 rfl) ?_
            refine kf_Terms_meter S E hI.1 vt_88 d_Terms_rewrite_359 ?_
            refine lv_aload_n hx hb d_Terms_rewrite_362 rfl (lv_at hl 1 rfl) ?_
            refine lv_iload hx hb d_Terms_rewrite_363 (lv_at hl 0 rfl) ?_
            refine kg_p (As := [.int (fR_pop β 4).1]) (rest := [.ref (kad g 1)]) (k_Terms_size (l := l) (g := g) (α := (fR_pop β 4).2) (fR_pop β 4).1) S E hI.1 kw_Terms_66 ⟨Nat.le_of_ble_eq_true rfl, Nat.le_of_ble_eq_true rfl⟩ hI.room (kv_Terms E hI.1) rfl hl.1 rfl (Nat.le_of_ble_eq_true rfl) d_Terms_rewrite_365 rfl ?_
            refine kg_cV (As := [.int (f_Terms_size (fR_pop β 4).1 (fR_pop β 4).2)]) (rest := []) h (k_Meter_charge (l := l) (g := g) (α := (fR_pop β 4).2) hfl N (f_Terms_size (fR_pop β 4).1 (fR_pop β 4).2)) S hlocks hno E hI kw_Terms_135 ⟨Nat.le_of_ble_eq_true rfl, Nat.le_of_ble_eq_true rfl⟩ (kv_Meter E hI.1) rfl hl.1 rfl (Nat.le_of_ble_eq_true rfl) d_Terms_rewrite_368 (fun α10 ad H locs cells slots e11 h hRm hI => ?_)
            refine lv_iload hx hb d_Terms_rewrite_371 (lv_at hl 0 rfl) ?_
            exact kc_iret (w := (fR_pop β 4).1) hx hb hr rfl hlocks E hI h d_Terms_rewrite_373
      · replace h := Eq.trans (if_neg c5).symm h
        refine lv_aload_n hx hb d_Terms_rewrite_50 rfl (lv_at hl 1 rfl) ?_
        refine kf_Terms_todo S E hI.1 vt_92 d_Terms_rewrite_51 ?_
        refine kg_p (As := []) (rest := []) (k_Row_size (l := l) (g := g) (α := β) (r := 2) (by decide)) S E hI.1 kw_Terms_115 ⟨Nat.le_of_ble_eq_true rfl, Nat.le_of_ble_eq_true rfl⟩ hI.room (kv_Row (r := 2) (by decide) E hI.1) rfl hl.1 rfl (Nat.le_of_ble_eq_true rfl) d_Terms_rewrite_54 rfl ?_
        refine lv_if_le (tgt := 340) hx hb d_Terms_rewrite_57 (by decide) (fun c12 => ?_) (fun c12 => ?_)
        · replace h := Eq.trans (if_pos c12).symm h
          refine lv_aload_n hx hb d_Terms_rewrite_340 rfl (lv_at hl 1 rfl) ?_
          refine kf_Terms_built S E hI.1 vt_94 d_Terms_rewrite_341 ?_
          refine kg_tI (As := []) (rest := []) (k_Row_pop (l := l) (g := g) (α := β) (r := 4) (by decide)) S hlocks hno E hI kw_Terms_118 ⟨Nat.le_of_ble_eq_true rfl, Nat.le_of_ble_eq_true rfl⟩ (kv_Row (r := 4) (by decide) E hI.1) rfl hl.1 rfl (Nat.le_of_ble_eq_true rfl) d_Terms_rewrite_344 (fun ad H locs cells slots hRm hI => ?_)
          refine lv_istore (lv' := [(4, .int (fR_pop β 4).1), (0, .ref (kad g 2)), (1, .int x1), (3, .int x3)]) hx hb d_Terms_rewrite_347 hl (by decide) rfl (fun ls hl => ?_)
          refine lv_iload_n hx hb d_Terms_rewrite_349 rfl (lv_at hl 2 rfl) ?_
          refine lv_if_eq (tgt := 358) hx hb d_Terms_rewrite_350 (by decide) (fun c13 => ?_) (fun c13 => ?_)
          · replace h := Eq.trans (if_pos c13).symm h
            refine lv_aload_n hx hb d_Terms_rewrite_358 rfl (lv_at hl 1 rfl) ?_
            refine kf_Terms_meter S E hI.1 vt_88 d_Terms_rewrite_359 ?_
            refine lv_aload_n hx hb d_Terms_rewrite_362 rfl (lv_at hl 1 rfl) ?_
            refine lv_iload hx hb d_Terms_rewrite_363 (lv_at hl 0 rfl) ?_
            refine kg_p (As := [.int (fR_pop β 4).1]) (rest := [.ref (kad g 1)]) (k_Terms_size (l := l) (g := g) (α := (fR_pop β 4).2) (fR_pop β 4).1) S E hI.1 kw_Terms_66 ⟨Nat.le_of_ble_eq_true rfl, Nat.le_of_ble_eq_true rfl⟩ hI.room (kv_Terms E hI.1) rfl hl.1 rfl (Nat.le_of_ble_eq_true rfl) d_Terms_rewrite_365 rfl ?_
            refine kg_cV (As := [.int (f_Terms_size (fR_pop β 4).1 (fR_pop β 4).2)]) (rest := []) h (k_Meter_charge (l := l) (g := g) (α := (fR_pop β 4).2) hfl N (f_Terms_size (fR_pop β 4).1 (fR_pop β 4).2)) S hlocks hno E hI kw_Terms_135 ⟨Nat.le_of_ble_eq_true rfl, Nat.le_of_ble_eq_true rfl⟩ (kv_Meter E hI.1) rfl hl.1 rfl (Nat.le_of_ble_eq_true rfl) d_Terms_rewrite_368 (fun α14 ad H locs cells slots e15 h hRm hI => ?_)
            refine lv_iload hx hb d_Terms_rewrite_371 (lv_at hl 0 rfl) ?_
            exact kc_iret (w := (fR_pop β 4).1) hx hb hr rfl hlocks E hI h d_Terms_rewrite_373
          · replace h := Eq.trans (if_neg c13).symm h
            refine lv_iload_n hx hb d_Terms_rewrite_353 rfl (lv_at hl 2 rfl) ?_
            refine lv_iconst (v := 2) hx hb d_Terms_rewrite_354 (by decide) ?_
            refine lv_icmp_ne (tgt := 371) hx hb d_Terms_rewrite_355 (by decide) (fun c16 => ?_) (fun c16 => ?_)
            · replace h := Eq.trans (if_neg c16).symm h
              refine lv_iload hx hb d_Terms_rewrite_371 (lv_at hl 0 rfl) ?_
              exact kc_iret (w := (fR_pop β 4).1) hx hb hr rfl hlocks E hI h d_Terms_rewrite_373
            · replace h := Eq.trans (if_pos c16).symm h
              refine lv_aload_n hx hb d_Terms_rewrite_358 rfl (lv_at hl 1 rfl) ?_
              refine kf_Terms_meter S E hI.1 vt_88 d_Terms_rewrite_359 ?_
              refine lv_aload_n hx hb d_Terms_rewrite_362 rfl (lv_at hl 1 rfl) ?_
              refine lv_iload hx hb d_Terms_rewrite_363 (lv_at hl 0 rfl) ?_
              refine kg_p (As := [.int (fR_pop β 4).1]) (rest := [.ref (kad g 1)]) (k_Terms_size (l := l) (g := g) (α := (fR_pop β 4).2) (fR_pop β 4).1) S E hI.1 kw_Terms_66 ⟨Nat.le_of_ble_eq_true rfl, Nat.le_of_ble_eq_true rfl⟩ hI.room (kv_Terms E hI.1) rfl hl.1 rfl (Nat.le_of_ble_eq_true rfl) d_Terms_rewrite_365 rfl ?_
              refine kg_cV (As := [.int (f_Terms_size (fR_pop β 4).1 (fR_pop β 4).2)]) (rest := []) h (k_Meter_charge (l := l) (g := g) (α := (fR_pop β 4).2) hfl N (f_Terms_size (fR_pop β 4).1 (fR_pop β 4).2)) S hlocks hno E hI kw_Terms_135 ⟨Nat.le_of_ble_eq_true rfl, Nat.le_of_ble_eq_true rfl⟩ (kv_Meter E hI.1) rfl hl.1 rfl (Nat.le_of_ble_eq_true rfl) d_Terms_rewrite_368 (fun α17 ad H locs cells slots e18 h hRm hI => ?_)
              refine lv_iload hx hb d_Terms_rewrite_371 (lv_at hl 0 rfl) ?_
              exact kc_iret (w := (fR_pop β 4).1) hx hb hr rfl hlocks E hI h d_Terms_rewrite_373
        · replace h := Eq.trans (if_neg c12).symm h
          refine lv_aload_n hx hb d_Terms_rewrite_60 rfl (lv_at hl 1 rfl) ?_
          refine kf_Terms_offsets S E hI.1 vt_93 d_Terms_rewrite_61 ?_
          refine kg_tI (As := []) (rest := []) (k_Row_pop (l := l) (g := g) (α := β) (r := 3) (by decide)) S hlocks hno E hI kw_Terms_118 ⟨Nat.le_of_ble_eq_true rfl, Nat.le_of_ble_eq_true rfl⟩ (kv_Row (r := 3) (by decide) E hI.1) rfl hl.1 rfl (Nat.le_of_ble_eq_true rfl) d_Terms_rewrite_64 (fun ad H locs cells slots hRm hI => ?_)
          refine lv_istore (lv' := [(5, .int (fR_pop β 3).1), (4, .int x4), (0, .ref (kad g 2)), (1, .int x1), (3, .int x3)]) hx hb d_Terms_rewrite_67 hl (by decide) rfl (fun ls hl => ?_)
          refine lv_aload_n hx hb d_Terms_rewrite_69 rfl (lv_at hl 2 rfl) ?_
          refine kf_Terms_todo S E hI.1 vt_92 d_Terms_rewrite_70 ?_
          refine kg_tI (As := []) (rest := []) (k_Row_pop (l := l) (g := g) (α := (fR_pop β 3).2) (r := 2) (by decide)) S hlocks hno E hI kw_Terms_118 ⟨Nat.le_of_ble_eq_true rfl, Nat.le_of_ble_eq_true rfl⟩ (kv_Row (r := 2) (by decide) E hI.1) rfl hl.1 rfl (Nat.le_of_ble_eq_true rfl) d_Terms_rewrite_73 (fun ad H locs cells slots hRm hI => ?_)
          refine lv_istore (lv' := [(6, .int (fR_pop (fR_pop β 3).2 2).1), (5, .int (fR_pop β 3).1), (4, .int x4), (0, .ref (kad g 2)), (1, .int x1), (3, .int x3)]) hx hb d_Terms_rewrite_76 hl (by decide) rfl (fun ls hl => ?_)
          refine lv_iload hx hb d_Terms_rewrite_78 (lv_at hl 0 rfl) ?_
          refine lv_if_ge (tgt := 127) hx hb d_Terms_rewrite_80 (by decide) (fun c19 => ?_) (fun c19 => ?_)
          · replace h := Eq.trans (if_pos c19).symm h
            refine lv_aload_n hx hb d_Terms_rewrite_127 rfl (lv_at hl 3 rfl) ?_
            refine lv_iload_n hx hb d_Terms_rewrite_128 rfl (lv_at hl 4 rfl) ?_
            refine lv_iload hx hb d_Terms_rewrite_129 (lv_at hl 0 rfl) ?_
            refine lv_iload_n hx hb d_Terms_rewrite_131 rfl (lv_at hl 5 rfl) ?_
            refine lv_iload hx hb d_Terms_rewrite_132 (lv_at hl 1 rfl) ?_
            refine kg_p (As := [.int x1, .int (fR_pop (fR_pop β 3).2 2).1, .int x3, .int (fR_pop β 3).1]) (rest := []) (k_Terms_isUntouched (l := l) (g := g) (α := (fR_pop (fR_pop β 3).2 2).2) x1 (fR_pop (fR_pop β 3).2 2).1 x3 (fR_pop β 3).1) S E hI.1 kw_Terms_124 ⟨Nat.le_of_ble_eq_true rfl, Nat.le_of_ble_eq_true rfl⟩ hI.room (kv_Terms E hI.1) rfl hl.1 rfl (Nat.le_of_ble_eq_true rfl) d_Terms_rewrite_134 rfl ?_
            refine lv_if_eq (tgt := 152) hx hb d_Terms_rewrite_137 (by decide) (fun c20 => ?_) (fun c20 => ?_)
            · replace h := Eq.trans (if_pos c20).symm h
              refine lv_aload_n hx hb d_Terms_rewrite_152 rfl (lv_at hl 3 rfl) ?_
              refine lv_iload hx hb d_Terms_rewrite_153 (lv_at hl 0 rfl) ?_
              refine kg_p (As := [.int (fR_pop (fR_pop β 3).2 2).1]) (rest := []) (k_Terms_kind (l := l) (g := g) (α := (fR_pop (fR_pop β 3).2 2).2) (fR_pop (fR_pop β 3).2 2).1) S E hI.1 kw_Terms_52 ⟨Nat.le_of_ble_eq_true rfl, Nat.le_of_ble_eq_true rfl⟩ hI.room (kv_Terms E hI.1) rfl hl.1 rfl (Nat.le_of_ble_eq_true rfl) d_Terms_rewrite_155 rfl ?_
              refine lv_iconst (v := 5) hx hb d_Terms_rewrite_158 (by decide) ?_
              refine lv_icmp_ge (tgt := 178) hx hb d_Terms_rewrite_159 (by decide) (fun c21 => ?_) (fun c21 => ?_)
              · replace h := Eq.trans (if_pos c21).symm h
                refine lv_aload_n hx hb d_Terms_rewrite_178 rfl (lv_at hl 3 rfl) ?_
                refine lv_iload hx hb d_Terms_rewrite_179 (lv_at hl 0 rfl) ?_
                refine kg_p (As := [.int (fR_pop (fR_pop β 3).2 2).1]) (rest := []) (k_Terms_kind (l := l) (g := g) (α := (fR_pop (fR_pop β 3).2 2).2) (fR_pop (fR_pop β 3).2 2).1) S E hI.1 kw_Terms_52 ⟨Nat.le_of_ble_eq_true rfl, Nat.le_of_ble_eq_true rfl⟩ hI.room (kv_Terms E hI.1) rfl hl.1 rfl (Nat.le_of_ble_eq_true rfl) d_Terms_rewrite_181 rfl ?_
                refine lv_iconst (v := 5) hx hb d_Terms_rewrite_184 (by decide) ?_
                refine lv_icmp_ge (tgt := 261) hx hb d_Terms_rewrite_185 (by decide) (fun c22 => ?_) (fun c22 => ?_)
                · replace h := Eq.trans (if_pos c22).symm h
                  refine lv_aload_n hx hb d_Terms_rewrite_261 rfl (lv_at hl 3 rfl) ?_
                  refine kf_Terms_todo S E hI.1 vt_92 d_Terms_rewrite_262 ?_
                  refine lv_iconst (v := (-1)) hx hb d_Terms_rewrite_265 (by decide) ?_
                  refine lv_iload hx hb d_Terms_rewrite_266 (lv_at hl 0 rfl) ?_
                  refine lv_isub hx hb d_Terms_rewrite_268 ?_
                  refine kg_cV (As := [.int ((-1) - (fR_pop (fR_pop β 3).2 2).1)]) (rest := []) h (k_Row_push (l := l) (g := g) (α := (fR_pop (fR_pop β 3).2 2).2) (r := 2) (by decide) ((-1) - (fR_pop (fR_pop β 3).2 2).1)) S hlocks hno E hI kw_Terms_112 ⟨Nat.le_of_ble_eq_true rfl, Nat.le_of_ble_eq_true rfl⟩ (kv_Row (r := 2) (by decide) E hI.1) rfl hl.1 rfl (Nat.le_of_ble_eq_true rfl) d_Terms_rewrite_269 (fun α23 ad H locs cells slots e24 h hRm hI => ?_)
                  refine lv_aload_n hx hb d_Terms_rewrite_272 rfl (lv_at hl 3 rfl) ?_
                  refine kf_Terms_offsets S E hI.1 vt_93 d_Terms_rewrite_273 ?_
                  refine lv_iconst (v := 0) hx hb d_Terms_rewrite_276 (by decide) ?_
                  refine kg_cV (As := [.int 0]) (rest := []) h (k_Row_push (l := l) (g := g) (α := α23) (r := 3) (by decide) 0) S hlocks hno E hI kw_Terms_112 ⟨Nat.le_of_ble_eq_true rfl, Nat.le_of_ble_eq_true rfl⟩ (kv_Row (r := 3) (by decide) E hI.1) rfl hl.1 rfl (Nat.le_of_ble_eq_true rfl) d_Terms_rewrite_277 (fun α25 ad H locs cells slots e26 h hRm hI => ?_)
                  refine lv_aload_n hx hb d_Terms_rewrite_280 rfl (lv_at hl 3 rfl) ?_
                  refine kf_Terms_todo S E hI.1 vt_92 d_Terms_rewrite_281 ?_
                  refine lv_aload_n hx hb d_Terms_rewrite_284 rfl (lv_at hl 3 rfl) ?_
                  refine lv_iload hx hb d_Terms_rewrite_285 (lv_at hl 0 rfl) ?_
                  refine kg_p (As := [.int (fR_pop (fR_pop β 3).2 2).1]) (rest := [.ref (kad g (11 + 2))]) (k_Terms_right (l := l) (g := g) (α := α25) (fR_pop (fR_pop β 3).2 2).1) S E hI.1 kw_Terms_59 ⟨Nat.le_of_ble_eq_true rfl, Nat.le_of_ble_eq_true rfl⟩ hI.room (kv_Terms E hI.1) rfl hl.1 rfl (Nat.le_of_ble_eq_true rfl) d_Terms_rewrite_287 rfl ?_
                  refine kg_cV (As := [.int (f_Terms_right (fR_pop (fR_pop β 3).2 2).1 α25)]) (rest := []) h (k_Row_push (l := l) (g := g) (α := α25) (r := 2) (by decide) (f_Terms_right (fR_pop (fR_pop β 3).2 2).1 α25)) S hlocks hno E hI kw_Terms_112 ⟨Nat.le_of_ble_eq_true rfl, Nat.le_of_ble_eq_true rfl⟩ (kv_Row (r := 2) (by decide) E hI.1) rfl hl.1 rfl (Nat.le_of_ble_eq_true rfl) d_Terms_rewrite_290 (fun α27 ad H locs cells slots e28 h hRm hI => ?_)
                  refine lv_aload_n hx hb d_Terms_rewrite_293 rfl (lv_at hl 3 rfl) ?_
                  refine kf_Terms_offsets S E hI.1 vt_93 d_Terms_rewrite_294 ?_
                  refine lv_iload hx hb d_Terms_rewrite_297 (lv_at hl 1 rfl) ?_
                  refine lv_aload_n hx hb d_Terms_rewrite_299 rfl (lv_at hl 3 rfl) ?_
                  refine lv_iload hx hb d_Terms_rewrite_300 (lv_at hl 0 rfl) ?_
                  refine kg_p (As := [.int (fR_pop (fR_pop β 3).2 2).1]) (rest := [.int (fR_pop β 3).1, .ref (kad g (11 + 3))]) (k_Terms_kind (l := l) (g := g) (α := α27) (fR_pop (fR_pop β 3).2 2).1) S E hI.1 kw_Terms_52 ⟨Nat.le_of_ble_eq_true rfl, Nat.le_of_ble_eq_true rfl⟩ hI.room (kv_Terms E hI.1) rfl hl.1 rfl (Nat.le_of_ble_eq_true rfl) d_Terms_rewrite_302 rfl ?_
                  refine kg_pS (As := [.int (f_Terms_kind (fR_pop (fR_pop β 3).2 2).1 α27)]) (rest := [.int (fR_pop β 3).1, .ref (kad g (11 + 3))]) (k_Terms_binds (l := l) (g := g) (α := α27) (f_Terms_kind (fR_pop (fR_pop β 3).2 2).1 α27)) S E hI.1 kw_Terms_81 ⟨Nat.le_of_ble_eq_true rfl, Nat.le_of_ble_eq_true rfl⟩ hI.room rfl hl.1 rfl (Nat.le_of_ble_eq_true rfl) d_Terms_rewrite_305 ?_
                  refine lv_iadd hx hb d_Terms_rewrite_308 ?_
                  refine kg_cV (As := [.int ((fR_pop β 3).1 + (f_Terms_binds (f_Terms_kind (fR_pop (fR_pop β 3).2 2).1 α27) α27))]) (rest := []) h (k_Row_push (l := l) (g := g) (α := α27) (r := 3) (by decide) ((fR_pop β 3).1 + (f_Terms_binds (f_Terms_kind (fR_pop (fR_pop β 3).2 2).1 α27) α27))) S hlocks hno E hI kw_Terms_112 ⟨Nat.le_of_ble_eq_true rfl, Nat.le_of_ble_eq_true rfl⟩ (kv_Row (r := 3) (by decide) E hI.1) rfl hl.1 rfl (Nat.le_of_ble_eq_true rfl) d_Terms_rewrite_309 (fun α29 ad H locs cells slots e30 h hRm hI => ?_)
                  refine lv_aload_n hx hb d_Terms_rewrite_312 rfl (lv_at hl 3 rfl) ?_
                  refine kf_Terms_todo S E hI.1 vt_92 d_Terms_rewrite_313 ?_
                  refine lv_aload_n hx hb d_Terms_rewrite_316 rfl (lv_at hl 3 rfl) ?_
                  refine lv_iload hx hb d_Terms_rewrite_317 (lv_at hl 0 rfl) ?_
                  refine kg_p (As := [.int (fR_pop (fR_pop β 3).2 2).1]) (rest := [.ref (kad g (11 + 2))]) (k_Terms_left (l := l) (g := g) (α := α29) (fR_pop (fR_pop β 3).2 2).1) S E hI.1 kw_Terms_56 ⟨Nat.le_of_ble_eq_true rfl, Nat.le_of_ble_eq_true rfl⟩ hI.room (kv_Terms E hI.1) rfl hl.1 rfl (Nat.le_of_ble_eq_true rfl) d_Terms_rewrite_319 rfl ?_
                  refine kg_cV (As := [.int (f_Terms_left (fR_pop (fR_pop β 3).2 2).1 α29)]) (rest := []) h (k_Row_push (l := l) (g := g) (α := α29) (r := 2) (by decide) (f_Terms_left (fR_pop (fR_pop β 3).2 2).1 α29)) S hlocks hno E hI kw_Terms_112 ⟨Nat.le_of_ble_eq_true rfl, Nat.le_of_ble_eq_true rfl⟩ (kv_Row (r := 2) (by decide) E hI.1) rfl hl.1 rfl (Nat.le_of_ble_eq_true rfl) d_Terms_rewrite_322 (fun α31 ad H locs cells slots e32 h hRm hI => ?_)
                  refine lv_aload_n hx hb d_Terms_rewrite_325 rfl (lv_at hl 3 rfl) ?_
                  refine kf_Terms_offsets S E hI.1 vt_93 d_Terms_rewrite_326 ?_
                  refine lv_iload hx hb d_Terms_rewrite_329 (lv_at hl 1 rfl) ?_
                  refine kg_cV (As := [.int (fR_pop β 3).1]) (rest := []) h (k_Row_push (l := l) (g := g) (α := α31) (r := 3) (by decide) (fR_pop β 3).1) S hlocks hno E hI kw_Terms_112 ⟨Nat.le_of_ble_eq_true rfl, Nat.le_of_ble_eq_true rfl⟩ (kv_Row (r := 3) (by decide) E hI.1) rfl hl.1 rfl (Nat.le_of_ble_eq_true rfl) d_Terms_rewrite_331 (fun α33 ad H locs cells slots e34 h hRm hI => ?_)
                  refine lv_iinc (v := (x4 + 1)) (lv' := [(4, .int (x4 + 1)), (6, .int (fR_pop (fR_pop β 3).2 2).1), (5, .int (fR_pop β 3).1), (0, .ref (kad g 2)), (1, .int x1), (3, .int x3)]) hx hb d_Terms_rewrite_334 hl (k := 2) rfl rfl (by decide) rfl (fun ls hl => ?_)
                  refine lv_goto (tgt := 43) hx hb d_Terms_rewrite_337 (by decide) ?_
                  exact ih43 (x4 + 1) x1 x3 _ _ _ _ _ _ _ h hI (lv_sub hl [0, 3, 4, 5] rfl)
                · replace h := Eq.trans (if_neg c22).symm h
                  refine lv_aload_n hx hb d_Terms_rewrite_188 rfl (lv_at hl 3 rfl) ?_
                  refine lv_iload_n hx hb d_Terms_rewrite_189 rfl (lv_at hl 4 rfl) ?_
                  refine lv_iload hx hb d_Terms_rewrite_190 (lv_at hl 0 rfl) ?_
                  refine lv_iload_n hx hb d_Terms_rewrite_192 rfl (lv_at hl 5 rfl) ?_
                  refine lv_iload hx hb d_Terms_rewrite_193 (lv_at hl 1 rfl) ?_
                  refine kg_p (As := [.int x1, .int (fR_pop (fR_pop β 3).2 2).1, .int x3, .int (fR_pop β 3).1]) (rest := []) (k_Terms_changedName (l := l) (g := g) (α := (fR_pop (fR_pop β 3).2 2).2) x1 (fR_pop (fR_pop β 3).2 2).1 x3 (fR_pop β 3).1) S E hI.1 kw_Terms_128 ⟨Nat.le_of_ble_eq_true rfl, Nat.le_of_ble_eq_true rfl⟩ hI.room (kv_Terms E hI.1) rfl hl.1 rfl (Nat.le_of_ble_eq_true rfl) d_Terms_rewrite_195 rfl ?_
                  refine lv_istore (lv' := [(7, .int (f_Terms_changedName x1 (fR_pop (fR_pop β 3).2 2).1 x3 (fR_pop β 3).1 (fR_pop (fR_pop β 3).2 2).2)), (6, .int (fR_pop (fR_pop β 3).2 2).1), (5, .int (fR_pop β 3).1), (4, .int x4), (0, .ref (kad g 2)), (1, .int x1), (3, .int x3)]) hx hb d_Terms_rewrite_198 hl (by decide) rfl (fun ls hl => ?_)
                  refine lv_aload_n hx hb d_Terms_rewrite_200 rfl (lv_at hl 4 rfl) ?_
                  refine lv_iload hx hb d_Terms_rewrite_201 (lv_at hl 1 rfl) ?_
                  refine kg_p (As := [.int (fR_pop (fR_pop β 3).2 2).1]) (rest := []) (k_Terms_kind (l := l) (g := g) (α := (fR_pop (fR_pop β 3).2 2).2) (fR_pop (fR_pop β 3).2 2).1) S E hI.1 kw_Terms_52 ⟨Nat.le_of_ble_eq_true rfl, Nat.le_of_ble_eq_true rfl⟩ hI.room (kv_Terms E hI.1) rfl hl.1 rfl (Nat.le_of_ble_eq_true rfl) d_Terms_rewrite_203 rfl ?_
                  refine lv_iconst (v := 4) hx hb d_Terms_rewrite_206 (by decide) ?_
                  refine lv_icmp_ne (tgt := 225) hx hb d_Terms_rewrite_207 (by decide) (fun c35 => ?_) (fun c35 => ?_)
                  · replace h := Eq.trans (if_neg c35).symm h
                    refine lv_aload_n hx hb d_Terms_rewrite_225 rfl (lv_at hl 4 rfl) ?_
                    refine lv_iload hx hb d_Terms_rewrite_226 (lv_at hl 1 rfl) ?_
                    refine kg_p (As := [.int (fR_pop (fR_pop β 3).2 2).1]) (rest := []) (k_Terms_right (l := l) (g := g) (α := (fR_pop (fR_pop β 3).2 2).2) (fR_pop (fR_pop β 3).2 2).1) S E hI.1 kw_Terms_59 ⟨Nat.le_of_ble_eq_true rfl, Nat.le_of_ble_eq_true rfl⟩ hI.room (kv_Terms E hI.1) rfl hl.1 rfl (Nat.le_of_ble_eq_true rfl) d_Terms_rewrite_228 rfl ?_
                    refine lv_istore (lv' := [(8, .int (f_Terms_right (fR_pop (fR_pop β 3).2 2).1 (fR_pop (fR_pop β 3).2 2).2)), (7, .int (f_Terms_changedName x1 (fR_pop (fR_pop β 3).2 2).1 x3 (fR_pop β 3).1 (fR_pop (fR_pop β 3).2 2).2)), (6, .int (fR_pop (fR_pop β 3).2 2).1), (5, .int (fR_pop β 3).1), (4, .int x4), (0, .ref (kad g 2)), (1, .int x1), (3, .int x3)]) hx hb d_Terms_rewrite_231 hl (by decide) rfl (fun ls hl => ?_)
                    refine lv_aload_n hx hb d_Terms_rewrite_233 rfl (lv_at hl 5 rfl) ?_
                    refine kf_Terms_built S E hI.1 vt_94 d_Terms_rewrite_234 ?_
                    refine lv_aload_n hx hb d_Terms_rewrite_237 rfl (lv_at hl 5 rfl) ?_
                    refine lv_iload_n hx hb d_Terms_rewrite_238 rfl (lv_at hl 6 rfl) ?_
                    refine lv_aload_n hx hb d_Terms_rewrite_239 rfl (lv_at hl 5 rfl) ?_
                    refine lv_iload hx hb d_Terms_rewrite_240 (lv_at hl 2 rfl) ?_
                    refine kg_p (As := [.int (fR_pop (fR_pop β 3).2 2).1]) (rest := [.int x1, .ref (kad g 2), .ref (kad g (11 + 4))]) (k_Terms_kind (l := l) (g := g) (α := (fR_pop (fR_pop β 3).2 2).2) (fR_pop (fR_pop β 3).2 2).1) S E hI.1 kw_Terms_52 ⟨Nat.le_of_ble_eq_true rfl, Nat.le_of_ble_eq_true rfl⟩ hI.room (kv_Terms E hI.1) rfl hl.1 rfl (Nat.le_of_ble_eq_true rfl) d_Terms_rewrite_242 rfl ?_
                    refine kg_pS (As := [.int x1, .int (f_Terms_kind (fR_pop (fR_pop β 3).2 2).1 (fR_pop (fR_pop β 3).2 2).2)]) (rest := [.ref (kad g 2), .ref (kad g (11 + 4))]) (k_Terms_changedKind (l := l) (g := g) (α := (fR_pop (fR_pop β 3).2 2).2) x1 (f_Terms_kind (fR_pop (fR_pop β 3).2 2).1 (fR_pop (fR_pop β 3).2 2).2)) S E hI.1 kw_Terms_132 ⟨Nat.le_of_ble_eq_true rfl, Nat.le_of_ble_eq_true rfl⟩ hI.room rfl hl.1 rfl (Nat.le_of_ble_eq_true rfl) d_Terms_rewrite_245 ?_
                    refine lv_iload hx hb d_Terms_rewrite_248 (lv_at hl 1 rfl) ?_
                    refine lv_iload hx hb d_Terms_rewrite_250 (lv_at hl 0 rfl) ?_
                    refine kg_cI (As := [.int (f_Terms_changedKind x1 (f_Terms_kind (fR_pop (fR_pop β 3).2 2).1 (fR_pop (fR_pop β 3).2 2).2) (fR_pop (fR_pop β 3).2 2).2), .int (f_Terms_changedName x1 (fR_pop (fR_pop β 3).2 2).1 x3 (fR_pop β 3).1 (fR_pop (fR_pop β 3).2 2).2), .int (f_Terms_right (fR_pop (fR_pop β 3).2 2).1 (fR_pop (fR_pop β 3).2 2).2)]) (rest := [.ref (kad g (11 + 4))]) h (k_Terms_make (l := l) (g := g) (α := (fR_pop (fR_pop β 3).2 2).2) hfl N (f_Terms_changedKind x1 (f_Terms_kind (fR_pop (fR_pop β 3).2 2).1 (fR_pop (fR_pop β 3).2 2).2) (fR_pop (fR_pop β 3).2 2).2) (f_Terms_changedName x1 (fR_pop (fR_pop β 3).2 2).1 x3 (fR_pop β 3).1 (fR_pop (fR_pop β 3).2 2).2) (f_Terms_right (fR_pop (fR_pop β 3).2 2).1 (fR_pop (fR_pop β 3).2 2).2)) S hlocks hno E hI kw_Terms_121 ⟨Nat.le_of_ble_eq_true rfl, Nat.le_of_ble_eq_true rfl⟩ (kv_Terms E hI.1) rfl hl.1 rfl (Nat.le_of_ble_eq_true rfl) d_Terms_rewrite_252 (fun v38 α36 ad H locs cells slots e37 h hRm hI => ?_)
                    refine kg_cV (As := [.int v38]) (rest := []) h (k_Row_push (l := l) (g := g) (α := α36) (r := 4) (by decide) v38) S hlocks hno E hI kw_Terms_112 ⟨Nat.le_of_ble_eq_true rfl, Nat.le_of_ble_eq_true rfl⟩ (kv_Row (r := 4) (by decide) E hI.1) rfl hl.1 rfl (Nat.le_of_ble_eq_true rfl) d_Terms_rewrite_255 (fun α39 ad H locs cells slots e40 h hRm hI => ?_)
                    refine lv_goto (tgt := 334) hx hb d_Terms_rewrite_258 (by decide) ?_
                    refine lv_iinc (v := (x4 + 1)) (lv' := [(4, .int (x4 + 1)), (8, .int (f_Terms_right (fR_pop (fR_pop β 3).2 2).1 (fR_pop (fR_pop β 3).2 2).2)), (7, .int (f_Terms_changedName x1 (fR_pop (fR_pop β 3).2 2).1 x3 (fR_pop β 3).1 (fR_pop (fR_pop β 3).2 2).2)), (6, .int (fR_pop (fR_pop β 3).2 2).1), (5, .int (fR_pop β 3).1), (0, .ref (kad g 2)), (1, .int x1), (3, .int x3)]) hx hb d_Terms_rewrite_334 hl (k := 4) rfl rfl (by decide) rfl (fun ls hl => ?_)
                    refine lv_goto (tgt := 43) hx hb d_Terms_rewrite_337 (by decide) ?_
                    exact ih43 (x4 + 1) x1 x3 _ _ _ _ _ _ _ h hI (lv_sub hl [0, 5, 6, 7] rfl)
                  · replace h := Eq.trans (if_pos c35).symm h
                    refine lv_aload_n hx hb d_Terms_rewrite_210 rfl (lv_at hl 4 rfl) ?_
                    refine lv_iload hx hb d_Terms_rewrite_211 (lv_at hl 1 rfl) ?_
                    refine kg_p (As := [.int (fR_pop (fR_pop β 3).2 2).1]) (rest := []) (k_Terms_right (l := l) (g := g) (α := (fR_pop (fR_pop β 3).2 2).2) (fR_pop (fR_pop β 3).2 2).1) S E hI.1 kw_Terms_59 ⟨Nat.le_of_ble_eq_true rfl, Nat.le_of_ble_eq_true rfl⟩ hI.room (kv_Terms E hI.1) rfl hl.1 rfl (Nat.le_of_ble_eq_true rfl) d_Terms_rewrite_213 rfl ?_
                    refine lv_bipush (v := 101) hx hb d_Terms_rewrite_216 (by decide) ?_
                    refine lv_icmp_ne (tgt := 225) hx hb d_Terms_rewrite_218 (by decide) (fun c41 => ?_) (fun c41 => ?_)
                    · replace h := Eq.trans (if_neg c41).symm h
                      refine lv_aload_n hx hb d_Terms_rewrite_225 rfl (lv_at hl 4 rfl) ?_
                      refine lv_iload hx hb d_Terms_rewrite_226 (lv_at hl 1 rfl) ?_
                      refine kg_p (As := [.int (fR_pop (fR_pop β 3).2 2).1]) (rest := []) (k_Terms_right (l := l) (g := g) (α := (fR_pop (fR_pop β 3).2 2).2) (fR_pop (fR_pop β 3).2 2).1) S E hI.1 kw_Terms_59 ⟨Nat.le_of_ble_eq_true rfl, Nat.le_of_ble_eq_true rfl⟩ hI.room (kv_Terms E hI.1) rfl hl.1 rfl (Nat.le_of_ble_eq_true rfl) d_Terms_rewrite_228 rfl ?_
                      refine lv_istore (lv' := [(8, .int (f_Terms_right (fR_pop (fR_pop β 3).2 2).1 (fR_pop (fR_pop β 3).2 2).2)), (7, .int (f_Terms_changedName x1 (fR_pop (fR_pop β 3).2 2).1 x3 (fR_pop β 3).1 (fR_pop (fR_pop β 3).2 2).2)), (6, .int (fR_pop (fR_pop β 3).2 2).1), (5, .int (fR_pop β 3).1), (4, .int x4), (0, .ref (kad g 2)), (1, .int x1), (3, .int x3)]) hx hb d_Terms_rewrite_231 hl (by decide) rfl (fun ls hl => ?_)
                      refine lv_aload_n hx hb d_Terms_rewrite_233 rfl (lv_at hl 5 rfl) ?_
                      refine kf_Terms_built S E hI.1 vt_94 d_Terms_rewrite_234 ?_
                      refine lv_aload_n hx hb d_Terms_rewrite_237 rfl (lv_at hl 5 rfl) ?_
                      refine lv_iload_n hx hb d_Terms_rewrite_238 rfl (lv_at hl 6 rfl) ?_
                      refine lv_aload_n hx hb d_Terms_rewrite_239 rfl (lv_at hl 5 rfl) ?_
                      refine lv_iload hx hb d_Terms_rewrite_240 (lv_at hl 2 rfl) ?_
                      refine kg_p (As := [.int (fR_pop (fR_pop β 3).2 2).1]) (rest := [.int x1, .ref (kad g 2), .ref (kad g (11 + 4))]) (k_Terms_kind (l := l) (g := g) (α := (fR_pop (fR_pop β 3).2 2).2) (fR_pop (fR_pop β 3).2 2).1) S E hI.1 kw_Terms_52 ⟨Nat.le_of_ble_eq_true rfl, Nat.le_of_ble_eq_true rfl⟩ hI.room (kv_Terms E hI.1) rfl hl.1 rfl (Nat.le_of_ble_eq_true rfl) d_Terms_rewrite_242 rfl ?_
                      refine kg_pS (As := [.int x1, .int (f_Terms_kind (fR_pop (fR_pop β 3).2 2).1 (fR_pop (fR_pop β 3).2 2).2)]) (rest := [.ref (kad g 2), .ref (kad g (11 + 4))]) (k_Terms_changedKind (l := l) (g := g) (α := (fR_pop (fR_pop β 3).2 2).2) x1 (f_Terms_kind (fR_pop (fR_pop β 3).2 2).1 (fR_pop (fR_pop β 3).2 2).2)) S E hI.1 kw_Terms_132 ⟨Nat.le_of_ble_eq_true rfl, Nat.le_of_ble_eq_true rfl⟩ hI.room rfl hl.1 rfl (Nat.le_of_ble_eq_true rfl) d_Terms_rewrite_245 ?_
                      refine lv_iload hx hb d_Terms_rewrite_248 (lv_at hl 1 rfl) ?_
                      refine lv_iload hx hb d_Terms_rewrite_250 (lv_at hl 0 rfl) ?_
                      refine kg_cI (As := [.int (f_Terms_changedKind x1 (f_Terms_kind (fR_pop (fR_pop β 3).2 2).1 (fR_pop (fR_pop β 3).2 2).2) (fR_pop (fR_pop β 3).2 2).2), .int (f_Terms_changedName x1 (fR_pop (fR_pop β 3).2 2).1 x3 (fR_pop β 3).1 (fR_pop (fR_pop β 3).2 2).2), .int (f_Terms_right (fR_pop (fR_pop β 3).2 2).1 (fR_pop (fR_pop β 3).2 2).2)]) (rest := [.ref (kad g (11 + 4))]) h (k_Terms_make (l := l) (g := g) (α := (fR_pop (fR_pop β 3).2 2).2) hfl N (f_Terms_changedKind x1 (f_Terms_kind (fR_pop (fR_pop β 3).2 2).1 (fR_pop (fR_pop β 3).2 2).2) (fR_pop (fR_pop β 3).2 2).2) (f_Terms_changedName x1 (fR_pop (fR_pop β 3).2 2).1 x3 (fR_pop β 3).1 (fR_pop (fR_pop β 3).2 2).2) (f_Terms_right (fR_pop (fR_pop β 3).2 2).1 (fR_pop (fR_pop β 3).2 2).2)) S hlocks hno E hI kw_Terms_121 ⟨Nat.le_of_ble_eq_true rfl, Nat.le_of_ble_eq_true rfl⟩ (kv_Terms E hI.1) rfl hl.1 rfl (Nat.le_of_ble_eq_true rfl) d_Terms_rewrite_252 (fun v44 α42 ad H locs cells slots e43 h hRm hI => ?_)
                      refine kg_cV (As := [.int v44]) (rest := []) h (k_Row_push (l := l) (g := g) (α := α42) (r := 4) (by decide) v44) S hlocks hno E hI kw_Terms_112 ⟨Nat.le_of_ble_eq_true rfl, Nat.le_of_ble_eq_true rfl⟩ (kv_Row (r := 4) (by decide) E hI.1) rfl hl.1 rfl (Nat.le_of_ble_eq_true rfl) d_Terms_rewrite_255 (fun α45 ad H locs cells slots e46 h hRm hI => ?_)
                      refine lv_goto (tgt := 334) hx hb d_Terms_rewrite_258 (by decide) ?_
                      refine lv_iinc (v := (x4 + 1)) (lv' := [(4, .int (x4 + 1)), (8, .int (f_Terms_right (fR_pop (fR_pop β 3).2 2).1 (fR_pop (fR_pop β 3).2 2).2)), (7, .int (f_Terms_changedName x1 (fR_pop (fR_pop β 3).2 2).1 x3 (fR_pop β 3).1 (fR_pop (fR_pop β 3).2 2).2)), (6, .int (fR_pop (fR_pop β 3).2 2).1), (5, .int (fR_pop β 3).1), (0, .ref (kad g 2)), (1, .int x1), (3, .int x3)]) hx hb d_Terms_rewrite_334 hl (k := 4) rfl rfl (by decide) rfl (fun ls hl => ?_)
                      refine lv_goto (tgt := 43) hx hb d_Terms_rewrite_337 (by decide) ?_
                      exact ih43 (x4 + 1) x1 x3 _ _ _ _ _ _ _ h hI (lv_sub hl [0, 5, 6, 7] rfl)
                    · replace h := Eq.trans (if_pos c41).symm h
                      refine lv_iload_n hx hb d_Terms_rewrite_221 rfl (lv_at hl 6 rfl) ?_
                      refine lv_goto (tgt := 231) hx hb d_Terms_rewrite_222 (by decide) ?_
                      refine lv_istore (lv' := [(8, .int x3), (7, .int (f_Terms_changedName x1 (fR_pop (fR_pop β 3).2 2).1 x3 (fR_pop β 3).1 (fR_pop (fR_pop β 3).2 2).2)), (6, .int (fR_pop (fR_pop β 3).2 2).1), (5, .int (fR_pop β 3).1), (4, .int x4), (0, .ref (kad g 2)), (1, .int x1), (3, .int x3)]) hx hb d_Terms_rewrite_231 hl (by decide) rfl (fun ls hl => ?_)
                      refine lv_aload_n hx hb d_Terms_rewrite_233 rfl (lv_at hl 5 rfl) ?_
                      refine kf_Terms_built S E hI.1 vt_94 d_Terms_rewrite_234 ?_
                      refine lv_aload_n hx hb d_Terms_rewrite_237 rfl (lv_at hl 5 rfl) ?_
                      refine lv_iload_n hx hb d_Terms_rewrite_238 rfl (lv_at hl 6 rfl) ?_
                      refine lv_aload_n hx hb d_Terms_rewrite_239 rfl (lv_at hl 5 rfl) ?_
                      refine lv_iload hx hb d_Terms_rewrite_240 (lv_at hl 2 rfl) ?_
                      refine kg_p (As := [.int (fR_pop (fR_pop β 3).2 2).1]) (rest := [.int x1, .ref (kad g 2), .ref (kad g (11 + 4))]) (k_Terms_kind (l := l) (g := g) (α := (fR_pop (fR_pop β 3).2 2).2) (fR_pop (fR_pop β 3).2 2).1) S E hI.1 kw_Terms_52 ⟨Nat.le_of_ble_eq_true rfl, Nat.le_of_ble_eq_true rfl⟩ hI.room (kv_Terms E hI.1) rfl hl.1 rfl (Nat.le_of_ble_eq_true rfl) d_Terms_rewrite_242 rfl ?_
                      refine kg_pS (As := [.int x1, .int (f_Terms_kind (fR_pop (fR_pop β 3).2 2).1 (fR_pop (fR_pop β 3).2 2).2)]) (rest := [.ref (kad g 2), .ref (kad g (11 + 4))]) (k_Terms_changedKind (l := l) (g := g) (α := (fR_pop (fR_pop β 3).2 2).2) x1 (f_Terms_kind (fR_pop (fR_pop β 3).2 2).1 (fR_pop (fR_pop β 3).2 2).2)) S E hI.1 kw_Terms_132 ⟨Nat.le_of_ble_eq_true rfl, Nat.le_of_ble_eq_true rfl⟩ hI.room rfl hl.1 rfl (Nat.le_of_ble_eq_true rfl) d_Terms_rewrite_245 ?_
                      refine lv_iload hx hb d_Terms_rewrite_248 (lv_at hl 1 rfl) ?_
                      refine lv_iload hx hb d_Terms_rewrite_250 (lv_at hl 0 rfl) ?_
                      refine kg_cI (As := [.int (f_Terms_changedKind x1 (f_Terms_kind (fR_pop (fR_pop β 3).2 2).1 (fR_pop (fR_pop β 3).2 2).2) (fR_pop (fR_pop β 3).2 2).2), .int (f_Terms_changedName x1 (fR_pop (fR_pop β 3).2 2).1 x3 (fR_pop β 3).1 (fR_pop (fR_pop β 3).2 2).2), .int x3]) (rest := [.ref (kad g (11 + 4))]) h (k_Terms_make (l := l) (g := g) (α := (fR_pop (fR_pop β 3).2 2).2) hfl N (f_Terms_changedKind x1 (f_Terms_kind (fR_pop (fR_pop β 3).2 2).1 (fR_pop (fR_pop β 3).2 2).2) (fR_pop (fR_pop β 3).2 2).2) (f_Terms_changedName x1 (fR_pop (fR_pop β 3).2 2).1 x3 (fR_pop β 3).1 (fR_pop (fR_pop β 3).2 2).2) x3) S hlocks hno E hI kw_Terms_121 ⟨Nat.le_of_ble_eq_true rfl, Nat.le_of_ble_eq_true rfl⟩ (kv_Terms E hI.1) rfl hl.1 rfl (Nat.le_of_ble_eq_true rfl) d_Terms_rewrite_252 (fun v49 α47 ad H locs cells slots e48 h hRm hI => ?_)
                      refine kg_cV (As := [.int v49]) (rest := []) h (k_Row_push (l := l) (g := g) (α := α47) (r := 4) (by decide) v49) S hlocks hno E hI kw_Terms_112 ⟨Nat.le_of_ble_eq_true rfl, Nat.le_of_ble_eq_true rfl⟩ (kv_Row (r := 4) (by decide) E hI.1) rfl hl.1 rfl (Nat.le_of_ble_eq_true rfl) d_Terms_rewrite_255 (fun α50 ad H locs cells slots e51 h hRm hI => ?_)
                      refine lv_goto (tgt := 334) hx hb d_Terms_rewrite_258 (by decide) ?_
                      refine lv_iinc (v := (x4 + 1)) (lv' := [(4, .int (x4 + 1)), (8, .int x3), (7, .int (f_Terms_changedName x1 (fR_pop (fR_pop β 3).2 2).1 x3 (fR_pop β 3).1 (fR_pop (fR_pop β 3).2 2).2)), (6, .int (fR_pop (fR_pop β 3).2 2).1), (5, .int (fR_pop β 3).1), (0, .ref (kad g 2)), (1, .int x1), (3, .int x3)]) hx hb d_Terms_rewrite_334 hl (k := 4) rfl rfl (by decide) rfl (fun ls hl => ?_)
                      refine lv_goto (tgt := 43) hx hb d_Terms_rewrite_337 (by decide) ?_
                      exact ih43 (x4 + 1) x1 x3 _ _ _ _ _ _ _ h hI (lv_sub hl [0, 5, 6, 7] rfl)
              · replace h := Eq.trans (if_neg c21).symm h
                refine lv_iload_n hx hb d_Terms_rewrite_162 rfl (lv_at hl 4 rfl) ?_
                refine lv_iconst (v := 1) hx hb d_Terms_rewrite_163 (by decide) ?_
                refine lv_icmp_gt (tgt := 178) hx hb d_Terms_rewrite_164 (by decide) (fun c52 => ?_) (fun c52 => ?_)
                · replace h := Eq.trans (if_pos c52).symm h
                  refine lv_aload_n hx hb d_Terms_rewrite_178 rfl (lv_at hl 3 rfl) ?_
                  refine lv_iload hx hb d_Terms_rewrite_179 (lv_at hl 0 rfl) ?_
                  refine kg_p (As := [.int (fR_pop (fR_pop β 3).2 2).1]) (rest := []) (k_Terms_kind (l := l) (g := g) (α := (fR_pop (fR_pop β 3).2 2).2) (fR_pop (fR_pop β 3).2 2).1) S E hI.1 kw_Terms_52 ⟨Nat.le_of_ble_eq_true rfl, Nat.le_of_ble_eq_true rfl⟩ hI.room (kv_Terms E hI.1) rfl hl.1 rfl (Nat.le_of_ble_eq_true rfl) d_Terms_rewrite_181 rfl ?_
                  refine lv_iconst (v := 5) hx hb d_Terms_rewrite_184 (by decide) ?_
                  refine lv_icmp_ge (tgt := 261) hx hb d_Terms_rewrite_185 (by decide) (fun c53 => ?_) (fun c53 => ?_)
                  · replace h := Eq.trans (if_pos c53).symm h
                    refine lv_aload_n hx hb d_Terms_rewrite_261 rfl (lv_at hl 3 rfl) ?_
                    refine kf_Terms_todo S E hI.1 vt_92 d_Terms_rewrite_262 ?_
                    refine lv_iconst (v := (-1)) hx hb d_Terms_rewrite_265 (by decide) ?_
                    refine lv_iload hx hb d_Terms_rewrite_266 (lv_at hl 0 rfl) ?_
                    refine lv_isub hx hb d_Terms_rewrite_268 ?_
                    refine kg_cV (As := [.int ((-1) - (fR_pop (fR_pop β 3).2 2).1)]) (rest := []) h (k_Row_push (l := l) (g := g) (α := (fR_pop (fR_pop β 3).2 2).2) (r := 2) (by decide) ((-1) - (fR_pop (fR_pop β 3).2 2).1)) S hlocks hno E hI kw_Terms_112 ⟨Nat.le_of_ble_eq_true rfl, Nat.le_of_ble_eq_true rfl⟩ (kv_Row (r := 2) (by decide) E hI.1) rfl hl.1 rfl (Nat.le_of_ble_eq_true rfl) d_Terms_rewrite_269 (fun α54 ad H locs cells slots e55 h hRm hI => ?_)
                    refine lv_aload_n hx hb d_Terms_rewrite_272 rfl (lv_at hl 3 rfl) ?_
                    refine kf_Terms_offsets S E hI.1 vt_93 d_Terms_rewrite_273 ?_
                    refine lv_iconst (v := 0) hx hb d_Terms_rewrite_276 (by decide) ?_
                    refine kg_cV (As := [.int 0]) (rest := []) h (k_Row_push (l := l) (g := g) (α := α54) (r := 3) (by decide) 0) S hlocks hno E hI kw_Terms_112 ⟨Nat.le_of_ble_eq_true rfl, Nat.le_of_ble_eq_true rfl⟩ (kv_Row (r := 3) (by decide) E hI.1) rfl hl.1 rfl (Nat.le_of_ble_eq_true rfl) d_Terms_rewrite_277 (fun α56 ad H locs cells slots e57 h hRm hI => ?_)
                    refine lv_aload_n hx hb d_Terms_rewrite_280 rfl (lv_at hl 3 rfl) ?_
                    refine kf_Terms_todo S E hI.1 vt_92 d_Terms_rewrite_281 ?_
                    refine lv_aload_n hx hb d_Terms_rewrite_284 rfl (lv_at hl 3 rfl) ?_
                    refine lv_iload hx hb d_Terms_rewrite_285 (lv_at hl 0 rfl) ?_
                    refine kg_p (As := [.int (fR_pop (fR_pop β 3).2 2).1]) (rest := [.ref (kad g (11 + 2))]) (k_Terms_right (l := l) (g := g) (α := α56) (fR_pop (fR_pop β 3).2 2).1) S E hI.1 kw_Terms_59 ⟨Nat.le_of_ble_eq_true rfl, Nat.le_of_ble_eq_true rfl⟩ hI.room (kv_Terms E hI.1) rfl hl.1 rfl (Nat.le_of_ble_eq_true rfl) d_Terms_rewrite_287 rfl ?_
                    refine kg_cV (As := [.int (f_Terms_right (fR_pop (fR_pop β 3).2 2).1 α56)]) (rest := []) h (k_Row_push (l := l) (g := g) (α := α56) (r := 2) (by decide) (f_Terms_right (fR_pop (fR_pop β 3).2 2).1 α56)) S hlocks hno E hI kw_Terms_112 ⟨Nat.le_of_ble_eq_true rfl, Nat.le_of_ble_eq_true rfl⟩ (kv_Row (r := 2) (by decide) E hI.1) rfl hl.1 rfl (Nat.le_of_ble_eq_true rfl) d_Terms_rewrite_290 (fun α58 ad H locs cells slots e59 h hRm hI => ?_)
                    refine lv_aload_n hx hb d_Terms_rewrite_293 rfl (lv_at hl 3 rfl) ?_
                    refine kf_Terms_offsets S E hI.1 vt_93 d_Terms_rewrite_294 ?_
                    refine lv_iload hx hb d_Terms_rewrite_297 (lv_at hl 1 rfl) ?_
                    refine lv_aload_n hx hb d_Terms_rewrite_299 rfl (lv_at hl 3 rfl) ?_
                    refine lv_iload hx hb d_Terms_rewrite_300 (lv_at hl 0 rfl) ?_
                    refine kg_p (As := [.int (fR_pop (fR_pop β 3).2 2).1]) (rest := [.int (fR_pop β 3).1, .ref (kad g (11 + 3))]) (k_Terms_kind (l := l) (g := g) (α := α58) (fR_pop (fR_pop β 3).2 2).1) S E hI.1 kw_Terms_52 ⟨Nat.le_of_ble_eq_true rfl, Nat.le_of_ble_eq_true rfl⟩ hI.room (kv_Terms E hI.1) rfl hl.1 rfl (Nat.le_of_ble_eq_true rfl) d_Terms_rewrite_302 rfl ?_
                    refine kg_pS (As := [.int (f_Terms_kind (fR_pop (fR_pop β 3).2 2).1 α58)]) (rest := [.int (fR_pop β 3).1, .ref (kad g (11 + 3))]) (k_Terms_binds (l := l) (g := g) (α := α58) (f_Terms_kind (fR_pop (fR_pop β 3).2 2).1 α58)) S E hI.1 kw_Terms_81 ⟨Nat.le_of_ble_eq_true rfl, Nat.le_of_ble_eq_true rfl⟩ hI.room rfl hl.1 rfl (Nat.le_of_ble_eq_true rfl) d_Terms_rewrite_305 ?_
                    refine lv_iadd hx hb d_Terms_rewrite_308 ?_
                    refine kg_cV (As := [.int ((fR_pop β 3).1 + (f_Terms_binds (f_Terms_kind (fR_pop (fR_pop β 3).2 2).1 α58) α58))]) (rest := []) h (k_Row_push (l := l) (g := g) (α := α58) (r := 3) (by decide) ((fR_pop β 3).1 + (f_Terms_binds (f_Terms_kind (fR_pop (fR_pop β 3).2 2).1 α58) α58))) S hlocks hno E hI kw_Terms_112 ⟨Nat.le_of_ble_eq_true rfl, Nat.le_of_ble_eq_true rfl⟩ (kv_Row (r := 3) (by decide) E hI.1) rfl hl.1 rfl (Nat.le_of_ble_eq_true rfl) d_Terms_rewrite_309 (fun α60 ad H locs cells slots e61 h hRm hI => ?_)
                    refine lv_aload_n hx hb d_Terms_rewrite_312 rfl (lv_at hl 3 rfl) ?_
                    refine kf_Terms_todo S E hI.1 vt_92 d_Terms_rewrite_313 ?_
                    refine lv_aload_n hx hb d_Terms_rewrite_316 rfl (lv_at hl 3 rfl) ?_
                    refine lv_iload hx hb d_Terms_rewrite_317 (lv_at hl 0 rfl) ?_
                    refine kg_p (As := [.int (fR_pop (fR_pop β 3).2 2).1]) (rest := [.ref (kad g (11 + 2))]) (k_Terms_left (l := l) (g := g) (α := α60) (fR_pop (fR_pop β 3).2 2).1) S E hI.1 kw_Terms_56 ⟨Nat.le_of_ble_eq_true rfl, Nat.le_of_ble_eq_true rfl⟩ hI.room (kv_Terms E hI.1) rfl hl.1 rfl (Nat.le_of_ble_eq_true rfl) d_Terms_rewrite_319 rfl ?_
                    refine kg_cV (As := [.int (f_Terms_left (fR_pop (fR_pop β 3).2 2).1 α60)]) (rest := []) h (k_Row_push (l := l) (g := g) (α := α60) (r := 2) (by decide) (f_Terms_left (fR_pop (fR_pop β 3).2 2).1 α60)) S hlocks hno E hI kw_Terms_112 ⟨Nat.le_of_ble_eq_true rfl, Nat.le_of_ble_eq_true rfl⟩ (kv_Row (r := 2) (by decide) E hI.1) rfl hl.1 rfl (Nat.le_of_ble_eq_true rfl) d_Terms_rewrite_322 (fun α62 ad H locs cells slots e63 h hRm hI => ?_)
                    refine lv_aload_n hx hb d_Terms_rewrite_325 rfl (lv_at hl 3 rfl) ?_
                    refine kf_Terms_offsets S E hI.1 vt_93 d_Terms_rewrite_326 ?_
                    refine lv_iload hx hb d_Terms_rewrite_329 (lv_at hl 1 rfl) ?_
                    refine kg_cV (As := [.int (fR_pop β 3).1]) (rest := []) h (k_Row_push (l := l) (g := g) (α := α62) (r := 3) (by decide) (fR_pop β 3).1) S hlocks hno E hI kw_Terms_112 ⟨Nat.le_of_ble_eq_true rfl, Nat.le_of_ble_eq_true rfl⟩ (kv_Row (r := 3) (by decide) E hI.1) rfl hl.1 rfl (Nat.le_of_ble_eq_true rfl) d_Terms_rewrite_331 (fun α64 ad H locs cells slots e65 h hRm hI => ?_)
                    refine lv_iinc (v := (x4 + 1)) (lv' := [(4, .int (x4 + 1)), (6, .int (fR_pop (fR_pop β 3).2 2).1), (5, .int (fR_pop β 3).1), (0, .ref (kad g 2)), (1, .int x1), (3, .int x3)]) hx hb d_Terms_rewrite_334 hl (k := 2) rfl rfl (by decide) rfl (fun ls hl => ?_)
                    refine lv_goto (tgt := 43) hx hb d_Terms_rewrite_337 (by decide) ?_
                    exact ih43 (x4 + 1) x1 x3 _ _ _ _ _ _ _ h hI (lv_sub hl [0, 3, 4, 5] rfl)
                  · replace h := Eq.trans (if_neg c53).symm h
                    refine lv_aload_n hx hb d_Terms_rewrite_188 rfl (lv_at hl 3 rfl) ?_
                    refine lv_iload_n hx hb d_Terms_rewrite_189 rfl (lv_at hl 4 rfl) ?_
                    refine lv_iload hx hb d_Terms_rewrite_190 (lv_at hl 0 rfl) ?_
                    refine lv_iload_n hx hb d_Terms_rewrite_192 rfl (lv_at hl 5 rfl) ?_
                    refine lv_iload hx hb d_Terms_rewrite_193 (lv_at hl 1 rfl) ?_
                    refine kg_p (As := [.int x1, .int (fR_pop (fR_pop β 3).2 2).1, .int x3, .int (fR_pop β 3).1]) (rest := []) (k_Terms_changedName (l := l) (g := g) (α := (fR_pop (fR_pop β 3).2 2).2) x1 (fR_pop (fR_pop β 3).2 2).1 x3 (fR_pop β 3).1) S E hI.1 kw_Terms_128 ⟨Nat.le_of_ble_eq_true rfl, Nat.le_of_ble_eq_true rfl⟩ hI.room (kv_Terms E hI.1) rfl hl.1 rfl (Nat.le_of_ble_eq_true rfl) d_Terms_rewrite_195 rfl ?_
                    refine lv_istore (lv' := [(7, .int (f_Terms_changedName x1 (fR_pop (fR_pop β 3).2 2).1 x3 (fR_pop β 3).1 (fR_pop (fR_pop β 3).2 2).2)), (6, .int (fR_pop (fR_pop β 3).2 2).1), (5, .int (fR_pop β 3).1), (4, .int x4), (0, .ref (kad g 2)), (1, .int x1), (3, .int x3)]) hx hb d_Terms_rewrite_198 hl (by decide) rfl (fun ls hl => ?_)
                    refine lv_aload_n hx hb d_Terms_rewrite_200 rfl (lv_at hl 4 rfl) ?_
                    refine lv_iload hx hb d_Terms_rewrite_201 (lv_at hl 1 rfl) ?_
                    refine kg_p (As := [.int (fR_pop (fR_pop β 3).2 2).1]) (rest := []) (k_Terms_kind (l := l) (g := g) (α := (fR_pop (fR_pop β 3).2 2).2) (fR_pop (fR_pop β 3).2 2).1) S E hI.1 kw_Terms_52 ⟨Nat.le_of_ble_eq_true rfl, Nat.le_of_ble_eq_true rfl⟩ hI.room (kv_Terms E hI.1) rfl hl.1 rfl (Nat.le_of_ble_eq_true rfl) d_Terms_rewrite_203 rfl ?_
                    refine lv_iconst (v := 4) hx hb d_Terms_rewrite_206 (by decide) ?_
                    refine lv_icmp_ne (tgt := 225) hx hb d_Terms_rewrite_207 (by decide) (fun c66 => ?_) (fun c66 => ?_)
                    · replace h := Eq.trans (if_neg c66).symm h
                      refine lv_aload_n hx hb d_Terms_rewrite_225 rfl (lv_at hl 4 rfl) ?_
                      refine lv_iload hx hb d_Terms_rewrite_226 (lv_at hl 1 rfl) ?_
                      refine kg_p (As := [.int (fR_pop (fR_pop β 3).2 2).1]) (rest := []) (k_Terms_right (l := l) (g := g) (α := (fR_pop (fR_pop β 3).2 2).2) (fR_pop (fR_pop β 3).2 2).1) S E hI.1 kw_Terms_59 ⟨Nat.le_of_ble_eq_true rfl, Nat.le_of_ble_eq_true rfl⟩ hI.room (kv_Terms E hI.1) rfl hl.1 rfl (Nat.le_of_ble_eq_true rfl) d_Terms_rewrite_228 rfl ?_
                      refine lv_istore (lv' := [(8, .int (f_Terms_right (fR_pop (fR_pop β 3).2 2).1 (fR_pop (fR_pop β 3).2 2).2)), (7, .int (f_Terms_changedName x1 (fR_pop (fR_pop β 3).2 2).1 x3 (fR_pop β 3).1 (fR_pop (fR_pop β 3).2 2).2)), (6, .int (fR_pop (fR_pop β 3).2 2).1), (5, .int (fR_pop β 3).1), (4, .int x4), (0, .ref (kad g 2)), (1, .int x1), (3, .int x3)]) hx hb d_Terms_rewrite_231 hl (by decide) rfl (fun ls hl => ?_)
                      refine lv_aload_n hx hb d_Terms_rewrite_233 rfl (lv_at hl 5 rfl) ?_
                      refine kf_Terms_built S E hI.1 vt_94 d_Terms_rewrite_234 ?_
                      refine lv_aload_n hx hb d_Terms_rewrite_237 rfl (lv_at hl 5 rfl) ?_
                      refine lv_iload_n hx hb d_Terms_rewrite_238 rfl (lv_at hl 6 rfl) ?_
                      refine lv_aload_n hx hb d_Terms_rewrite_239 rfl (lv_at hl 5 rfl) ?_
                      refine lv_iload hx hb d_Terms_rewrite_240 (lv_at hl 2 rfl) ?_
                      refine kg_p (As := [.int (fR_pop (fR_pop β 3).2 2).1]) (rest := [.int x1, .ref (kad g 2), .ref (kad g (11 + 4))]) (k_Terms_kind (l := l) (g := g) (α := (fR_pop (fR_pop β 3).2 2).2) (fR_pop (fR_pop β 3).2 2).1) S E hI.1 kw_Terms_52 ⟨Nat.le_of_ble_eq_true rfl, Nat.le_of_ble_eq_true rfl⟩ hI.room (kv_Terms E hI.1) rfl hl.1 rfl (Nat.le_of_ble_eq_true rfl) d_Terms_rewrite_242 rfl ?_
                      refine kg_pS (As := [.int x1, .int (f_Terms_kind (fR_pop (fR_pop β 3).2 2).1 (fR_pop (fR_pop β 3).2 2).2)]) (rest := [.ref (kad g 2), .ref (kad g (11 + 4))]) (k_Terms_changedKind (l := l) (g := g) (α := (fR_pop (fR_pop β 3).2 2).2) x1 (f_Terms_kind (fR_pop (fR_pop β 3).2 2).1 (fR_pop (fR_pop β 3).2 2).2)) S E hI.1 kw_Terms_132 ⟨Nat.le_of_ble_eq_true rfl, Nat.le_of_ble_eq_true rfl⟩ hI.room rfl hl.1 rfl (Nat.le_of_ble_eq_true rfl) d_Terms_rewrite_245 ?_
                      refine lv_iload hx hb d_Terms_rewrite_248 (lv_at hl 1 rfl) ?_
                      refine lv_iload hx hb d_Terms_rewrite_250 (lv_at hl 0 rfl) ?_
                      refine kg_cI (As := [.int (f_Terms_changedKind x1 (f_Terms_kind (fR_pop (fR_pop β 3).2 2).1 (fR_pop (fR_pop β 3).2 2).2) (fR_pop (fR_pop β 3).2 2).2), .int (f_Terms_changedName x1 (fR_pop (fR_pop β 3).2 2).1 x3 (fR_pop β 3).1 (fR_pop (fR_pop β 3).2 2).2), .int (f_Terms_right (fR_pop (fR_pop β 3).2 2).1 (fR_pop (fR_pop β 3).2 2).2)]) (rest := [.ref (kad g (11 + 4))]) h (k_Terms_make (l := l) (g := g) (α := (fR_pop (fR_pop β 3).2 2).2) hfl N (f_Terms_changedKind x1 (f_Terms_kind (fR_pop (fR_pop β 3).2 2).1 (fR_pop (fR_pop β 3).2 2).2) (fR_pop (fR_pop β 3).2 2).2) (f_Terms_changedName x1 (fR_pop (fR_pop β 3).2 2).1 x3 (fR_pop β 3).1 (fR_pop (fR_pop β 3).2 2).2) (f_Terms_right (fR_pop (fR_pop β 3).2 2).1 (fR_pop (fR_pop β 3).2 2).2)) S hlocks hno E hI kw_Terms_121 ⟨Nat.le_of_ble_eq_true rfl, Nat.le_of_ble_eq_true rfl⟩ (kv_Terms E hI.1) rfl hl.1 rfl (Nat.le_of_ble_eq_true rfl) d_Terms_rewrite_252 (fun v69 α67 ad H locs cells slots e68 h hRm hI => ?_)
                      refine kg_cV (As := [.int v69]) (rest := []) h (k_Row_push (l := l) (g := g) (α := α67) (r := 4) (by decide) v69) S hlocks hno E hI kw_Terms_112 ⟨Nat.le_of_ble_eq_true rfl, Nat.le_of_ble_eq_true rfl⟩ (kv_Row (r := 4) (by decide) E hI.1) rfl hl.1 rfl (Nat.le_of_ble_eq_true rfl) d_Terms_rewrite_255 (fun α70 ad H locs cells slots e71 h hRm hI => ?_)
                      refine lv_goto (tgt := 334) hx hb d_Terms_rewrite_258 (by decide) ?_
                      refine lv_iinc (v := (x4 + 1)) (lv' := [(4, .int (x4 + 1)), (8, .int (f_Terms_right (fR_pop (fR_pop β 3).2 2).1 (fR_pop (fR_pop β 3).2 2).2)), (7, .int (f_Terms_changedName x1 (fR_pop (fR_pop β 3).2 2).1 x3 (fR_pop β 3).1 (fR_pop (fR_pop β 3).2 2).2)), (6, .int (fR_pop (fR_pop β 3).2 2).1), (5, .int (fR_pop β 3).1), (0, .ref (kad g 2)), (1, .int x1), (3, .int x3)]) hx hb d_Terms_rewrite_334 hl (k := 4) rfl rfl (by decide) rfl (fun ls hl => ?_)
                      refine lv_goto (tgt := 43) hx hb d_Terms_rewrite_337 (by decide) ?_
                      exact ih43 (x4 + 1) x1 x3 _ _ _ _ _ _ _ h hI (lv_sub hl [0, 5, 6, 7] rfl)
                    · replace h := Eq.trans (if_pos c66).symm h
                      refine lv_aload_n hx hb d_Terms_rewrite_210 rfl (lv_at hl 4 rfl) ?_
                      refine lv_iload hx hb d_Terms_rewrite_211 (lv_at hl 1 rfl) ?_
                      refine kg_p (As := [.int (fR_pop (fR_pop β 3).2 2).1]) (rest := []) (k_Terms_right (l := l) (g := g) (α := (fR_pop (fR_pop β 3).2 2).2) (fR_pop (fR_pop β 3).2 2).1) S E hI.1 kw_Terms_59 ⟨Nat.le_of_ble_eq_true rfl, Nat.le_of_ble_eq_true rfl⟩ hI.room (kv_Terms E hI.1) rfl hl.1 rfl (Nat.le_of_ble_eq_true rfl) d_Terms_rewrite_213 rfl ?_
                      refine lv_bipush (v := 101) hx hb d_Terms_rewrite_216 (by decide) ?_
                      refine lv_icmp_ne (tgt := 225) hx hb d_Terms_rewrite_218 (by decide) (fun c72 => ?_) (fun c72 => ?_)
                      · replace h := Eq.trans (if_neg c72).symm h
                        refine lv_aload_n hx hb d_Terms_rewrite_225 rfl (lv_at hl 4 rfl) ?_
                        refine lv_iload hx hb d_Terms_rewrite_226 (lv_at hl 1 rfl) ?_
                        refine kg_p (As := [.int (fR_pop (fR_pop β 3).2 2).1]) (rest := []) (k_Terms_right (l := l) (g := g) (α := (fR_pop (fR_pop β 3).2 2).2) (fR_pop (fR_pop β 3).2 2).1) S E hI.1 kw_Terms_59 ⟨Nat.le_of_ble_eq_true rfl, Nat.le_of_ble_eq_true rfl⟩ hI.room (kv_Terms E hI.1) rfl hl.1 rfl (Nat.le_of_ble_eq_true rfl) d_Terms_rewrite_228 rfl ?_
                        refine lv_istore (lv' := [(8, .int (f_Terms_right (fR_pop (fR_pop β 3).2 2).1 (fR_pop (fR_pop β 3).2 2).2)), (7, .int (f_Terms_changedName x1 (fR_pop (fR_pop β 3).2 2).1 x3 (fR_pop β 3).1 (fR_pop (fR_pop β 3).2 2).2)), (6, .int (fR_pop (fR_pop β 3).2 2).1), (5, .int (fR_pop β 3).1), (4, .int x4), (0, .ref (kad g 2)), (1, .int x1), (3, .int x3)]) hx hb d_Terms_rewrite_231 hl (by decide) rfl (fun ls hl => ?_)
                        refine lv_aload_n hx hb d_Terms_rewrite_233 rfl (lv_at hl 5 rfl) ?_
                        refine kf_Terms_built S E hI.1 vt_94 d_Terms_rewrite_234 ?_
                        refine lv_aload_n hx hb d_Terms_rewrite_237 rfl (lv_at hl 5 rfl) ?_
                        refine lv_iload_n hx hb d_Terms_rewrite_238 rfl (lv_at hl 6 rfl) ?_
                        refine lv_aload_n hx hb d_Terms_rewrite_239 rfl (lv_at hl 5 rfl) ?_
                        refine lv_iload hx hb d_Terms_rewrite_240 (lv_at hl 2 rfl) ?_
                        refine kg_p (As := [.int (fR_pop (fR_pop β 3).2 2).1]) (rest := [.int x1, .ref (kad g 2), .ref (kad g (11 + 4))]) (k_Terms_kind (l := l) (g := g) (α := (fR_pop (fR_pop β 3).2 2).2) (fR_pop (fR_pop β 3).2 2).1) S E hI.1 kw_Terms_52 ⟨Nat.le_of_ble_eq_true rfl, Nat.le_of_ble_eq_true rfl⟩ hI.room (kv_Terms E hI.1) rfl hl.1 rfl (Nat.le_of_ble_eq_true rfl) d_Terms_rewrite_242 rfl ?_
                        refine kg_pS (As := [.int x1, .int (f_Terms_kind (fR_pop (fR_pop β 3).2 2).1 (fR_pop (fR_pop β 3).2 2).2)]) (rest := [.ref (kad g 2), .ref (kad g (11 + 4))]) (k_Terms_changedKind (l := l) (g := g) (α := (fR_pop (fR_pop β 3).2 2).2) x1 (f_Terms_kind (fR_pop (fR_pop β 3).2 2).1 (fR_pop (fR_pop β 3).2 2).2)) S E hI.1 kw_Terms_132 ⟨Nat.le_of_ble_eq_true rfl, Nat.le_of_ble_eq_true rfl⟩ hI.room rfl hl.1 rfl (Nat.le_of_ble_eq_true rfl) d_Terms_rewrite_245 ?_
                        refine lv_iload hx hb d_Terms_rewrite_248 (lv_at hl 1 rfl) ?_
                        refine lv_iload hx hb d_Terms_rewrite_250 (lv_at hl 0 rfl) ?_
                        refine kg_cI (As := [.int (f_Terms_changedKind x1 (f_Terms_kind (fR_pop (fR_pop β 3).2 2).1 (fR_pop (fR_pop β 3).2 2).2) (fR_pop (fR_pop β 3).2 2).2), .int (f_Terms_changedName x1 (fR_pop (fR_pop β 3).2 2).1 x3 (fR_pop β 3).1 (fR_pop (fR_pop β 3).2 2).2), .int (f_Terms_right (fR_pop (fR_pop β 3).2 2).1 (fR_pop (fR_pop β 3).2 2).2)]) (rest := [.ref (kad g (11 + 4))]) h (k_Terms_make (l := l) (g := g) (α := (fR_pop (fR_pop β 3).2 2).2) hfl N (f_Terms_changedKind x1 (f_Terms_kind (fR_pop (fR_pop β 3).2 2).1 (fR_pop (fR_pop β 3).2 2).2) (fR_pop (fR_pop β 3).2 2).2) (f_Terms_changedName x1 (fR_pop (fR_pop β 3).2 2).1 x3 (fR_pop β 3).1 (fR_pop (fR_pop β 3).2 2).2) (f_Terms_right (fR_pop (fR_pop β 3).2 2).1 (fR_pop (fR_pop β 3).2 2).2)) S hlocks hno E hI kw_Terms_121 ⟨Nat.le_of_ble_eq_true rfl, Nat.le_of_ble_eq_true rfl⟩ (kv_Terms E hI.1) rfl hl.1 rfl (Nat.le_of_ble_eq_true rfl) d_Terms_rewrite_252 (fun v75 α73 ad H locs cells slots e74 h hRm hI => ?_)
                        refine kg_cV (As := [.int v75]) (rest := []) h (k_Row_push (l := l) (g := g) (α := α73) (r := 4) (by decide) v75) S hlocks hno E hI kw_Terms_112 ⟨Nat.le_of_ble_eq_true rfl, Nat.le_of_ble_eq_true rfl⟩ (kv_Row (r := 4) (by decide) E hI.1) rfl hl.1 rfl (Nat.le_of_ble_eq_true rfl) d_Terms_rewrite_255 (fun α76 ad H locs cells slots e77 h hRm hI => ?_)
                        refine lv_goto (tgt := 334) hx hb d_Terms_rewrite_258 (by decide) ?_
                        refine lv_iinc (v := (x4 + 1)) (lv' := [(4, .int (x4 + 1)), (8, .int (f_Terms_right (fR_pop (fR_pop β 3).2 2).1 (fR_pop (fR_pop β 3).2 2).2)), (7, .int (f_Terms_changedName x1 (fR_pop (fR_pop β 3).2 2).1 x3 (fR_pop β 3).1 (fR_pop (fR_pop β 3).2 2).2)), (6, .int (fR_pop (fR_pop β 3).2 2).1), (5, .int (fR_pop β 3).1), (0, .ref (kad g 2)), (1, .int x1), (3, .int x3)]) hx hb d_Terms_rewrite_334 hl (k := 4) rfl rfl (by decide) rfl (fun ls hl => ?_)
                        refine lv_goto (tgt := 43) hx hb d_Terms_rewrite_337 (by decide) ?_
                        exact ih43 (x4 + 1) x1 x3 _ _ _ _ _ _ _ h hI (lv_sub hl [0, 5, 6, 7] rfl)
                      · replace h := Eq.trans (if_pos c72).symm h
                        refine lv_iload_n hx hb d_Terms_rewrite_221 rfl (lv_at hl 6 rfl) ?_
                        refine lv_goto (tgt := 231) hx hb d_Terms_rewrite_222 (by decide) ?_
                        refine lv_istore (lv' := [(8, .int x3), (7, .int (f_Terms_changedName x1 (fR_pop (fR_pop β 3).2 2).1 x3 (fR_pop β 3).1 (fR_pop (fR_pop β 3).2 2).2)), (6, .int (fR_pop (fR_pop β 3).2 2).1), (5, .int (fR_pop β 3).1), (4, .int x4), (0, .ref (kad g 2)), (1, .int x1), (3, .int x3)]) hx hb d_Terms_rewrite_231 hl (by decide) rfl (fun ls hl => ?_)
                        refine lv_aload_n hx hb d_Terms_rewrite_233 rfl (lv_at hl 5 rfl) ?_
                        refine kf_Terms_built S E hI.1 vt_94 d_Terms_rewrite_234 ?_
                        refine lv_aload_n hx hb d_Terms_rewrite_237 rfl (lv_at hl 5 rfl) ?_
                        refine lv_iload_n hx hb d_Terms_rewrite_238 rfl (lv_at hl 6 rfl) ?_
                        refine lv_aload_n hx hb d_Terms_rewrite_239 rfl (lv_at hl 5 rfl) ?_
                        refine lv_iload hx hb d_Terms_rewrite_240 (lv_at hl 2 rfl) ?_
                        refine kg_p (As := [.int (fR_pop (fR_pop β 3).2 2).1]) (rest := [.int x1, .ref (kad g 2), .ref (kad g (11 + 4))]) (k_Terms_kind (l := l) (g := g) (α := (fR_pop (fR_pop β 3).2 2).2) (fR_pop (fR_pop β 3).2 2).1) S E hI.1 kw_Terms_52 ⟨Nat.le_of_ble_eq_true rfl, Nat.le_of_ble_eq_true rfl⟩ hI.room (kv_Terms E hI.1) rfl hl.1 rfl (Nat.le_of_ble_eq_true rfl) d_Terms_rewrite_242 rfl ?_
                        refine kg_pS (As := [.int x1, .int (f_Terms_kind (fR_pop (fR_pop β 3).2 2).1 (fR_pop (fR_pop β 3).2 2).2)]) (rest := [.ref (kad g 2), .ref (kad g (11 + 4))]) (k_Terms_changedKind (l := l) (g := g) (α := (fR_pop (fR_pop β 3).2 2).2) x1 (f_Terms_kind (fR_pop (fR_pop β 3).2 2).1 (fR_pop (fR_pop β 3).2 2).2)) S E hI.1 kw_Terms_132 ⟨Nat.le_of_ble_eq_true rfl, Nat.le_of_ble_eq_true rfl⟩ hI.room rfl hl.1 rfl (Nat.le_of_ble_eq_true rfl) d_Terms_rewrite_245 ?_
                        refine lv_iload hx hb d_Terms_rewrite_248 (lv_at hl 1 rfl) ?_
                        refine lv_iload hx hb d_Terms_rewrite_250 (lv_at hl 0 rfl) ?_
                        refine kg_cI (As := [.int (f_Terms_changedKind x1 (f_Terms_kind (fR_pop (fR_pop β 3).2 2).1 (fR_pop (fR_pop β 3).2 2).2) (fR_pop (fR_pop β 3).2 2).2), .int (f_Terms_changedName x1 (fR_pop (fR_pop β 3).2 2).1 x3 (fR_pop β 3).1 (fR_pop (fR_pop β 3).2 2).2), .int x3]) (rest := [.ref (kad g (11 + 4))]) h (k_Terms_make (l := l) (g := g) (α := (fR_pop (fR_pop β 3).2 2).2) hfl N (f_Terms_changedKind x1 (f_Terms_kind (fR_pop (fR_pop β 3).2 2).1 (fR_pop (fR_pop β 3).2 2).2) (fR_pop (fR_pop β 3).2 2).2) (f_Terms_changedName x1 (fR_pop (fR_pop β 3).2 2).1 x3 (fR_pop β 3).1 (fR_pop (fR_pop β 3).2 2).2) x3) S hlocks hno E hI kw_Terms_121 ⟨Nat.le_of_ble_eq_true rfl, Nat.le_of_ble_eq_true rfl⟩ (kv_Terms E hI.1) rfl hl.1 rfl (Nat.le_of_ble_eq_true rfl) d_Terms_rewrite_252 (fun v80 α78 ad H locs cells slots e79 h hRm hI => ?_)
                        refine kg_cV (As := [.int v80]) (rest := []) h (k_Row_push (l := l) (g := g) (α := α78) (r := 4) (by decide) v80) S hlocks hno E hI kw_Terms_112 ⟨Nat.le_of_ble_eq_true rfl, Nat.le_of_ble_eq_true rfl⟩ (kv_Row (r := 4) (by decide) E hI.1) rfl hl.1 rfl (Nat.le_of_ble_eq_true rfl) d_Terms_rewrite_255 (fun α81 ad H locs cells slots e82 h hRm hI => ?_)
                        refine lv_goto (tgt := 334) hx hb d_Terms_rewrite_258 (by decide) ?_
                        refine lv_iinc (v := (x4 + 1)) (lv' := [(4, .int (x4 + 1)), (8, .int x3), (7, .int (f_Terms_changedName x1 (fR_pop (fR_pop β 3).2 2).1 x3 (fR_pop β 3).1 (fR_pop (fR_pop β 3).2 2).2)), (6, .int (fR_pop (fR_pop β 3).2 2).1), (5, .int (fR_pop β 3).1), (0, .ref (kad g 2)), (1, .int x1), (3, .int x3)]) hx hb d_Terms_rewrite_334 hl (k := 4) rfl rfl (by decide) rfl (fun ls hl => ?_)
                        refine lv_goto (tgt := 43) hx hb d_Terms_rewrite_337 (by decide) ?_
                        exact ih43 (x4 + 1) x1 x3 _ _ _ _ _ _ _ h hI (lv_sub hl [0, 5, 6, 7] rfl)
                · replace h := Eq.trans (if_neg c52).symm h
                  refine lv_aload_n hx hb d_Terms_rewrite_167 rfl (lv_at hl 3 rfl) ?_
                  refine kf_Terms_built S E hI.1 vt_94 d_Terms_rewrite_168 ?_
                  refine lv_iload_n hx hb d_Terms_rewrite_171 rfl (lv_at hl 5 rfl) ?_
                  refine kg_cV (As := [.int x3]) (rest := []) h (k_Row_push (l := l) (g := g) (α := (fR_pop (fR_pop β 3).2 2).2) (r := 4) (by decide) x3) S hlocks hno E hI kw_Terms_112 ⟨Nat.le_of_ble_eq_true rfl, Nat.le_of_ble_eq_true rfl⟩ (kv_Row (r := 4) (by decide) E hI.1) rfl hl.1 rfl (Nat.le_of_ble_eq_true rfl) d_Terms_rewrite_172 (fun α83 ad H locs cells slots e84 h hRm hI => ?_)
                  refine lv_goto (tgt := 334) hx hb d_Terms_rewrite_175 (by decide) ?_
                  refine lv_iinc (v := (x4 + 1)) (lv' := [(4, .int (x4 + 1)), (6, .int (fR_pop (fR_pop β 3).2 2).1), (5, .int (fR_pop β 3).1), (0, .ref (kad g 2)), (1, .int x1), (3, .int x3)]) hx hb d_Terms_rewrite_334 hl (k := 2) rfl rfl (by decide) rfl (fun ls hl => ?_)
                  refine lv_goto (tgt := 43) hx hb d_Terms_rewrite_337 (by decide) ?_
                  exact ih43 (x4 + 1) x1 x3 _ _ _ _ _ _ _ h hI (lv_sub hl [0, 3, 4, 5] rfl)
            · replace h := Eq.trans (if_neg c20).symm h
              refine lv_aload_n hx hb d_Terms_rewrite_140 rfl (lv_at hl 3 rfl) ?_
              refine kf_Terms_built S E hI.1 vt_94 d_Terms_rewrite_141 ?_
              refine lv_iload hx hb d_Terms_rewrite_144 (lv_at hl 0 rfl) ?_
              refine kg_cV (As := [.int (fR_pop (fR_pop β 3).2 2).1]) (rest := []) h (k_Row_push (l := l) (g := g) (α := (fR_pop (fR_pop β 3).2 2).2) (r := 4) (by decide) (fR_pop (fR_pop β 3).2 2).1) S hlocks hno E hI kw_Terms_112 ⟨Nat.le_of_ble_eq_true rfl, Nat.le_of_ble_eq_true rfl⟩ (kv_Row (r := 4) (by decide) E hI.1) rfl hl.1 rfl (Nat.le_of_ble_eq_true rfl) d_Terms_rewrite_146 (fun α85 ad H locs cells slots e86 h hRm hI => ?_)
              refine lv_goto (tgt := 334) hx hb d_Terms_rewrite_149 (by decide) ?_
              refine lv_iinc (v := (x4 + 1)) (lv' := [(4, .int (x4 + 1)), (6, .int (fR_pop (fR_pop β 3).2 2).1), (5, .int (fR_pop β 3).1), (0, .ref (kad g 2)), (1, .int x1), (3, .int x3)]) hx hb d_Terms_rewrite_334 hl (k := 2) rfl rfl (by decide) rfl (fun ls hl => ?_)
              refine lv_goto (tgt := 43) hx hb d_Terms_rewrite_337 (by decide) ?_
              exact ih43 (x4 + 1) x1 x3 _ _ _ _ _ _ _ h hI (lv_sub hl [0, 3, 4, 5] rfl)
          · replace h := Eq.trans (if_neg c19).symm h
            refine lv_aload_n hx hb d_Terms_rewrite_83 rfl (lv_at hl 3 rfl) ?_
            refine kf_Terms_built S E hI.1 vt_94 d_Terms_rewrite_84 ?_
            refine kg_tI (As := []) (rest := []) (k_Row_pop (l := l) (g := g) (α := (fR_pop (fR_pop β 3).2 2).2) (r := 4) (by decide)) S hlocks hno E hI kw_Terms_118 ⟨Nat.le_of_ble_eq_true rfl, Nat.le_of_ble_eq_true rfl⟩ (kv_Row (r := 4) (by decide) E hI.1) rfl hl.1 rfl (Nat.le_of_ble_eq_true rfl) d_Terms_rewrite_87 (fun ad H locs cells slots hRm hI => ?_)
            refine lv_istore (lv' := [(7, .int (fR_pop (fR_pop (fR_pop β 3).2 2).2 4).1), (6, .int (fR_pop (fR_pop β 3).2 2).1), (5, .int (fR_pop β 3).1), (4, .int x4), (0, .ref (kad g 2)), (1, .int x1), (3, .int x3)]) hx hb d_Terms_rewrite_90 hl (by decide) rfl (fun ls hl => ?_)
            refine lv_aload_n hx hb d_Terms_rewrite_92 rfl (lv_at hl 4 rfl) ?_
            refine kf_Terms_built S E hI.1 vt_94 d_Terms_rewrite_93 ?_
            refine kg_tI (As := []) (rest := []) (k_Row_pop (l := l) (g := g) (α := (fR_pop (fR_pop (fR_pop β 3).2 2).2 4).2) (r := 4) (by decide)) S hlocks hno E hI kw_Terms_118 ⟨Nat.le_of_ble_eq_true rfl, Nat.le_of_ble_eq_true rfl⟩ (kv_Row (r := 4) (by decide) E hI.1) rfl hl.1 rfl (Nat.le_of_ble_eq_true rfl) d_Terms_rewrite_96 (fun ad H locs cells slots hRm hI => ?_)
            refine lv_istore (lv' := [(8, .int (fR_pop (fR_pop (fR_pop (fR_pop β 3).2 2).2 4).2 4).1), (7, .int (fR_pop (fR_pop (fR_pop β 3).2 2).2 4).1), (6, .int (fR_pop (fR_pop β 3).2 2).1), (5, .int (fR_pop β 3).1), (4, .int x4), (0, .ref (kad g 2)), (1, .int x1), (3, .int x3)]) hx hb d_Terms_rewrite_99 hl (by decide) rfl (fun ls hl => ?_)
            refine lv_aload_n hx hb d_Terms_rewrite_101 rfl (lv_at hl 5 rfl) ?_
            refine kf_Terms_built S E hI.1 vt_94 d_Terms_rewrite_102 ?_
            refine lv_aload_n hx hb d_Terms_rewrite_105 rfl (lv_at hl 5 rfl) ?_
            refine lv_aload_n hx hb d_Terms_rewrite_106 rfl (lv_at hl 5 rfl) ?_
            refine lv_iconst (v := (-1)) hx hb d_Terms_rewrite_107 (by decide) ?_
            refine lv_iload hx hb d_Terms_rewrite_108 (lv_at hl 2 rfl) ?_
            refine lv_isub hx hb d_Terms_rewrite_110 ?_
            refine kg_p (As := [.int ((-1) - (fR_pop (fR_pop β 3).2 2).1)]) (rest := [.ref (kad g 2), .ref (kad g (11 + 4))]) (k_Terms_kind (l := l) (g := g) (α := (fR_pop (fR_pop (fR_pop (fR_pop β 3).2 2).2 4).2 4).2) ((-1) - (fR_pop (fR_pop β 3).2 2).1)) S E hI.1 kw_Terms_52 ⟨Nat.le_of_ble_eq_true rfl, Nat.le_of_ble_eq_true rfl⟩ hI.room (kv_Terms E hI.1) rfl hl.1 rfl (Nat.le_of_ble_eq_true rfl) d_Terms_rewrite_111 rfl ?_
            refine lv_iload hx hb d_Terms_rewrite_114 (lv_at hl 0 rfl) ?_
            refine lv_iload hx hb d_Terms_rewrite_116 (lv_at hl 1 rfl) ?_
            refine kg_cI (As := [.int (f_Terms_kind ((-1) - (fR_pop (fR_pop β 3).2 2).1) (fR_pop (fR_pop (fR_pop (fR_pop β 3).2 2).2 4).2 4).2), .int (fR_pop (fR_pop (fR_pop (fR_pop β 3).2 2).2 4).2 4).1, .int (fR_pop (fR_pop (fR_pop β 3).2 2).2 4).1]) (rest := [.ref (kad g (11 + 4))]) h (k_Terms_make (l := l) (g := g) (α := (fR_pop (fR_pop (fR_pop (fR_pop β 3).2 2).2 4).2 4).2) hfl N (f_Terms_kind ((-1) - (fR_pop (fR_pop β 3).2 2).1) (fR_pop (fR_pop (fR_pop (fR_pop β 3).2 2).2 4).2 4).2) (fR_pop (fR_pop (fR_pop (fR_pop β 3).2 2).2 4).2 4).1 (fR_pop (fR_pop (fR_pop β 3).2 2).2 4).1) S hlocks hno E hI kw_Terms_121 ⟨Nat.le_of_ble_eq_true rfl, Nat.le_of_ble_eq_true rfl⟩ (kv_Terms E hI.1) rfl hl.1 rfl (Nat.le_of_ble_eq_true rfl) d_Terms_rewrite_118 (fun v89 α87 ad H locs cells slots e88 h hRm hI => ?_)
            refine kg_cV (As := [.int v89]) (rest := []) h (k_Row_push (l := l) (g := g) (α := α87) (r := 4) (by decide) v89) S hlocks hno E hI kw_Terms_112 ⟨Nat.le_of_ble_eq_true rfl, Nat.le_of_ble_eq_true rfl⟩ (kv_Row (r := 4) (by decide) E hI.1) rfl hl.1 rfl (Nat.le_of_ble_eq_true rfl) d_Terms_rewrite_121 (fun α90 ad H locs cells slots e91 h hRm hI => ?_)
            refine lv_goto (tgt := 334) hx hb d_Terms_rewrite_124 (by decide) ?_
            refine lv_iinc (v := (x4 + 1)) (lv' := [(4, .int (x4 + 1)), (8, .int (fR_pop (fR_pop (fR_pop (fR_pop β 3).2 2).2 4).2 4).1), (7, .int (fR_pop (fR_pop (fR_pop β 3).2 2).2 4).1), (6, .int (fR_pop (fR_pop β 3).2 2).1), (5, .int (fR_pop β 3).1), (0, .ref (kad g 2)), (1, .int x1), (3, .int x3)]) hx hb d_Terms_rewrite_334 hl (k := 4) rfl rfl (by decide) rfl (fun ls hl => ?_)
            refine lv_goto (tgt := 43) hx hb d_Terms_rewrite_337 (by decide) ?_
            exact ih43 (x4 + 1) x1 x3 _ _ _ _ _ _ _ h hI (lv_sub hl [0, 5, 6, 7] rfl)
  exact L43 N 0 a1 a3 _ _ _ _ _ _ _ h hI (lv_sub hl [0, 1, 2, 4] rfl)
def f_Terms_has_35 (N : Nat)  : Nat → Int32 → Int32 → Int32 → kS → Option (kO × kS)
  | 0, _, _, _, _ => none
  | n + 1, x4, x2, x3, β => if 16777216 ≤ x4 then (some (some (some 0), β)) else (if (fR_size β 2) ≤ 0 then (some (some (some 0), β)) else (if x2 = 0 then (if (f_Terms_kind (fR_pop (fR_pop β 3).2 2).1 (fR_pop (fR_pop β 3).2 2).2) = x2 then (if (f_Terms_left (fR_pop (fR_pop β 3).2 2).1 (fR_pop (fR_pop β 3).2 2).2) = (x3 + (fR_pop β 3).1) then (some (some (some 1), (fR_pop (fR_pop β 3).2 2).2)) else (if (f_Terms_kind (fR_pop (fR_pop β 3).2 2).1 (fR_pop (fR_pop β 3).2 2).2) < 5 then (f_Terms_has_35 N n (x4 + 1) x2 x3 (fR_pop (fR_pop β 3).2 2).2) else (if x2 = 0 then (if (f_Terms_loose (fR_pop (fR_pop β 3).2 2).1 (fR_pop (fR_pop β 3).2 2).2) ≤ (x3 + (fR_pop β 3).1) then (f_Terms_has_35 N n (x4 + 1) x2 x3 (fR_pop (fR_pop β 3).2 2).2) else (kBv (fR_push (fR_pop (fR_pop β 3).2 2).2 2 (f_Terms_right (fR_pop (fR_pop β 3).2 2).1 (fR_pop (fR_pop β 3).2 2).2)) fun α80 => (kBv (fR_push α80 3 ((fR_pop β 3).1 + (f_Terms_binds (f_Terms_kind (fR_pop (fR_pop β 3).2 2).1 α80) α80))) fun α82 => (kBv (fR_push α82 2 (f_Terms_left (fR_pop (fR_pop β 3).2 2).1 α82)) fun α84 => (kBv (fR_push α84 3 (fR_pop β 3).1) fun α86 => (f_Terms_has_35 N n (x4 + 1) x2 x3 α86)))))) else (kBv (fR_push (fR_pop (fR_pop β 3).2 2).2 2 (f_Terms_right (fR_pop (fR_pop β 3).2 2).1 (fR_pop (fR_pop β 3).2 2).2)) fun α71 => (kBv (fR_push α71 3 ((fR_pop β 3).1 + (f_Terms_binds (f_Terms_kind (fR_pop (fR_pop β 3).2 2).1 α71) α71))) fun α73 => (kBv (fR_push α73 2 (f_Terms_left (fR_pop (fR_pop β 3).2 2).1 α73)) fun α75 => (kBv (fR_push α75 3 (fR_pop β 3).1) fun α77 => (f_Terms_has_35 N n (x4 + 1) x2 x3 α77)))))))) else (if (f_Terms_kind (fR_pop (fR_pop β 3).2 2).1 (fR_pop (fR_pop β 3).2 2).2) < 5 then (f_Terms_has_35 N n (x4 + 1) x2 x3 (fR_pop (fR_pop β 3).2 2).2) else (if x2 = 0 then (if (f_Terms_loose (fR_pop (fR_pop β 3).2 2).1 (fR_pop (fR_pop β 3).2 2).2) ≤ (x3 + (fR_pop β 3).1) then (f_Terms_has_35 N n (x4 + 1) x2 x3 (fR_pop (fR_pop β 3).2 2).2) else (kBv (fR_push (fR_pop (fR_pop β 3).2 2).2 2 (f_Terms_right (fR_pop (fR_pop β 3).2 2).1 (fR_pop (fR_pop β 3).2 2).2)) fun α60 => (kBv (fR_push α60 3 ((fR_pop β 3).1 + (f_Terms_binds (f_Terms_kind (fR_pop (fR_pop β 3).2 2).1 α60) α60))) fun α62 => (kBv (fR_push α62 2 (f_Terms_left (fR_pop (fR_pop β 3).2 2).1 α62)) fun α64 => (kBv (fR_push α64 3 (fR_pop β 3).1) fun α66 => (f_Terms_has_35 N n (x4 + 1) x2 x3 α66)))))) else (kBv (fR_push (fR_pop (fR_pop β 3).2 2).2 2 (f_Terms_right (fR_pop (fR_pop β 3).2 2).1 (fR_pop (fR_pop β 3).2 2).2)) fun α51 => (kBv (fR_push α51 3 ((fR_pop β 3).1 + (f_Terms_binds (f_Terms_kind (fR_pop (fR_pop β 3).2 2).1 α51) α51))) fun α53 => (kBv (fR_push α53 2 (f_Terms_left (fR_pop (fR_pop β 3).2 2).1 α53)) fun α55 => (kBv (fR_push α55 3 (fR_pop β 3).1) fun α57 => (f_Terms_has_35 N n (x4 + 1) x2 x3 α57)))))))) else (if (f_Terms_kind (fR_pop (fR_pop β 3).2 2).1 (fR_pop (fR_pop β 3).2 2).2) = x2 then (if (f_Terms_left (fR_pop (fR_pop β 3).2 2).1 (fR_pop (fR_pop β 3).2 2).2) = x3 then (some (some (some 1), (fR_pop (fR_pop β 3).2 2).2)) else (if (f_Terms_kind (fR_pop (fR_pop β 3).2 2).1 (fR_pop (fR_pop β 3).2 2).2) < 5 then (f_Terms_has_35 N n (x4 + 1) x2 x3 (fR_pop (fR_pop β 3).2 2).2) else (if x2 = 0 then (if (f_Terms_loose (fR_pop (fR_pop β 3).2 2).1 (fR_pop (fR_pop β 3).2 2).2) ≤ x3 then (f_Terms_has_35 N n (x4 + 1) x2 x3 (fR_pop (fR_pop β 3).2 2).2) else (kBv (fR_push (fR_pop (fR_pop β 3).2 2).2 2 (f_Terms_right (fR_pop (fR_pop β 3).2 2).1 (fR_pop (fR_pop β 3).2 2).2)) fun α40 => (kBv (fR_push α40 3 ((fR_pop β 3).1 + (f_Terms_binds (f_Terms_kind (fR_pop (fR_pop β 3).2 2).1 α40) α40))) fun α42 => (kBv (fR_push α42 2 (f_Terms_left (fR_pop (fR_pop β 3).2 2).1 α42)) fun α44 => (kBv (fR_push α44 3 (fR_pop β 3).1) fun α46 => (f_Terms_has_35 N n (x4 + 1) x2 x3 α46)))))) else (kBv (fR_push (fR_pop (fR_pop β 3).2 2).2 2 (f_Terms_right (fR_pop (fR_pop β 3).2 2).1 (fR_pop (fR_pop β 3).2 2).2)) fun α31 => (kBv (fR_push α31 3 ((fR_pop β 3).1 + (f_Terms_binds (f_Terms_kind (fR_pop (fR_pop β 3).2 2).1 α31) α31))) fun α33 => (kBv (fR_push α33 2 (f_Terms_left (fR_pop (fR_pop β 3).2 2).1 α33)) fun α35 => (kBv (fR_push α35 3 (fR_pop β 3).1) fun α37 => (f_Terms_has_35 N n (x4 + 1) x2 x3 α37)))))))) else (if (f_Terms_kind (fR_pop (fR_pop β 3).2 2).1 (fR_pop (fR_pop β 3).2 2).2) < 5 then (f_Terms_has_35 N n (x4 + 1) x2 x3 (fR_pop (fR_pop β 3).2 2).2) else (if x2 = 0 then (if (f_Terms_loose (fR_pop (fR_pop β 3).2 2).1 (fR_pop (fR_pop β 3).2 2).2) ≤ x3 then (f_Terms_has_35 N n (x4 + 1) x2 x3 (fR_pop (fR_pop β 3).2 2).2) else (kBv (fR_push (fR_pop (fR_pop β 3).2 2).2 2 (f_Terms_right (fR_pop (fR_pop β 3).2 2).1 (fR_pop (fR_pop β 3).2 2).2)) fun α20 => (kBv (fR_push α20 3 ((fR_pop β 3).1 + (f_Terms_binds (f_Terms_kind (fR_pop (fR_pop β 3).2 2).1 α20) α20))) fun α22 => (kBv (fR_push α22 2 (f_Terms_left (fR_pop (fR_pop β 3).2 2).1 α22)) fun α24 => (kBv (fR_push α24 3 (fR_pop β 3).1) fun α26 => (f_Terms_has_35 N n (x4 + 1) x2 x3 α26)))))) else (kBv (fR_push (fR_pop (fR_pop β 3).2 2).2 2 (f_Terms_right (fR_pop (fR_pop β 3).2 2).1 (fR_pop (fR_pop β 3).2 2).2)) fun α11 => (kBv (fR_push α11 3 ((fR_pop β 3).1 + (f_Terms_binds (f_Terms_kind (fR_pop (fR_pop β 3).2 2).1 α11) α11))) fun α13 => (kBv (fR_push α13 2 (f_Terms_left (fR_pop (fR_pop β 3).2 2).1 α13)) fun α15 => (kBv (fR_push α15 3 (fR_pop β 3).1) fun α17 => (f_Terms_has_35 N n (x4 + 1) x2 x3 α17))))))))))
def f_Terms_has (N : Nat) (a1 : Int32) (a2 : Int32) (a3 : Int32) (α : kS) : Option (kO × kS) := kBv (fR_push (fR_cut (fR_cut α 2 0) 3 0) 2 a1) fun α1 => (kBv (fR_push α1 3 0) fun α3 => (f_Terms_has_35 N N 0 a2 a3 α3))
set_option maxHeartbeats 4000000 in
set_option maxRecDepth 100000 in
theorem k_Terms_has {l : Launch} {g : kG} {α : kS} (hfl : kFl l) (N : Nat) (a1 : Int32) (a2 : Int32) (a3 : Int32)  : ∀ x, f_Terms_has N a1 a2 a3 α = some x → kC l g y_Terms_has b_Terms_has 8 (some .boolean) 31 921 [.ref (kad g 2), .int a1, .int a2, .int a3] α (kQr x) := by
  intro x h
  unfold f_Terms_has at h
  refine kc_ofW (by decide) (fun A ad0 p e s m args below meth c S hr hlocks hno hadm hargs E hI => ?_)
  have hx := S.1
  have hb := S.2.1
  have hown := S.2.2.2.1
  have hT := S.2.2.2.2
  subst hargs
  have hl := lv_entry ([.ref (kad g 2), .int a1, .int a2, .int a3]) (n := 8) (Nat.le_of_ble_eq_true rfl)
  rw [lg_entry_eq]
  generalize (lg_sl ([.ref (kad g 2), .int a1, .int a2, .int a3]) ++ List.replicate (8 - (lg_sl ([.ref (kad g 2), .int a1, .int a2, .int a3])).length) Slot.unset).toArray = ls at hl ⊢
  have hl : lv_has ls 8 [(0, .ref (kad g 2)), (1, .int a1), (2, .int a2), (3, .int a3)] := hl
  refine lv_aload_n hx hb d_Terms_has_0 rfl (lv_at hl 0 rfl) ?_
  refine kf_Terms_todo S E hI.1 vt_92 d_Terms_has_1 ?_
  refine lv_iconst (v := 0) hx hb d_Terms_has_4 (by decide) ?_
  refine kg_tV (As := [.int 0]) (rest := []) (k_Row_cut (l := l) (g := g) (α := α) (r := 2) (by decide) 0) S hlocks hno E hI kw_Terms_109 ⟨Nat.le_of_ble_eq_true rfl, Nat.le_of_ble_eq_true rfl⟩ (kv_Row (r := 2) (by decide) E hI.1) rfl hl.1 rfl (Nat.le_of_ble_eq_true rfl) d_Terms_has_5 (fun ad H locs cells slots hRm hI => ?_)
  refine lv_aload_n hx hb d_Terms_has_8 rfl (lv_at hl 0 rfl) ?_
  refine kf_Terms_offsets S E hI.1 vt_93 d_Terms_has_9 ?_
  refine lv_iconst (v := 0) hx hb d_Terms_has_12 (by decide) ?_
  refine kg_tV (As := [.int 0]) (rest := []) (k_Row_cut (l := l) (g := g) (α := (fR_cut α 2 0)) (r := 3) (by decide) 0) S hlocks hno E hI kw_Terms_109 ⟨Nat.le_of_ble_eq_true rfl, Nat.le_of_ble_eq_true rfl⟩ (kv_Row (r := 3) (by decide) E hI.1) rfl hl.1 rfl (Nat.le_of_ble_eq_true rfl) d_Terms_has_13 (fun ad H locs cells slots hRm hI => ?_)
  refine lv_aload_n hx hb d_Terms_has_16 rfl (lv_at hl 0 rfl) ?_
  refine kf_Terms_todo S E hI.1 vt_92 d_Terms_has_17 ?_
  refine lv_iload_n hx hb d_Terms_has_20 rfl (lv_at hl 1 rfl) ?_
  refine kg_cV (As := [.int a1]) (rest := []) h (k_Row_push (l := l) (g := g) (α := (fR_cut (fR_cut α 2 0) 3 0)) (r := 2) (by decide) a1) S hlocks hno E hI kw_Terms_112 ⟨Nat.le_of_ble_eq_true rfl, Nat.le_of_ble_eq_true rfl⟩ (kv_Row (r := 2) (by decide) E hI.1) rfl hl.1 rfl (Nat.le_of_ble_eq_true rfl) d_Terms_has_21 (fun α1 ad H locs cells slots e2 h hRm hI => ?_)
  refine lv_aload_n hx hb d_Terms_has_24 rfl (lv_at hl 0 rfl) ?_
  refine kf_Terms_offsets S E hI.1 vt_93 d_Terms_has_25 ?_
  refine lv_iconst (v := 0) hx hb d_Terms_has_28 (by decide) ?_
  refine kg_cV (As := [.int 0]) (rest := []) h (k_Row_push (l := l) (g := g) (α := α1) (r := 3) (by decide) 0) S hlocks hno E hI kw_Terms_112 ⟨Nat.le_of_ble_eq_true rfl, Nat.le_of_ble_eq_true rfl⟩ (kv_Row (r := 3) (by decide) E hI.1) rfl hl.1 rfl (Nat.le_of_ble_eq_true rfl) d_Terms_has_29 (fun α3 ad H locs cells slots e4 h hRm hI => ?_)
  refine lv_iconst (v := 0) hx hb d_Terms_has_32 (by decide) ?_
  refine lv_istore (lv' := [(4, .int 0), (0, .ref (kad g 2)), (1, .int a1), (2, .int a2), (3, .int a3)]) hx hb d_Terms_has_33 hl (by decide) rfl (fun ls hl => ?_)
  have L35 : ∀ (n : Nat) (x4 : Int32) (x2 : Int32) (x3 : Int32) (β : kS) (ad : Nat → Nat) (H : Heap) (locs : List Loc) (cells slots : Nat) (ls : Array Slot), f_Terms_has_35 N n x4 x2 x3 β = some x → kI g A s α ad0 β ad H locs cells slots → lv_has ls 8 [(4, .int x4), (0, .ref (kad g 2)), (2, .int x2), (3, .int x3)] → W p l e (kR 31 921 α) s m ([.ref (kad g 2), .int a1, .int a2, .int a3]).toArray below meth c H locs cells slots (vEQ below (kQ g A α ad0 (kQr x)) ([.ref (kad g 2), .int a1, .int a2, .int a3]).toArray s A) (F0 m 35 ls []) := by
    intro n
    induction n with
    | zero => intro x4 x2 x3 β ad H locs cells slots ls h hI hl; rw [f_Terms_has_35] at h; cases h
    | succ n ih35 =>
      intro x4 x2 x3 β ad H locs cells slots ls h hI hl
      rw [f_Terms_has_35] at h
      refine lv_iload hx hb d_Terms_has_35 (lv_at hl 0 rfl) ?_
      refine lv_ldc (v := 16777216) hx hb hown (hT _ vt_90) d_Terms_has_37 ?_
      refine lv_icmp_ge (tgt := 192) hx hb d_Terms_has_39 (by decide) (fun c5 => ?_) (fun c5 => ?_)
      · replace h := Eq.trans (if_pos c5).symm h
        refine lv_iconst (v := 0) hx hb d_Terms_has_192 (by decide) ?_
        exact kc_iret (w := 0) hx hb hr (by decide) hlocks E hI h d_Terms_has_193
      · replace h := Eq.trans (if_neg c5).symm h
        refine lv_aload_n hx hb d_Terms_has_42 rfl (lv_at hl 1 rfl) ?_
        refine kf_Terms_todo S E hI.1 vt_92 d_Terms_has_43 ?_
        refine kg_p (As := []) (rest := []) (k_Row_size (l := l) (g := g) (α := β) (r := 2) (by decide)) S E hI.1 kw_Terms_115 ⟨Nat.le_of_ble_eq_true rfl, Nat.le_of_ble_eq_true rfl⟩ hI.room (kv_Row (r := 2) (by decide) E hI.1) rfl hl.1 rfl (Nat.le_of_ble_eq_true rfl) d_Terms_has_46 rfl ?_
        refine lv_if_le (tgt := 192) hx hb d_Terms_has_49 (by decide) (fun c6 => ?_) (fun c6 => ?_)
        · replace h := Eq.trans (if_pos c6).symm h
          refine lv_iconst (v := 0) hx hb d_Terms_has_192 (by decide) ?_
          exact kc_iret (w := 0) hx hb hr (by decide) hlocks E hI h d_Terms_has_193
        · replace h := Eq.trans (if_neg c6).symm h
          refine lv_aload_n hx hb d_Terms_has_52 rfl (lv_at hl 1 rfl) ?_
          refine kf_Terms_offsets S E hI.1 vt_93 d_Terms_has_53 ?_
          refine kg_tI (As := []) (rest := []) (k_Row_pop (l := l) (g := g) (α := β) (r := 3) (by decide)) S hlocks hno E hI kw_Terms_118 ⟨Nat.le_of_ble_eq_true rfl, Nat.le_of_ble_eq_true rfl⟩ (kv_Row (r := 3) (by decide) E hI.1) rfl hl.1 rfl (Nat.le_of_ble_eq_true rfl) d_Terms_has_56 (fun ad H locs cells slots hRm hI => ?_)
          refine lv_istore (lv' := [(5, .int (fR_pop β 3).1), (4, .int x4), (0, .ref (kad g 2)), (2, .int x2), (3, .int x3)]) hx hb d_Terms_has_59 hl (by decide) rfl (fun ls hl => ?_)
          refine lv_aload_n hx hb d_Terms_has_61 rfl (lv_at hl 2 rfl) ?_
          refine kf_Terms_todo S E hI.1 vt_92 d_Terms_has_62 ?_
          refine kg_tI (As := []) (rest := []) (k_Row_pop (l := l) (g := g) (α := (fR_pop β 3).2) (r := 2) (by decide)) S hlocks hno E hI kw_Terms_118 ⟨Nat.le_of_ble_eq_true rfl, Nat.le_of_ble_eq_true rfl⟩ (kv_Row (r := 2) (by decide) E hI.1) rfl hl.1 rfl (Nat.le_of_ble_eq_true rfl) d_Terms_has_65 (fun ad H locs cells slots hRm hI => ?_)
          refine lv_istore (lv' := [(6, .int (fR_pop (fR_pop β 3).2 2).1), (5, .int (fR_pop β 3).1), (4, .int x4), (0, .ref (kad g 2)), (2, .int x2), (3, .int x3)]) hx hb d_Terms_has_68 hl (by decide) rfl (fun ls hl => ?_)
          refine lv_iload_n hx hb d_Terms_has_70 rfl (lv_at hl 4 rfl) ?_
          refine lv_if_ne (tgt := 81) hx hb d_Terms_has_71 (by decide) (fun c7 => ?_) (fun c7 => ?_)
          · replace h := Eq.trans (if_neg c7).symm h
            refine lv_iload_n hx hb d_Terms_has_81 rfl (lv_at hl 5 rfl) ?_
            refine lv_istore (lv' := [(7, .int x3), (6, .int (fR_pop (fR_pop β 3).2 2).1), (5, .int (fR_pop β 3).1), (4, .int x4), (0, .ref (kad g 2)), (2, .int x2), (3, .int x3)]) hx hb d_Terms_has_82 hl (by decide) rfl (fun ls hl => ?_)
            refine lv_aload_n hx hb d_Terms_has_84 rfl (lv_at hl 4 rfl) ?_
            refine lv_iload hx hb d_Terms_has_85 (lv_at hl 1 rfl) ?_
            refine kg_p (As := [.int (fR_pop (fR_pop β 3).2 2).1]) (rest := []) (k_Terms_kind (l := l) (g := g) (α := (fR_pop (fR_pop β 3).2 2).2) (fR_pop (fR_pop β 3).2 2).1) S E hI.1 kw_Terms_52 ⟨Nat.le_of_ble_eq_true rfl, Nat.le_of_ble_eq_true rfl⟩ hI.room (kv_Terms E hI.1) rfl hl.1 rfl (Nat.le_of_ble_eq_true rfl) d_Terms_has_87 rfl ?_
            refine lv_iload_n hx hb d_Terms_has_90 rfl (lv_at hl 5 rfl) ?_
            refine lv_icmp_ne (tgt := 107) hx hb d_Terms_has_91 (by decide) (fun c8 => ?_) (fun c8 => ?_)
            · replace h := Eq.trans (if_neg c8).symm h
              refine lv_aload_n hx hb d_Terms_has_107 rfl (lv_at hl 4 rfl) ?_
              refine lv_iload hx hb d_Terms_has_108 (lv_at hl 1 rfl) ?_
              refine kg_p (As := [.int (fR_pop (fR_pop β 3).2 2).1]) (rest := []) (k_Terms_kind (l := l) (g := g) (α := (fR_pop (fR_pop β 3).2 2).2) (fR_pop (fR_pop β 3).2 2).1) S E hI.1 kw_Terms_52 ⟨Nat.le_of_ble_eq_true rfl, Nat.le_of_ble_eq_true rfl⟩ hI.room (kv_Terms E hI.1) rfl hl.1 rfl (Nat.le_of_ble_eq_true rfl) d_Terms_has_110 rfl ?_
              refine lv_iconst (v := 5) hx hb d_Terms_has_113 (by decide) ?_
              refine lv_icmp_lt (tgt := 186) hx hb d_Terms_has_114 (by decide) (fun c9 => ?_) (fun c9 => ?_)
              · replace h := Eq.trans (if_pos c9).symm h
                refine lv_iinc (v := (x4 + 1)) (lv' := [(4, .int (x4 + 1)), (7, .int x3), (6, .int (fR_pop (fR_pop β 3).2 2).1), (5, .int (fR_pop β 3).1), (0, .ref (kad g 2)), (2, .int x2), (3, .int x3)]) hx hb d_Terms_has_186 hl (k := 3) rfl rfl (by decide) rfl (fun ls hl => ?_)
                refine lv_goto (tgt := 35) hx hb d_Terms_has_189 (by decide) ?_
                exact ih35 (x4 + 1) x2 x3 _ _ _ _ _ _ _ h hI (lv_sub hl [0, 4, 5, 6] rfl)
              · replace h := Eq.trans (if_neg c9).symm h
                refine lv_iload_n hx hb d_Terms_has_117 rfl (lv_at hl 5 rfl) ?_
                refine lv_if_ne (tgt := 132) hx hb d_Terms_has_118 (by decide) (fun c10 => ?_) (fun c10 => ?_)
                · replace h := Eq.trans (if_neg c10).symm h
                  refine lv_aload_n hx hb d_Terms_has_132 rfl (lv_at hl 4 rfl) ?_
                  refine kf_Terms_todo S E hI.1 vt_92 d_Terms_has_133 ?_
                  refine lv_aload_n hx hb d_Terms_has_136 rfl (lv_at hl 4 rfl) ?_
                  refine lv_iload hx hb d_Terms_has_137 (lv_at hl 1 rfl) ?_
                  refine kg_p (As := [.int (fR_pop (fR_pop β 3).2 2).1]) (rest := [.ref (kad g (11 + 2))]) (k_Terms_right (l := l) (g := g) (α := (fR_pop (fR_pop β 3).2 2).2) (fR_pop (fR_pop β 3).2 2).1) S E hI.1 kw_Terms_59 ⟨Nat.le_of_ble_eq_true rfl, Nat.le_of_ble_eq_true rfl⟩ hI.room (kv_Terms E hI.1) rfl hl.1 rfl (Nat.le_of_ble_eq_true rfl) d_Terms_has_139 rfl ?_
                  refine kg_cV (As := [.int (f_Terms_right (fR_pop (fR_pop β 3).2 2).1 (fR_pop (fR_pop β 3).2 2).2)]) (rest := []) h (k_Row_push (l := l) (g := g) (α := (fR_pop (fR_pop β 3).2 2).2) (r := 2) (by decide) (f_Terms_right (fR_pop (fR_pop β 3).2 2).1 (fR_pop (fR_pop β 3).2 2).2)) S hlocks hno E hI kw_Terms_112 ⟨Nat.le_of_ble_eq_true rfl, Nat.le_of_ble_eq_true rfl⟩ (kv_Row (r := 2) (by decide) E hI.1) rfl hl.1 rfl (Nat.le_of_ble_eq_true rfl) d_Terms_has_142 (fun α11 ad H locs cells slots e12 h hRm hI => ?_)
                  refine lv_aload_n hx hb d_Terms_has_145 rfl (lv_at hl 4 rfl) ?_
                  refine kf_Terms_offsets S E hI.1 vt_93 d_Terms_has_146 ?_
                  refine lv_iload hx hb d_Terms_has_149 (lv_at hl 2 rfl) ?_
                  refine lv_aload_n hx hb d_Terms_has_151 rfl (lv_at hl 4 rfl) ?_
                  refine lv_iload hx hb d_Terms_has_152 (lv_at hl 1 rfl) ?_
                  refine kg_p (As := [.int (fR_pop (fR_pop β 3).2 2).1]) (rest := [.int (fR_pop β 3).1, .ref (kad g (11 + 3))]) (k_Terms_kind (l := l) (g := g) (α := α11) (fR_pop (fR_pop β 3).2 2).1) S E hI.1 kw_Terms_52 ⟨Nat.le_of_ble_eq_true rfl, Nat.le_of_ble_eq_true rfl⟩ hI.room (kv_Terms E hI.1) rfl hl.1 rfl (Nat.le_of_ble_eq_true rfl) d_Terms_has_154 rfl ?_
                  refine kg_pS (As := [.int (f_Terms_kind (fR_pop (fR_pop β 3).2 2).1 α11)]) (rest := [.int (fR_pop β 3).1, .ref (kad g (11 + 3))]) (k_Terms_binds (l := l) (g := g) (α := α11) (f_Terms_kind (fR_pop (fR_pop β 3).2 2).1 α11)) S E hI.1 kw_Terms_81 ⟨Nat.le_of_ble_eq_true rfl, Nat.le_of_ble_eq_true rfl⟩ hI.room rfl hl.1 rfl (Nat.le_of_ble_eq_true rfl) d_Terms_has_157 ?_
                  refine lv_iadd hx hb d_Terms_has_160 ?_
                  refine kg_cV (As := [.int ((fR_pop β 3).1 + (f_Terms_binds (f_Terms_kind (fR_pop (fR_pop β 3).2 2).1 α11) α11))]) (rest := []) h (k_Row_push (l := l) (g := g) (α := α11) (r := 3) (by decide) ((fR_pop β 3).1 + (f_Terms_binds (f_Terms_kind (fR_pop (fR_pop β 3).2 2).1 α11) α11))) S hlocks hno E hI kw_Terms_112 ⟨Nat.le_of_ble_eq_true rfl, Nat.le_of_ble_eq_true rfl⟩ (kv_Row (r := 3) (by decide) E hI.1) rfl hl.1 rfl (Nat.le_of_ble_eq_true rfl) d_Terms_has_161 (fun α13 ad H locs cells slots e14 h hRm hI => ?_)
                  refine lv_aload_n hx hb d_Terms_has_164 rfl (lv_at hl 4 rfl) ?_
                  refine kf_Terms_todo S E hI.1 vt_92 d_Terms_has_165 ?_
                  refine lv_aload_n hx hb d_Terms_has_168 rfl (lv_at hl 4 rfl) ?_
                  refine lv_iload hx hb d_Terms_has_169 (lv_at hl 1 rfl) ?_
                  refine kg_p (As := [.int (fR_pop (fR_pop β 3).2 2).1]) (rest := [.ref (kad g (11 + 2))]) (k_Terms_left (l := l) (g := g) (α := α13) (fR_pop (fR_pop β 3).2 2).1) S E hI.1 kw_Terms_56 ⟨Nat.le_of_ble_eq_true rfl, Nat.le_of_ble_eq_true rfl⟩ hI.room (kv_Terms E hI.1) rfl hl.1 rfl (Nat.le_of_ble_eq_true rfl) d_Terms_has_171 rfl ?_
                  refine kg_cV (As := [.int (f_Terms_left (fR_pop (fR_pop β 3).2 2).1 α13)]) (rest := []) h (k_Row_push (l := l) (g := g) (α := α13) (r := 2) (by decide) (f_Terms_left (fR_pop (fR_pop β 3).2 2).1 α13)) S hlocks hno E hI kw_Terms_112 ⟨Nat.le_of_ble_eq_true rfl, Nat.le_of_ble_eq_true rfl⟩ (kv_Row (r := 2) (by decide) E hI.1) rfl hl.1 rfl (Nat.le_of_ble_eq_true rfl) d_Terms_has_174 (fun α15 ad H locs cells slots e16 h hRm hI => ?_)
                  refine lv_aload_n hx hb d_Terms_has_177 rfl (lv_at hl 4 rfl) ?_
                  refine kf_Terms_offsets S E hI.1 vt_93 d_Terms_has_178 ?_
                  refine lv_iload hx hb d_Terms_has_181 (lv_at hl 2 rfl) ?_
                  refine kg_cV (As := [.int (fR_pop β 3).1]) (rest := []) h (k_Row_push (l := l) (g := g) (α := α15) (r := 3) (by decide) (fR_pop β 3).1) S hlocks hno E hI kw_Terms_112 ⟨Nat.le_of_ble_eq_true rfl, Nat.le_of_ble_eq_true rfl⟩ (kv_Row (r := 3) (by decide) E hI.1) rfl hl.1 rfl (Nat.le_of_ble_eq_true rfl) d_Terms_has_183 (fun α17 ad H locs cells slots e18 h hRm hI => ?_)
                  refine lv_iinc (v := (x4 + 1)) (lv' := [(4, .int (x4 + 1)), (7, .int x3), (6, .int (fR_pop (fR_pop β 3).2 2).1), (5, .int (fR_pop β 3).1), (0, .ref (kad g 2)), (2, .int x2), (3, .int x3)]) hx hb d_Terms_has_186 hl (k := 3) rfl rfl (by decide) rfl (fun ls hl => ?_)
                  refine lv_goto (tgt := 35) hx hb d_Terms_has_189 (by decide) ?_
                  exact ih35 (x4 + 1) x2 x3 _ _ _ _ _ _ _ h hI (lv_sub hl [0, 4, 5, 6] rfl)
                · replace h := Eq.trans (if_pos c10).symm h
                  refine lv_aload_n hx hb d_Terms_has_121 rfl (lv_at hl 4 rfl) ?_
                  refine lv_iload hx hb d_Terms_has_122 (lv_at hl 1 rfl) ?_
                  refine kg_p (As := [.int (fR_pop (fR_pop β 3).2 2).1]) (rest := []) (k_Terms_loose (l := l) (g := g) (α := (fR_pop (fR_pop β 3).2 2).2) (fR_pop (fR_pop β 3).2 2).1) S E hI.1 kw_Terms_78 ⟨Nat.le_of_ble_eq_true rfl, Nat.le_of_ble_eq_true rfl⟩ hI.room (kv_Terms E hI.1) rfl hl.1 rfl (Nat.le_of_ble_eq_true rfl) d_Terms_has_124 rfl ?_
                  refine lv_iload hx hb d_Terms_has_127 (lv_at hl 0 rfl) ?_
                  refine lv_icmp_le (tgt := 186) hx hb d_Terms_has_129 (by decide) (fun c19 => ?_) (fun c19 => ?_)
                  · replace h := Eq.trans (if_pos c19).symm h
                    refine lv_iinc (v := (x4 + 1)) (lv' := [(4, .int (x4 + 1)), (7, .int x3), (6, .int (fR_pop (fR_pop β 3).2 2).1), (5, .int (fR_pop β 3).1), (0, .ref (kad g 2)), (2, .int x2), (3, .int x3)]) hx hb d_Terms_has_186 hl (k := 3) rfl rfl (by decide) rfl (fun ls hl => ?_)
                    refine lv_goto (tgt := 35) hx hb d_Terms_has_189 (by decide) ?_
                    exact ih35 (x4 + 1) x2 x3 _ _ _ _ _ _ _ h hI (lv_sub hl [0, 4, 5, 6] rfl)
                  · replace h := Eq.trans (if_neg c19).symm h
                    refine lv_aload_n hx hb d_Terms_has_132 rfl (lv_at hl 4 rfl) ?_
                    refine kf_Terms_todo S E hI.1 vt_92 d_Terms_has_133 ?_
                    refine lv_aload_n hx hb d_Terms_has_136 rfl (lv_at hl 4 rfl) ?_
                    refine lv_iload hx hb d_Terms_has_137 (lv_at hl 1 rfl) ?_
                    refine kg_p (As := [.int (fR_pop (fR_pop β 3).2 2).1]) (rest := [.ref (kad g (11 + 2))]) (k_Terms_right (l := l) (g := g) (α := (fR_pop (fR_pop β 3).2 2).2) (fR_pop (fR_pop β 3).2 2).1) S E hI.1 kw_Terms_59 ⟨Nat.le_of_ble_eq_true rfl, Nat.le_of_ble_eq_true rfl⟩ hI.room (kv_Terms E hI.1) rfl hl.1 rfl (Nat.le_of_ble_eq_true rfl) d_Terms_has_139 rfl ?_
                    refine kg_cV (As := [.int (f_Terms_right (fR_pop (fR_pop β 3).2 2).1 (fR_pop (fR_pop β 3).2 2).2)]) (rest := []) h (k_Row_push (l := l) (g := g) (α := (fR_pop (fR_pop β 3).2 2).2) (r := 2) (by decide) (f_Terms_right (fR_pop (fR_pop β 3).2 2).1 (fR_pop (fR_pop β 3).2 2).2)) S hlocks hno E hI kw_Terms_112 ⟨Nat.le_of_ble_eq_true rfl, Nat.le_of_ble_eq_true rfl⟩ (kv_Row (r := 2) (by decide) E hI.1) rfl hl.1 rfl (Nat.le_of_ble_eq_true rfl) d_Terms_has_142 (fun α20 ad H locs cells slots e21 h hRm hI => ?_)
                    refine lv_aload_n hx hb d_Terms_has_145 rfl (lv_at hl 4 rfl) ?_
                    refine kf_Terms_offsets S E hI.1 vt_93 d_Terms_has_146 ?_
                    refine lv_iload hx hb d_Terms_has_149 (lv_at hl 2 rfl) ?_
                    refine lv_aload_n hx hb d_Terms_has_151 rfl (lv_at hl 4 rfl) ?_
                    refine lv_iload hx hb d_Terms_has_152 (lv_at hl 1 rfl) ?_
                    refine kg_p (As := [.int (fR_pop (fR_pop β 3).2 2).1]) (rest := [.int (fR_pop β 3).1, .ref (kad g (11 + 3))]) (k_Terms_kind (l := l) (g := g) (α := α20) (fR_pop (fR_pop β 3).2 2).1) S E hI.1 kw_Terms_52 ⟨Nat.le_of_ble_eq_true rfl, Nat.le_of_ble_eq_true rfl⟩ hI.room (kv_Terms E hI.1) rfl hl.1 rfl (Nat.le_of_ble_eq_true rfl) d_Terms_has_154 rfl ?_
                    refine kg_pS (As := [.int (f_Terms_kind (fR_pop (fR_pop β 3).2 2).1 α20)]) (rest := [.int (fR_pop β 3).1, .ref (kad g (11 + 3))]) (k_Terms_binds (l := l) (g := g) (α := α20) (f_Terms_kind (fR_pop (fR_pop β 3).2 2).1 α20)) S E hI.1 kw_Terms_81 ⟨Nat.le_of_ble_eq_true rfl, Nat.le_of_ble_eq_true rfl⟩ hI.room rfl hl.1 rfl (Nat.le_of_ble_eq_true rfl) d_Terms_has_157 ?_
                    refine lv_iadd hx hb d_Terms_has_160 ?_
                    refine kg_cV (As := [.int ((fR_pop β 3).1 + (f_Terms_binds (f_Terms_kind (fR_pop (fR_pop β 3).2 2).1 α20) α20))]) (rest := []) h (k_Row_push (l := l) (g := g) (α := α20) (r := 3) (by decide) ((fR_pop β 3).1 + (f_Terms_binds (f_Terms_kind (fR_pop (fR_pop β 3).2 2).1 α20) α20))) S hlocks hno E hI kw_Terms_112 ⟨Nat.le_of_ble_eq_true rfl, Nat.le_of_ble_eq_true rfl⟩ (kv_Row (r := 3) (by decide) E hI.1) rfl hl.1 rfl (Nat.le_of_ble_eq_true rfl) d_Terms_has_161 (fun α22 ad H locs cells slots e23 h hRm hI => ?_)
                    refine lv_aload_n hx hb d_Terms_has_164 rfl (lv_at hl 4 rfl) ?_
                    refine kf_Terms_todo S E hI.1 vt_92 d_Terms_has_165 ?_
                    refine lv_aload_n hx hb d_Terms_has_168 rfl (lv_at hl 4 rfl) ?_
                    refine lv_iload hx hb d_Terms_has_169 (lv_at hl 1 rfl) ?_
                    refine kg_p (As := [.int (fR_pop (fR_pop β 3).2 2).1]) (rest := [.ref (kad g (11 + 2))]) (k_Terms_left (l := l) (g := g) (α := α22) (fR_pop (fR_pop β 3).2 2).1) S E hI.1 kw_Terms_56 ⟨Nat.le_of_ble_eq_true rfl, Nat.le_of_ble_eq_true rfl⟩ hI.room (kv_Terms E hI.1) rfl hl.1 rfl (Nat.le_of_ble_eq_true rfl) d_Terms_has_171 rfl ?_
                    refine kg_cV (As := [.int (f_Terms_left (fR_pop (fR_pop β 3).2 2).1 α22)]) (rest := []) h (k_Row_push (l := l) (g := g) (α := α22) (r := 2) (by decide) (f_Terms_left (fR_pop (fR_pop β 3).2 2).1 α22)) S hlocks hno E hI kw_Terms_112 ⟨Nat.le_of_ble_eq_true rfl, Nat.le_of_ble_eq_true rfl⟩ (kv_Row (r := 2) (by decide) E hI.1) rfl hl.1 rfl (Nat.le_of_ble_eq_true rfl) d_Terms_has_174 (fun α24 ad H locs cells slots e25 h hRm hI => ?_)
                    refine lv_aload_n hx hb d_Terms_has_177 rfl (lv_at hl 4 rfl) ?_
                    refine kf_Terms_offsets S E hI.1 vt_93 d_Terms_has_178 ?_
                    refine lv_iload hx hb d_Terms_has_181 (lv_at hl 2 rfl) ?_
                    refine kg_cV (As := [.int (fR_pop β 3).1]) (rest := []) h (k_Row_push (l := l) (g := g) (α := α24) (r := 3) (by decide) (fR_pop β 3).1) S hlocks hno E hI kw_Terms_112 ⟨Nat.le_of_ble_eq_true rfl, Nat.le_of_ble_eq_true rfl⟩ (kv_Row (r := 3) (by decide) E hI.1) rfl hl.1 rfl (Nat.le_of_ble_eq_true rfl) d_Terms_has_183 (fun α26 ad H locs cells slots e27 h hRm hI => ?_)
                    refine lv_iinc (v := (x4 + 1)) (lv' := [(4, .int (x4 + 1)), (7, .int x3), (6, .int (fR_pop (fR_pop β 3).2 2).1), (5, .int (fR_pop β 3).1), (0, .ref (kad g 2)), (2, .int x2), (3, .int x3)]) hx hb d_Terms_has_186 hl (k := 3) rfl rfl (by decide) rfl (fun ls hl => ?_)
                    refine lv_goto (tgt := 35) hx hb d_Terms_has_189 (by decide) ?_
                    exact ih35 (x4 + 1) x2 x3 _ _ _ _ _ _ _ h hI (lv_sub hl [0, 4, 5, 6] rfl)
            · replace h := Eq.trans (if_pos c8).symm h
              refine lv_aload_n hx hb d_Terms_has_94 rfl (lv_at hl 4 rfl) ?_
              refine lv_iload hx hb d_Terms_has_95 (lv_at hl 1 rfl) ?_
              refine kg_p (As := [.int (fR_pop (fR_pop β 3).2 2).1]) (rest := []) (k_Terms_left (l := l) (g := g) (α := (fR_pop (fR_pop β 3).2 2).2) (fR_pop (fR_pop β 3).2 2).1) S E hI.1 kw_Terms_56 ⟨Nat.le_of_ble_eq_true rfl, Nat.le_of_ble_eq_true rfl⟩ hI.room (kv_Terms E hI.1) rfl hl.1 rfl (Nat.le_of_ble_eq_true rfl) d_Terms_has_97 rfl ?_
              refine lv_iload hx hb d_Terms_has_100 (lv_at hl 0 rfl) ?_
              refine lv_icmp_ne (tgt := 107) hx hb d_Terms_has_102 (by decide) (fun c28 => ?_) (fun c28 => ?_)
              · replace h := Eq.trans (if_neg c28).symm h
                refine lv_aload_n hx hb d_Terms_has_107 rfl (lv_at hl 4 rfl) ?_
                refine lv_iload hx hb d_Terms_has_108 (lv_at hl 1 rfl) ?_
                refine kg_p (As := [.int (fR_pop (fR_pop β 3).2 2).1]) (rest := []) (k_Terms_kind (l := l) (g := g) (α := (fR_pop (fR_pop β 3).2 2).2) (fR_pop (fR_pop β 3).2 2).1) S E hI.1 kw_Terms_52 ⟨Nat.le_of_ble_eq_true rfl, Nat.le_of_ble_eq_true rfl⟩ hI.room (kv_Terms E hI.1) rfl hl.1 rfl (Nat.le_of_ble_eq_true rfl) d_Terms_has_110 rfl ?_
                refine lv_iconst (v := 5) hx hb d_Terms_has_113 (by decide) ?_
                refine lv_icmp_lt (tgt := 186) hx hb d_Terms_has_114 (by decide) (fun c29 => ?_) (fun c29 => ?_)
                · replace h := Eq.trans (if_pos c29).symm h
                  refine lv_iinc (v := (x4 + 1)) (lv' := [(4, .int (x4 + 1)), (7, .int x3), (6, .int (fR_pop (fR_pop β 3).2 2).1), (5, .int (fR_pop β 3).1), (0, .ref (kad g 2)), (2, .int x2), (3, .int x3)]) hx hb d_Terms_has_186 hl (k := 3) rfl rfl (by decide) rfl (fun ls hl => ?_)
                  refine lv_goto (tgt := 35) hx hb d_Terms_has_189 (by decide) ?_
                  exact ih35 (x4 + 1) x2 x3 _ _ _ _ _ _ _ h hI (lv_sub hl [0, 4, 5, 6] rfl)
                · replace h := Eq.trans (if_neg c29).symm h
                  refine lv_iload_n hx hb d_Terms_has_117 rfl (lv_at hl 5 rfl) ?_
                  refine lv_if_ne (tgt := 132) hx hb d_Terms_has_118 (by decide) (fun c30 => ?_) (fun c30 => ?_)
                  · replace h := Eq.trans (if_neg c30).symm h
                    refine lv_aload_n hx hb d_Terms_has_132 rfl (lv_at hl 4 rfl) ?_
                    refine kf_Terms_todo S E hI.1 vt_92 d_Terms_has_133 ?_
                    refine lv_aload_n hx hb d_Terms_has_136 rfl (lv_at hl 4 rfl) ?_
                    refine lv_iload hx hb d_Terms_has_137 (lv_at hl 1 rfl) ?_
                    refine kg_p (As := [.int (fR_pop (fR_pop β 3).2 2).1]) (rest := [.ref (kad g (11 + 2))]) (k_Terms_right (l := l) (g := g) (α := (fR_pop (fR_pop β 3).2 2).2) (fR_pop (fR_pop β 3).2 2).1) S E hI.1 kw_Terms_59 ⟨Nat.le_of_ble_eq_true rfl, Nat.le_of_ble_eq_true rfl⟩ hI.room (kv_Terms E hI.1) rfl hl.1 rfl (Nat.le_of_ble_eq_true rfl) d_Terms_has_139 rfl ?_
                    refine kg_cV (As := [.int (f_Terms_right (fR_pop (fR_pop β 3).2 2).1 (fR_pop (fR_pop β 3).2 2).2)]) (rest := []) h (k_Row_push (l := l) (g := g) (α := (fR_pop (fR_pop β 3).2 2).2) (r := 2) (by decide) (f_Terms_right (fR_pop (fR_pop β 3).2 2).1 (fR_pop (fR_pop β 3).2 2).2)) S hlocks hno E hI kw_Terms_112 ⟨Nat.le_of_ble_eq_true rfl, Nat.le_of_ble_eq_true rfl⟩ (kv_Row (r := 2) (by decide) E hI.1) rfl hl.1 rfl (Nat.le_of_ble_eq_true rfl) d_Terms_has_142 (fun α31 ad H locs cells slots e32 h hRm hI => ?_)
                    refine lv_aload_n hx hb d_Terms_has_145 rfl (lv_at hl 4 rfl) ?_
                    refine kf_Terms_offsets S E hI.1 vt_93 d_Terms_has_146 ?_
                    refine lv_iload hx hb d_Terms_has_149 (lv_at hl 2 rfl) ?_
                    refine lv_aload_n hx hb d_Terms_has_151 rfl (lv_at hl 4 rfl) ?_
                    refine lv_iload hx hb d_Terms_has_152 (lv_at hl 1 rfl) ?_
                    refine kg_p (As := [.int (fR_pop (fR_pop β 3).2 2).1]) (rest := [.int (fR_pop β 3).1, .ref (kad g (11 + 3))]) (k_Terms_kind (l := l) (g := g) (α := α31) (fR_pop (fR_pop β 3).2 2).1) S E hI.1 kw_Terms_52 ⟨Nat.le_of_ble_eq_true rfl, Nat.le_of_ble_eq_true rfl⟩ hI.room (kv_Terms E hI.1) rfl hl.1 rfl (Nat.le_of_ble_eq_true rfl) d_Terms_has_154 rfl ?_
                    refine kg_pS (As := [.int (f_Terms_kind (fR_pop (fR_pop β 3).2 2).1 α31)]) (rest := [.int (fR_pop β 3).1, .ref (kad g (11 + 3))]) (k_Terms_binds (l := l) (g := g) (α := α31) (f_Terms_kind (fR_pop (fR_pop β 3).2 2).1 α31)) S E hI.1 kw_Terms_81 ⟨Nat.le_of_ble_eq_true rfl, Nat.le_of_ble_eq_true rfl⟩ hI.room rfl hl.1 rfl (Nat.le_of_ble_eq_true rfl) d_Terms_has_157 ?_
                    refine lv_iadd hx hb d_Terms_has_160 ?_
                    refine kg_cV (As := [.int ((fR_pop β 3).1 + (f_Terms_binds (f_Terms_kind (fR_pop (fR_pop β 3).2 2).1 α31) α31))]) (rest := []) h (k_Row_push (l := l) (g := g) (α := α31) (r := 3) (by decide) ((fR_pop β 3).1 + (f_Terms_binds (f_Terms_kind (fR_pop (fR_pop β 3).2 2).1 α31) α31))) S hlocks hno E hI kw_Terms_112 ⟨Nat.le_of_ble_eq_true rfl, Nat.le_of_ble_eq_true rfl⟩ (kv_Row (r := 3) (by decide) E hI.1) rfl hl.1 rfl (Nat.le_of_ble_eq_true rfl) d_Terms_has_161 (fun α33 ad H locs cells slots e34 h hRm hI => ?_)
                    refine lv_aload_n hx hb d_Terms_has_164 rfl (lv_at hl 4 rfl) ?_
                    refine kf_Terms_todo S E hI.1 vt_92 d_Terms_has_165 ?_
                    refine lv_aload_n hx hb d_Terms_has_168 rfl (lv_at hl 4 rfl) ?_
                    refine lv_iload hx hb d_Terms_has_169 (lv_at hl 1 rfl) ?_
                    refine kg_p (As := [.int (fR_pop (fR_pop β 3).2 2).1]) (rest := [.ref (kad g (11 + 2))]) (k_Terms_left (l := l) (g := g) (α := α33) (fR_pop (fR_pop β 3).2 2).1) S E hI.1 kw_Terms_56 ⟨Nat.le_of_ble_eq_true rfl, Nat.le_of_ble_eq_true rfl⟩ hI.room (kv_Terms E hI.1) rfl hl.1 rfl (Nat.le_of_ble_eq_true rfl) d_Terms_has_171 rfl ?_
                    refine kg_cV (As := [.int (f_Terms_left (fR_pop (fR_pop β 3).2 2).1 α33)]) (rest := []) h (k_Row_push (l := l) (g := g) (α := α33) (r := 2) (by decide) (f_Terms_left (fR_pop (fR_pop β 3).2 2).1 α33)) S hlocks hno E hI kw_Terms_112 ⟨Nat.le_of_ble_eq_true rfl, Nat.le_of_ble_eq_true rfl⟩ (kv_Row (r := 2) (by decide) E hI.1) rfl hl.1 rfl (Nat.le_of_ble_eq_true rfl) d_Terms_has_174 (fun α35 ad H locs cells slots e36 h hRm hI => ?_)
                    refine lv_aload_n hx hb d_Terms_has_177 rfl (lv_at hl 4 rfl) ?_
                    refine kf_Terms_offsets S E hI.1 vt_93 d_Terms_has_178 ?_
                    refine lv_iload hx hb d_Terms_has_181 (lv_at hl 2 rfl) ?_
                    refine kg_cV (As := [.int (fR_pop β 3).1]) (rest := []) h (k_Row_push (l := l) (g := g) (α := α35) (r := 3) (by decide) (fR_pop β 3).1) S hlocks hno E hI kw_Terms_112 ⟨Nat.le_of_ble_eq_true rfl, Nat.le_of_ble_eq_true rfl⟩ (kv_Row (r := 3) (by decide) E hI.1) rfl hl.1 rfl (Nat.le_of_ble_eq_true rfl) d_Terms_has_183 (fun α37 ad H locs cells slots e38 h hRm hI => ?_)
                    refine lv_iinc (v := (x4 + 1)) (lv' := [(4, .int (x4 + 1)), (7, .int x3), (6, .int (fR_pop (fR_pop β 3).2 2).1), (5, .int (fR_pop β 3).1), (0, .ref (kad g 2)), (2, .int x2), (3, .int x3)]) hx hb d_Terms_has_186 hl (k := 3) rfl rfl (by decide) rfl (fun ls hl => ?_)
                    refine lv_goto (tgt := 35) hx hb d_Terms_has_189 (by decide) ?_
                    exact ih35 (x4 + 1) x2 x3 _ _ _ _ _ _ _ h hI (lv_sub hl [0, 4, 5, 6] rfl)
                  · replace h := Eq.trans (if_pos c30).symm h
                    refine lv_aload_n hx hb d_Terms_has_121 rfl (lv_at hl 4 rfl) ?_
                    refine lv_iload hx hb d_Terms_has_122 (lv_at hl 1 rfl) ?_
                    refine kg_p (As := [.int (fR_pop (fR_pop β 3).2 2).1]) (rest := []) (k_Terms_loose (l := l) (g := g) (α := (fR_pop (fR_pop β 3).2 2).2) (fR_pop (fR_pop β 3).2 2).1) S E hI.1 kw_Terms_78 ⟨Nat.le_of_ble_eq_true rfl, Nat.le_of_ble_eq_true rfl⟩ hI.room (kv_Terms E hI.1) rfl hl.1 rfl (Nat.le_of_ble_eq_true rfl) d_Terms_has_124 rfl ?_
                    refine lv_iload hx hb d_Terms_has_127 (lv_at hl 0 rfl) ?_
                    refine lv_icmp_le (tgt := 186) hx hb d_Terms_has_129 (by decide) (fun c39 => ?_) (fun c39 => ?_)
                    · replace h := Eq.trans (if_pos c39).symm h
                      refine lv_iinc (v := (x4 + 1)) (lv' := [(4, .int (x4 + 1)), (7, .int x3), (6, .int (fR_pop (fR_pop β 3).2 2).1), (5, .int (fR_pop β 3).1), (0, .ref (kad g 2)), (2, .int x2), (3, .int x3)]) hx hb d_Terms_has_186 hl (k := 3) rfl rfl (by decide) rfl (fun ls hl => ?_)
                      refine lv_goto (tgt := 35) hx hb d_Terms_has_189 (by decide) ?_
                      exact ih35 (x4 + 1) x2 x3 _ _ _ _ _ _ _ h hI (lv_sub hl [0, 4, 5, 6] rfl)
                    · replace h := Eq.trans (if_neg c39).symm h
                      refine lv_aload_n hx hb d_Terms_has_132 rfl (lv_at hl 4 rfl) ?_
                      refine kf_Terms_todo S E hI.1 vt_92 d_Terms_has_133 ?_
                      refine lv_aload_n hx hb d_Terms_has_136 rfl (lv_at hl 4 rfl) ?_
                      refine lv_iload hx hb d_Terms_has_137 (lv_at hl 1 rfl) ?_
                      refine kg_p (As := [.int (fR_pop (fR_pop β 3).2 2).1]) (rest := [.ref (kad g (11 + 2))]) (k_Terms_right (l := l) (g := g) (α := (fR_pop (fR_pop β 3).2 2).2) (fR_pop (fR_pop β 3).2 2).1) S E hI.1 kw_Terms_59 ⟨Nat.le_of_ble_eq_true rfl, Nat.le_of_ble_eq_true rfl⟩ hI.room (kv_Terms E hI.1) rfl hl.1 rfl (Nat.le_of_ble_eq_true rfl) d_Terms_has_139 rfl ?_
                      refine kg_cV (As := [.int (f_Terms_right (fR_pop (fR_pop β 3).2 2).1 (fR_pop (fR_pop β 3).2 2).2)]) (rest := []) h (k_Row_push (l := l) (g := g) (α := (fR_pop (fR_pop β 3).2 2).2) (r := 2) (by decide) (f_Terms_right (fR_pop (fR_pop β 3).2 2).1 (fR_pop (fR_pop β 3).2 2).2)) S hlocks hno E hI kw_Terms_112 ⟨Nat.le_of_ble_eq_true rfl, Nat.le_of_ble_eq_true rfl⟩ (kv_Row (r := 2) (by decide) E hI.1) rfl hl.1 rfl (Nat.le_of_ble_eq_true rfl) d_Terms_has_142 (fun α40 ad H locs cells slots e41 h hRm hI => ?_)
                      refine lv_aload_n hx hb d_Terms_has_145 rfl (lv_at hl 4 rfl) ?_
                      refine kf_Terms_offsets S E hI.1 vt_93 d_Terms_has_146 ?_
                      refine lv_iload hx hb d_Terms_has_149 (lv_at hl 2 rfl) ?_
                      refine lv_aload_n hx hb d_Terms_has_151 rfl (lv_at hl 4 rfl) ?_
                      refine lv_iload hx hb d_Terms_has_152 (lv_at hl 1 rfl) ?_
                      refine kg_p (As := [.int (fR_pop (fR_pop β 3).2 2).1]) (rest := [.int (fR_pop β 3).1, .ref (kad g (11 + 3))]) (k_Terms_kind (l := l) (g := g) (α := α40) (fR_pop (fR_pop β 3).2 2).1) S E hI.1 kw_Terms_52 ⟨Nat.le_of_ble_eq_true rfl, Nat.le_of_ble_eq_true rfl⟩ hI.room (kv_Terms E hI.1) rfl hl.1 rfl (Nat.le_of_ble_eq_true rfl) d_Terms_has_154 rfl ?_
                      refine kg_pS (As := [.int (f_Terms_kind (fR_pop (fR_pop β 3).2 2).1 α40)]) (rest := [.int (fR_pop β 3).1, .ref (kad g (11 + 3))]) (k_Terms_binds (l := l) (g := g) (α := α40) (f_Terms_kind (fR_pop (fR_pop β 3).2 2).1 α40)) S E hI.1 kw_Terms_81 ⟨Nat.le_of_ble_eq_true rfl, Nat.le_of_ble_eq_true rfl⟩ hI.room rfl hl.1 rfl (Nat.le_of_ble_eq_true rfl) d_Terms_has_157 ?_
                      refine lv_iadd hx hb d_Terms_has_160 ?_
                      refine kg_cV (As := [.int ((fR_pop β 3).1 + (f_Terms_binds (f_Terms_kind (fR_pop (fR_pop β 3).2 2).1 α40) α40))]) (rest := []) h (k_Row_push (l := l) (g := g) (α := α40) (r := 3) (by decide) ((fR_pop β 3).1 + (f_Terms_binds (f_Terms_kind (fR_pop (fR_pop β 3).2 2).1 α40) α40))) S hlocks hno E hI kw_Terms_112 ⟨Nat.le_of_ble_eq_true rfl, Nat.le_of_ble_eq_true rfl⟩ (kv_Row (r := 3) (by decide) E hI.1) rfl hl.1 rfl (Nat.le_of_ble_eq_true rfl) d_Terms_has_161 (fun α42 ad H locs cells slots e43 h hRm hI => ?_)
                      refine lv_aload_n hx hb d_Terms_has_164 rfl (lv_at hl 4 rfl) ?_
                      refine kf_Terms_todo S E hI.1 vt_92 d_Terms_has_165 ?_
                      refine lv_aload_n hx hb d_Terms_has_168 rfl (lv_at hl 4 rfl) ?_
                      refine lv_iload hx hb d_Terms_has_169 (lv_at hl 1 rfl) ?_
                      refine kg_p (As := [.int (fR_pop (fR_pop β 3).2 2).1]) (rest := [.ref (kad g (11 + 2))]) (k_Terms_left (l := l) (g := g) (α := α42) (fR_pop (fR_pop β 3).2 2).1) S E hI.1 kw_Terms_56 ⟨Nat.le_of_ble_eq_true rfl, Nat.le_of_ble_eq_true rfl⟩ hI.room (kv_Terms E hI.1) rfl hl.1 rfl (Nat.le_of_ble_eq_true rfl) d_Terms_has_171 rfl ?_
                      refine kg_cV (As := [.int (f_Terms_left (fR_pop (fR_pop β 3).2 2).1 α42)]) (rest := []) h (k_Row_push (l := l) (g := g) (α := α42) (r := 2) (by decide) (f_Terms_left (fR_pop (fR_pop β 3).2 2).1 α42)) S hlocks hno E hI kw_Terms_112 ⟨Nat.le_of_ble_eq_true rfl, Nat.le_of_ble_eq_true rfl⟩ (kv_Row (r := 2) (by decide) E hI.1) rfl hl.1 rfl (Nat.le_of_ble_eq_true rfl) d_Terms_has_174 (fun α44 ad H locs cells slots e45 h hRm hI => ?_)
                      refine lv_aload_n hx hb d_Terms_has_177 rfl (lv_at hl 4 rfl) ?_
                      refine kf_Terms_offsets S E hI.1 vt_93 d_Terms_has_178 ?_
                      refine lv_iload hx hb d_Terms_has_181 (lv_at hl 2 rfl) ?_
                      refine kg_cV (As := [.int (fR_pop β 3).1]) (rest := []) h (k_Row_push (l := l) (g := g) (α := α44) (r := 3) (by decide) (fR_pop β 3).1) S hlocks hno E hI kw_Terms_112 ⟨Nat.le_of_ble_eq_true rfl, Nat.le_of_ble_eq_true rfl⟩ (kv_Row (r := 3) (by decide) E hI.1) rfl hl.1 rfl (Nat.le_of_ble_eq_true rfl) d_Terms_has_183 (fun α46 ad H locs cells slots e47 h hRm hI => ?_)
                      refine lv_iinc (v := (x4 + 1)) (lv' := [(4, .int (x4 + 1)), (7, .int x3), (6, .int (fR_pop (fR_pop β 3).2 2).1), (5, .int (fR_pop β 3).1), (0, .ref (kad g 2)), (2, .int x2), (3, .int x3)]) hx hb d_Terms_has_186 hl (k := 3) rfl rfl (by decide) rfl (fun ls hl => ?_)
                      refine lv_goto (tgt := 35) hx hb d_Terms_has_189 (by decide) ?_
                      exact ih35 (x4 + 1) x2 x3 _ _ _ _ _ _ _ h hI (lv_sub hl [0, 4, 5, 6] rfl)
              · replace h := Eq.trans (if_pos c28).symm h
                refine lv_iconst (v := 1) hx hb d_Terms_has_105 (by decide) ?_
                exact kc_iret (w := 1) hx hb hr (by decide) hlocks E hI h d_Terms_has_106
          · replace h := Eq.trans (if_pos c7).symm h
            refine lv_iload_n hx hb d_Terms_has_74 rfl (lv_at hl 5 rfl) ?_
            refine lv_iload hx hb d_Terms_has_75 (lv_at hl 1 rfl) ?_
            refine lv_iadd hx hb d_Terms_has_77 ?_
            refine lv_goto (tgt := 82) hx hb d_Terms_has_78 (by decide) ?_
            refine lv_istore (lv' := [(7, .int (x3 + (fR_pop β 3).1)), (6, .int (fR_pop (fR_pop β 3).2 2).1), (5, .int (fR_pop β 3).1), (4, .int x4), (0, .ref (kad g 2)), (2, .int x2), (3, .int x3)]) hx hb d_Terms_has_82 hl (by decide) rfl (fun ls hl => ?_)
            refine lv_aload_n hx hb d_Terms_has_84 rfl (lv_at hl 4 rfl) ?_
            refine lv_iload hx hb d_Terms_has_85 (lv_at hl 1 rfl) ?_
            refine kg_p (As := [.int (fR_pop (fR_pop β 3).2 2).1]) (rest := []) (k_Terms_kind (l := l) (g := g) (α := (fR_pop (fR_pop β 3).2 2).2) (fR_pop (fR_pop β 3).2 2).1) S E hI.1 kw_Terms_52 ⟨Nat.le_of_ble_eq_true rfl, Nat.le_of_ble_eq_true rfl⟩ hI.room (kv_Terms E hI.1) rfl hl.1 rfl (Nat.le_of_ble_eq_true rfl) d_Terms_has_87 rfl ?_
            refine lv_iload_n hx hb d_Terms_has_90 rfl (lv_at hl 5 rfl) ?_
            refine lv_icmp_ne (tgt := 107) hx hb d_Terms_has_91 (by decide) (fun c48 => ?_) (fun c48 => ?_)
            · replace h := Eq.trans (if_neg c48).symm h
              refine lv_aload_n hx hb d_Terms_has_107 rfl (lv_at hl 4 rfl) ?_
              refine lv_iload hx hb d_Terms_has_108 (lv_at hl 1 rfl) ?_
              refine kg_p (As := [.int (fR_pop (fR_pop β 3).2 2).1]) (rest := []) (k_Terms_kind (l := l) (g := g) (α := (fR_pop (fR_pop β 3).2 2).2) (fR_pop (fR_pop β 3).2 2).1) S E hI.1 kw_Terms_52 ⟨Nat.le_of_ble_eq_true rfl, Nat.le_of_ble_eq_true rfl⟩ hI.room (kv_Terms E hI.1) rfl hl.1 rfl (Nat.le_of_ble_eq_true rfl) d_Terms_has_110 rfl ?_
              refine lv_iconst (v := 5) hx hb d_Terms_has_113 (by decide) ?_
              refine lv_icmp_lt (tgt := 186) hx hb d_Terms_has_114 (by decide) (fun c49 => ?_) (fun c49 => ?_)
              · replace h := Eq.trans (if_pos c49).symm h
                refine lv_iinc (v := (x4 + 1)) (lv' := [(4, .int (x4 + 1)), (7, .int (x3 + (fR_pop β 3).1)), (6, .int (fR_pop (fR_pop β 3).2 2).1), (5, .int (fR_pop β 3).1), (0, .ref (kad g 2)), (2, .int x2), (3, .int x3)]) hx hb d_Terms_has_186 hl (k := 3) rfl rfl (by decide) rfl (fun ls hl => ?_)
                refine lv_goto (tgt := 35) hx hb d_Terms_has_189 (by decide) ?_
                exact ih35 (x4 + 1) x2 x3 _ _ _ _ _ _ _ h hI (lv_sub hl [0, 4, 5, 6] rfl)
              · replace h := Eq.trans (if_neg c49).symm h
                refine lv_iload_n hx hb d_Terms_has_117 rfl (lv_at hl 5 rfl) ?_
                refine lv_if_ne (tgt := 132) hx hb d_Terms_has_118 (by decide) (fun c50 => ?_) (fun c50 => ?_)
                · replace h := Eq.trans (if_neg c50).symm h
                  refine lv_aload_n hx hb d_Terms_has_132 rfl (lv_at hl 4 rfl) ?_
                  refine kf_Terms_todo S E hI.1 vt_92 d_Terms_has_133 ?_
                  refine lv_aload_n hx hb d_Terms_has_136 rfl (lv_at hl 4 rfl) ?_
                  refine lv_iload hx hb d_Terms_has_137 (lv_at hl 1 rfl) ?_
                  refine kg_p (As := [.int (fR_pop (fR_pop β 3).2 2).1]) (rest := [.ref (kad g (11 + 2))]) (k_Terms_right (l := l) (g := g) (α := (fR_pop (fR_pop β 3).2 2).2) (fR_pop (fR_pop β 3).2 2).1) S E hI.1 kw_Terms_59 ⟨Nat.le_of_ble_eq_true rfl, Nat.le_of_ble_eq_true rfl⟩ hI.room (kv_Terms E hI.1) rfl hl.1 rfl (Nat.le_of_ble_eq_true rfl) d_Terms_has_139 rfl ?_
                  refine kg_cV (As := [.int (f_Terms_right (fR_pop (fR_pop β 3).2 2).1 (fR_pop (fR_pop β 3).2 2).2)]) (rest := []) h (k_Row_push (l := l) (g := g) (α := (fR_pop (fR_pop β 3).2 2).2) (r := 2) (by decide) (f_Terms_right (fR_pop (fR_pop β 3).2 2).1 (fR_pop (fR_pop β 3).2 2).2)) S hlocks hno E hI kw_Terms_112 ⟨Nat.le_of_ble_eq_true rfl, Nat.le_of_ble_eq_true rfl⟩ (kv_Row (r := 2) (by decide) E hI.1) rfl hl.1 rfl (Nat.le_of_ble_eq_true rfl) d_Terms_has_142 (fun α51 ad H locs cells slots e52 h hRm hI => ?_)
                  refine lv_aload_n hx hb d_Terms_has_145 rfl (lv_at hl 4 rfl) ?_
                  refine kf_Terms_offsets S E hI.1 vt_93 d_Terms_has_146 ?_
                  refine lv_iload hx hb d_Terms_has_149 (lv_at hl 2 rfl) ?_
                  refine lv_aload_n hx hb d_Terms_has_151 rfl (lv_at hl 4 rfl) ?_
                  refine lv_iload hx hb d_Terms_has_152 (lv_at hl 1 rfl) ?_
                  refine kg_p (As := [.int (fR_pop (fR_pop β 3).2 2).1]) (rest := [.int (fR_pop β 3).1, .ref (kad g (11 + 3))]) (k_Terms_kind (l := l) (g := g) (α := α51) (fR_pop (fR_pop β 3).2 2).1) S E hI.1 kw_Terms_52 ⟨Nat.le_of_ble_eq_true rfl, Nat.le_of_ble_eq_true rfl⟩ hI.room (kv_Terms E hI.1) rfl hl.1 rfl (Nat.le_of_ble_eq_true rfl) d_Terms_has_154 rfl ?_
                  refine kg_pS (As := [.int (f_Terms_kind (fR_pop (fR_pop β 3).2 2).1 α51)]) (rest := [.int (fR_pop β 3).1, .ref (kad g (11 + 3))]) (k_Terms_binds (l := l) (g := g) (α := α51) (f_Terms_kind (fR_pop (fR_pop β 3).2 2).1 α51)) S E hI.1 kw_Terms_81 ⟨Nat.le_of_ble_eq_true rfl, Nat.le_of_ble_eq_true rfl⟩ hI.room rfl hl.1 rfl (Nat.le_of_ble_eq_true rfl) d_Terms_has_157 ?_
                  refine lv_iadd hx hb d_Terms_has_160 ?_
                  refine kg_cV (As := [.int ((fR_pop β 3).1 + (f_Terms_binds (f_Terms_kind (fR_pop (fR_pop β 3).2 2).1 α51) α51))]) (rest := []) h (k_Row_push (l := l) (g := g) (α := α51) (r := 3) (by decide) ((fR_pop β 3).1 + (f_Terms_binds (f_Terms_kind (fR_pop (fR_pop β 3).2 2).1 α51) α51))) S hlocks hno E hI kw_Terms_112 ⟨Nat.le_of_ble_eq_true rfl, Nat.le_of_ble_eq_true rfl⟩ (kv_Row (r := 3) (by decide) E hI.1) rfl hl.1 rfl (Nat.le_of_ble_eq_true rfl) d_Terms_has_161 (fun α53 ad H locs cells slots e54 h hRm hI => ?_)
                  refine lv_aload_n hx hb d_Terms_has_164 rfl (lv_at hl 4 rfl) ?_
                  refine kf_Terms_todo S E hI.1 vt_92 d_Terms_has_165 ?_
                  refine lv_aload_n hx hb d_Terms_has_168 rfl (lv_at hl 4 rfl) ?_
                  refine lv_iload hx hb d_Terms_has_169 (lv_at hl 1 rfl) ?_
                  refine kg_p (As := [.int (fR_pop (fR_pop β 3).2 2).1]) (rest := [.ref (kad g (11 + 2))]) (k_Terms_left (l := l) (g := g) (α := α53) (fR_pop (fR_pop β 3).2 2).1) S E hI.1 kw_Terms_56 ⟨Nat.le_of_ble_eq_true rfl, Nat.le_of_ble_eq_true rfl⟩ hI.room (kv_Terms E hI.1) rfl hl.1 rfl (Nat.le_of_ble_eq_true rfl) d_Terms_has_171 rfl ?_
                  refine kg_cV (As := [.int (f_Terms_left (fR_pop (fR_pop β 3).2 2).1 α53)]) (rest := []) h (k_Row_push (l := l) (g := g) (α := α53) (r := 2) (by decide) (f_Terms_left (fR_pop (fR_pop β 3).2 2).1 α53)) S hlocks hno E hI kw_Terms_112 ⟨Nat.le_of_ble_eq_true rfl, Nat.le_of_ble_eq_true rfl⟩ (kv_Row (r := 2) (by decide) E hI.1) rfl hl.1 rfl (Nat.le_of_ble_eq_true rfl) d_Terms_has_174 (fun α55 ad H locs cells slots e56 h hRm hI => ?_)
                  refine lv_aload_n hx hb d_Terms_has_177 rfl (lv_at hl 4 rfl) ?_
                  refine kf_Terms_offsets S E hI.1 vt_93 d_Terms_has_178 ?_
                  refine lv_iload hx hb d_Terms_has_181 (lv_at hl 2 rfl) ?_
                  refine kg_cV (As := [.int (fR_pop β 3).1]) (rest := []) h (k_Row_push (l := l) (g := g) (α := α55) (r := 3) (by decide) (fR_pop β 3).1) S hlocks hno E hI kw_Terms_112 ⟨Nat.le_of_ble_eq_true rfl, Nat.le_of_ble_eq_true rfl⟩ (kv_Row (r := 3) (by decide) E hI.1) rfl hl.1 rfl (Nat.le_of_ble_eq_true rfl) d_Terms_has_183 (fun α57 ad H locs cells slots e58 h hRm hI => ?_)
                  refine lv_iinc (v := (x4 + 1)) (lv' := [(4, .int (x4 + 1)), (7, .int (x3 + (fR_pop β 3).1)), (6, .int (fR_pop (fR_pop β 3).2 2).1), (5, .int (fR_pop β 3).1), (0, .ref (kad g 2)), (2, .int x2), (3, .int x3)]) hx hb d_Terms_has_186 hl (k := 3) rfl rfl (by decide) rfl (fun ls hl => ?_)
                  refine lv_goto (tgt := 35) hx hb d_Terms_has_189 (by decide) ?_
                  exact ih35 (x4 + 1) x2 x3 _ _ _ _ _ _ _ h hI (lv_sub hl [0, 4, 5, 6] rfl)
                · replace h := Eq.trans (if_pos c50).symm h
                  refine lv_aload_n hx hb d_Terms_has_121 rfl (lv_at hl 4 rfl) ?_
                  refine lv_iload hx hb d_Terms_has_122 (lv_at hl 1 rfl) ?_
                  refine kg_p (As := [.int (fR_pop (fR_pop β 3).2 2).1]) (rest := []) (k_Terms_loose (l := l) (g := g) (α := (fR_pop (fR_pop β 3).2 2).2) (fR_pop (fR_pop β 3).2 2).1) S E hI.1 kw_Terms_78 ⟨Nat.le_of_ble_eq_true rfl, Nat.le_of_ble_eq_true rfl⟩ hI.room (kv_Terms E hI.1) rfl hl.1 rfl (Nat.le_of_ble_eq_true rfl) d_Terms_has_124 rfl ?_
                  refine lv_iload hx hb d_Terms_has_127 (lv_at hl 0 rfl) ?_
                  refine lv_icmp_le (tgt := 186) hx hb d_Terms_has_129 (by decide) (fun c59 => ?_) (fun c59 => ?_)
                  · replace h := Eq.trans (if_pos c59).symm h
                    refine lv_iinc (v := (x4 + 1)) (lv' := [(4, .int (x4 + 1)), (7, .int (x3 + (fR_pop β 3).1)), (6, .int (fR_pop (fR_pop β 3).2 2).1), (5, .int (fR_pop β 3).1), (0, .ref (kad g 2)), (2, .int x2), (3, .int x3)]) hx hb d_Terms_has_186 hl (k := 3) rfl rfl (by decide) rfl (fun ls hl => ?_)
                    refine lv_goto (tgt := 35) hx hb d_Terms_has_189 (by decide) ?_
                    exact ih35 (x4 + 1) x2 x3 _ _ _ _ _ _ _ h hI (lv_sub hl [0, 4, 5, 6] rfl)
                  · replace h := Eq.trans (if_neg c59).symm h
                    refine lv_aload_n hx hb d_Terms_has_132 rfl (lv_at hl 4 rfl) ?_
                    refine kf_Terms_todo S E hI.1 vt_92 d_Terms_has_133 ?_
                    refine lv_aload_n hx hb d_Terms_has_136 rfl (lv_at hl 4 rfl) ?_
                    refine lv_iload hx hb d_Terms_has_137 (lv_at hl 1 rfl) ?_
                    refine kg_p (As := [.int (fR_pop (fR_pop β 3).2 2).1]) (rest := [.ref (kad g (11 + 2))]) (k_Terms_right (l := l) (g := g) (α := (fR_pop (fR_pop β 3).2 2).2) (fR_pop (fR_pop β 3).2 2).1) S E hI.1 kw_Terms_59 ⟨Nat.le_of_ble_eq_true rfl, Nat.le_of_ble_eq_true rfl⟩ hI.room (kv_Terms E hI.1) rfl hl.1 rfl (Nat.le_of_ble_eq_true rfl) d_Terms_has_139 rfl ?_
                    refine kg_cV (As := [.int (f_Terms_right (fR_pop (fR_pop β 3).2 2).1 (fR_pop (fR_pop β 3).2 2).2)]) (rest := []) h (k_Row_push (l := l) (g := g) (α := (fR_pop (fR_pop β 3).2 2).2) (r := 2) (by decide) (f_Terms_right (fR_pop (fR_pop β 3).2 2).1 (fR_pop (fR_pop β 3).2 2).2)) S hlocks hno E hI kw_Terms_112 ⟨Nat.le_of_ble_eq_true rfl, Nat.le_of_ble_eq_true rfl⟩ (kv_Row (r := 2) (by decide) E hI.1) rfl hl.1 rfl (Nat.le_of_ble_eq_true rfl) d_Terms_has_142 (fun α60 ad H locs cells slots e61 h hRm hI => ?_)
                    refine lv_aload_n hx hb d_Terms_has_145 rfl (lv_at hl 4 rfl) ?_
                    refine kf_Terms_offsets S E hI.1 vt_93 d_Terms_has_146 ?_
                    refine lv_iload hx hb d_Terms_has_149 (lv_at hl 2 rfl) ?_
                    refine lv_aload_n hx hb d_Terms_has_151 rfl (lv_at hl 4 rfl) ?_
                    refine lv_iload hx hb d_Terms_has_152 (lv_at hl 1 rfl) ?_
                    refine kg_p (As := [.int (fR_pop (fR_pop β 3).2 2).1]) (rest := [.int (fR_pop β 3).1, .ref (kad g (11 + 3))]) (k_Terms_kind (l := l) (g := g) (α := α60) (fR_pop (fR_pop β 3).2 2).1) S E hI.1 kw_Terms_52 ⟨Nat.le_of_ble_eq_true rfl, Nat.le_of_ble_eq_true rfl⟩ hI.room (kv_Terms E hI.1) rfl hl.1 rfl (Nat.le_of_ble_eq_true rfl) d_Terms_has_154 rfl ?_
                    refine kg_pS (As := [.int (f_Terms_kind (fR_pop (fR_pop β 3).2 2).1 α60)]) (rest := [.int (fR_pop β 3).1, .ref (kad g (11 + 3))]) (k_Terms_binds (l := l) (g := g) (α := α60) (f_Terms_kind (fR_pop (fR_pop β 3).2 2).1 α60)) S E hI.1 kw_Terms_81 ⟨Nat.le_of_ble_eq_true rfl, Nat.le_of_ble_eq_true rfl⟩ hI.room rfl hl.1 rfl (Nat.le_of_ble_eq_true rfl) d_Terms_has_157 ?_
                    refine lv_iadd hx hb d_Terms_has_160 ?_
                    refine kg_cV (As := [.int ((fR_pop β 3).1 + (f_Terms_binds (f_Terms_kind (fR_pop (fR_pop β 3).2 2).1 α60) α60))]) (rest := []) h (k_Row_push (l := l) (g := g) (α := α60) (r := 3) (by decide) ((fR_pop β 3).1 + (f_Terms_binds (f_Terms_kind (fR_pop (fR_pop β 3).2 2).1 α60) α60))) S hlocks hno E hI kw_Terms_112 ⟨Nat.le_of_ble_eq_true rfl, Nat.le_of_ble_eq_true rfl⟩ (kv_Row (r := 3) (by decide) E hI.1) rfl hl.1 rfl (Nat.le_of_ble_eq_true rfl) d_Terms_has_161 (fun α62 ad H locs cells slots e63 h hRm hI => ?_)
                    refine lv_aload_n hx hb d_Terms_has_164 rfl (lv_at hl 4 rfl) ?_
                    refine kf_Terms_todo S E hI.1 vt_92 d_Terms_has_165 ?_
                    refine lv_aload_n hx hb d_Terms_has_168 rfl (lv_at hl 4 rfl) ?_
                    refine lv_iload hx hb d_Terms_has_169 (lv_at hl 1 rfl) ?_
                    refine kg_p (As := [.int (fR_pop (fR_pop β 3).2 2).1]) (rest := [.ref (kad g (11 + 2))]) (k_Terms_left (l := l) (g := g) (α := α62) (fR_pop (fR_pop β 3).2 2).1) S E hI.1 kw_Terms_56 ⟨Nat.le_of_ble_eq_true rfl, Nat.le_of_ble_eq_true rfl⟩ hI.room (kv_Terms E hI.1) rfl hl.1 rfl (Nat.le_of_ble_eq_true rfl) d_Terms_has_171 rfl ?_
                    refine kg_cV (As := [.int (f_Terms_left (fR_pop (fR_pop β 3).2 2).1 α62)]) (rest := []) h (k_Row_push (l := l) (g := g) (α := α62) (r := 2) (by decide) (f_Terms_left (fR_pop (fR_pop β 3).2 2).1 α62)) S hlocks hno E hI kw_Terms_112 ⟨Nat.le_of_ble_eq_true rfl, Nat.le_of_ble_eq_true rfl⟩ (kv_Row (r := 2) (by decide) E hI.1) rfl hl.1 rfl (Nat.le_of_ble_eq_true rfl) d_Terms_has_174 (fun α64 ad H locs cells slots e65 h hRm hI => ?_)
                    refine lv_aload_n hx hb d_Terms_has_177 rfl (lv_at hl 4 rfl) ?_
                    refine kf_Terms_offsets S E hI.1 vt_93 d_Terms_has_178 ?_
                    refine lv_iload hx hb d_Terms_has_181 (lv_at hl 2 rfl) ?_
                    refine kg_cV (As := [.int (fR_pop β 3).1]) (rest := []) h (k_Row_push (l := l) (g := g) (α := α64) (r := 3) (by decide) (fR_pop β 3).1) S hlocks hno E hI kw_Terms_112 ⟨Nat.le_of_ble_eq_true rfl, Nat.le_of_ble_eq_true rfl⟩ (kv_Row (r := 3) (by decide) E hI.1) rfl hl.1 rfl (Nat.le_of_ble_eq_true rfl) d_Terms_has_183 (fun α66 ad H locs cells slots e67 h hRm hI => ?_)
                    refine lv_iinc (v := (x4 + 1)) (lv' := [(4, .int (x4 + 1)), (7, .int (x3 + (fR_pop β 3).1)), (6, .int (fR_pop (fR_pop β 3).2 2).1), (5, .int (fR_pop β 3).1), (0, .ref (kad g 2)), (2, .int x2), (3, .int x3)]) hx hb d_Terms_has_186 hl (k := 3) rfl rfl (by decide) rfl (fun ls hl => ?_)
                    refine lv_goto (tgt := 35) hx hb d_Terms_has_189 (by decide) ?_
                    exact ih35 (x4 + 1) x2 x3 _ _ _ _ _ _ _ h hI (lv_sub hl [0, 4, 5, 6] rfl)
            · replace h := Eq.trans (if_pos c48).symm h
              refine lv_aload_n hx hb d_Terms_has_94 rfl (lv_at hl 4 rfl) ?_
              refine lv_iload hx hb d_Terms_has_95 (lv_at hl 1 rfl) ?_
              refine kg_p (As := [.int (fR_pop (fR_pop β 3).2 2).1]) (rest := []) (k_Terms_left (l := l) (g := g) (α := (fR_pop (fR_pop β 3).2 2).2) (fR_pop (fR_pop β 3).2 2).1) S E hI.1 kw_Terms_56 ⟨Nat.le_of_ble_eq_true rfl, Nat.le_of_ble_eq_true rfl⟩ hI.room (kv_Terms E hI.1) rfl hl.1 rfl (Nat.le_of_ble_eq_true rfl) d_Terms_has_97 rfl ?_
              refine lv_iload hx hb d_Terms_has_100 (lv_at hl 0 rfl) ?_
              refine lv_icmp_ne (tgt := 107) hx hb d_Terms_has_102 (by decide) (fun c68 => ?_) (fun c68 => ?_)
              · replace h := Eq.trans (if_neg c68).symm h
                refine lv_aload_n hx hb d_Terms_has_107 rfl (lv_at hl 4 rfl) ?_
                refine lv_iload hx hb d_Terms_has_108 (lv_at hl 1 rfl) ?_
                refine kg_p (As := [.int (fR_pop (fR_pop β 3).2 2).1]) (rest := []) (k_Terms_kind (l := l) (g := g) (α := (fR_pop (fR_pop β 3).2 2).2) (fR_pop (fR_pop β 3).2 2).1) S E hI.1 kw_Terms_52 ⟨Nat.le_of_ble_eq_true rfl, Nat.le_of_ble_eq_true rfl⟩ hI.room (kv_Terms E hI.1) rfl hl.1 rfl (Nat.le_of_ble_eq_true rfl) d_Terms_has_110 rfl ?_
                refine lv_iconst (v := 5) hx hb d_Terms_has_113 (by decide) ?_
                refine lv_icmp_lt (tgt := 186) hx hb d_Terms_has_114 (by decide) (fun c69 => ?_) (fun c69 => ?_)
                · replace h := Eq.trans (if_pos c69).symm h
                  refine lv_iinc (v := (x4 + 1)) (lv' := [(4, .int (x4 + 1)), (7, .int (x3 + (fR_pop β 3).1)), (6, .int (fR_pop (fR_pop β 3).2 2).1), (5, .int (fR_pop β 3).1), (0, .ref (kad g 2)), (2, .int x2), (3, .int x3)]) hx hb d_Terms_has_186 hl (k := 3) rfl rfl (by decide) rfl (fun ls hl => ?_)
                  refine lv_goto (tgt := 35) hx hb d_Terms_has_189 (by decide) ?_
                  exact ih35 (x4 + 1) x2 x3 _ _ _ _ _ _ _ h hI (lv_sub hl [0, 4, 5, 6] rfl)
                · replace h := Eq.trans (if_neg c69).symm h
                  refine lv_iload_n hx hb d_Terms_has_117 rfl (lv_at hl 5 rfl) ?_
                  refine lv_if_ne (tgt := 132) hx hb d_Terms_has_118 (by decide) (fun c70 => ?_) (fun c70 => ?_)
                  · replace h := Eq.trans (if_neg c70).symm h
                    refine lv_aload_n hx hb d_Terms_has_132 rfl (lv_at hl 4 rfl) ?_
                    refine kf_Terms_todo S E hI.1 vt_92 d_Terms_has_133 ?_
                    refine lv_aload_n hx hb d_Terms_has_136 rfl (lv_at hl 4 rfl) ?_
                    refine lv_iload hx hb d_Terms_has_137 (lv_at hl 1 rfl) ?_
                    refine kg_p (As := [.int (fR_pop (fR_pop β 3).2 2).1]) (rest := [.ref (kad g (11 + 2))]) (k_Terms_right (l := l) (g := g) (α := (fR_pop (fR_pop β 3).2 2).2) (fR_pop (fR_pop β 3).2 2).1) S E hI.1 kw_Terms_59 ⟨Nat.le_of_ble_eq_true rfl, Nat.le_of_ble_eq_true rfl⟩ hI.room (kv_Terms E hI.1) rfl hl.1 rfl (Nat.le_of_ble_eq_true rfl) d_Terms_has_139 rfl ?_
                    refine kg_cV (As := [.int (f_Terms_right (fR_pop (fR_pop β 3).2 2).1 (fR_pop (fR_pop β 3).2 2).2)]) (rest := []) h (k_Row_push (l := l) (g := g) (α := (fR_pop (fR_pop β 3).2 2).2) (r := 2) (by decide) (f_Terms_right (fR_pop (fR_pop β 3).2 2).1 (fR_pop (fR_pop β 3).2 2).2)) S hlocks hno E hI kw_Terms_112 ⟨Nat.le_of_ble_eq_true rfl, Nat.le_of_ble_eq_true rfl⟩ (kv_Row (r := 2) (by decide) E hI.1) rfl hl.1 rfl (Nat.le_of_ble_eq_true rfl) d_Terms_has_142 (fun α71 ad H locs cells slots e72 h hRm hI => ?_)
                    refine lv_aload_n hx hb d_Terms_has_145 rfl (lv_at hl 4 rfl) ?_
                    refine kf_Terms_offsets S E hI.1 vt_93 d_Terms_has_146 ?_
                    refine lv_iload hx hb d_Terms_has_149 (lv_at hl 2 rfl) ?_
                    refine lv_aload_n hx hb d_Terms_has_151 rfl (lv_at hl 4 rfl) ?_
                    refine lv_iload hx hb d_Terms_has_152 (lv_at hl 1 rfl) ?_
                    refine kg_p (As := [.int (fR_pop (fR_pop β 3).2 2).1]) (rest := [.int (fR_pop β 3).1, .ref (kad g (11 + 3))]) (k_Terms_kind (l := l) (g := g) (α := α71) (fR_pop (fR_pop β 3).2 2).1) S E hI.1 kw_Terms_52 ⟨Nat.le_of_ble_eq_true rfl, Nat.le_of_ble_eq_true rfl⟩ hI.room (kv_Terms E hI.1) rfl hl.1 rfl (Nat.le_of_ble_eq_true rfl) d_Terms_has_154 rfl ?_
                    refine kg_pS (As := [.int (f_Terms_kind (fR_pop (fR_pop β 3).2 2).1 α71)]) (rest := [.int (fR_pop β 3).1, .ref (kad g (11 + 3))]) (k_Terms_binds (l := l) (g := g) (α := α71) (f_Terms_kind (fR_pop (fR_pop β 3).2 2).1 α71)) S E hI.1 kw_Terms_81 ⟨Nat.le_of_ble_eq_true rfl, Nat.le_of_ble_eq_true rfl⟩ hI.room rfl hl.1 rfl (Nat.le_of_ble_eq_true rfl) d_Terms_has_157 ?_
                    refine lv_iadd hx hb d_Terms_has_160 ?_
                    refine kg_cV (As := [.int ((fR_pop β 3).1 + (f_Terms_binds (f_Terms_kind (fR_pop (fR_pop β 3).2 2).1 α71) α71))]) (rest := []) h (k_Row_push (l := l) (g := g) (α := α71) (r := 3) (by decide) ((fR_pop β 3).1 + (f_Terms_binds (f_Terms_kind (fR_pop (fR_pop β 3).2 2).1 α71) α71))) S hlocks hno E hI kw_Terms_112 ⟨Nat.le_of_ble_eq_true rfl, Nat.le_of_ble_eq_true rfl⟩ (kv_Row (r := 3) (by decide) E hI.1) rfl hl.1 rfl (Nat.le_of_ble_eq_true rfl) d_Terms_has_161 (fun α73 ad H locs cells slots e74 h hRm hI => ?_)
                    refine lv_aload_n hx hb d_Terms_has_164 rfl (lv_at hl 4 rfl) ?_
                    refine kf_Terms_todo S E hI.1 vt_92 d_Terms_has_165 ?_
                    refine lv_aload_n hx hb d_Terms_has_168 rfl (lv_at hl 4 rfl) ?_
                    refine lv_iload hx hb d_Terms_has_169 (lv_at hl 1 rfl) ?_
                    refine kg_p (As := [.int (fR_pop (fR_pop β 3).2 2).1]) (rest := [.ref (kad g (11 + 2))]) (k_Terms_left (l := l) (g := g) (α := α73) (fR_pop (fR_pop β 3).2 2).1) S E hI.1 kw_Terms_56 ⟨Nat.le_of_ble_eq_true rfl, Nat.le_of_ble_eq_true rfl⟩ hI.room (kv_Terms E hI.1) rfl hl.1 rfl (Nat.le_of_ble_eq_true rfl) d_Terms_has_171 rfl ?_
                    refine kg_cV (As := [.int (f_Terms_left (fR_pop (fR_pop β 3).2 2).1 α73)]) (rest := []) h (k_Row_push (l := l) (g := g) (α := α73) (r := 2) (by decide) (f_Terms_left (fR_pop (fR_pop β 3).2 2).1 α73)) S hlocks hno E hI kw_Terms_112 ⟨Nat.le_of_ble_eq_true rfl, Nat.le_of_ble_eq_true rfl⟩ (kv_Row (r := 2) (by decide) E hI.1) rfl hl.1 rfl (Nat.le_of_ble_eq_true rfl) d_Terms_has_174 (fun α75 ad H locs cells slots e76 h hRm hI => ?_)
                    refine lv_aload_n hx hb d_Terms_has_177 rfl (lv_at hl 4 rfl) ?_
                    refine kf_Terms_offsets S E hI.1 vt_93 d_Terms_has_178 ?_
                    refine lv_iload hx hb d_Terms_has_181 (lv_at hl 2 rfl) ?_
                    refine kg_cV (As := [.int (fR_pop β 3).1]) (rest := []) h (k_Row_push (l := l) (g := g) (α := α75) (r := 3) (by decide) (fR_pop β 3).1) S hlocks hno E hI kw_Terms_112 ⟨Nat.le_of_ble_eq_true rfl, Nat.le_of_ble_eq_true rfl⟩ (kv_Row (r := 3) (by decide) E hI.1) rfl hl.1 rfl (Nat.le_of_ble_eq_true rfl) d_Terms_has_183 (fun α77 ad H locs cells slots e78 h hRm hI => ?_)
                    refine lv_iinc (v := (x4 + 1)) (lv' := [(4, .int (x4 + 1)), (7, .int (x3 + (fR_pop β 3).1)), (6, .int (fR_pop (fR_pop β 3).2 2).1), (5, .int (fR_pop β 3).1), (0, .ref (kad g 2)), (2, .int x2), (3, .int x3)]) hx hb d_Terms_has_186 hl (k := 3) rfl rfl (by decide) rfl (fun ls hl => ?_)
                    refine lv_goto (tgt := 35) hx hb d_Terms_has_189 (by decide) ?_
                    exact ih35 (x4 + 1) x2 x3 _ _ _ _ _ _ _ h hI (lv_sub hl [0, 4, 5, 6] rfl)
                  · replace h := Eq.trans (if_pos c70).symm h
                    refine lv_aload_n hx hb d_Terms_has_121 rfl (lv_at hl 4 rfl) ?_
                    refine lv_iload hx hb d_Terms_has_122 (lv_at hl 1 rfl) ?_
                    refine kg_p (As := [.int (fR_pop (fR_pop β 3).2 2).1]) (rest := []) (k_Terms_loose (l := l) (g := g) (α := (fR_pop (fR_pop β 3).2 2).2) (fR_pop (fR_pop β 3).2 2).1) S E hI.1 kw_Terms_78 ⟨Nat.le_of_ble_eq_true rfl, Nat.le_of_ble_eq_true rfl⟩ hI.room (kv_Terms E hI.1) rfl hl.1 rfl (Nat.le_of_ble_eq_true rfl) d_Terms_has_124 rfl ?_
                    refine lv_iload hx hb d_Terms_has_127 (lv_at hl 0 rfl) ?_
                    refine lv_icmp_le (tgt := 186) hx hb d_Terms_has_129 (by decide) (fun c79 => ?_) (fun c79 => ?_)
                    · replace h := Eq.trans (if_pos c79).symm h
                      refine lv_iinc (v := (x4 + 1)) (lv' := [(4, .int (x4 + 1)), (7, .int (x3 + (fR_pop β 3).1)), (6, .int (fR_pop (fR_pop β 3).2 2).1), (5, .int (fR_pop β 3).1), (0, .ref (kad g 2)), (2, .int x2), (3, .int x3)]) hx hb d_Terms_has_186 hl (k := 3) rfl rfl (by decide) rfl (fun ls hl => ?_)
                      refine lv_goto (tgt := 35) hx hb d_Terms_has_189 (by decide) ?_
                      exact ih35 (x4 + 1) x2 x3 _ _ _ _ _ _ _ h hI (lv_sub hl [0, 4, 5, 6] rfl)
                    · replace h := Eq.trans (if_neg c79).symm h
                      refine lv_aload_n hx hb d_Terms_has_132 rfl (lv_at hl 4 rfl) ?_
                      refine kf_Terms_todo S E hI.1 vt_92 d_Terms_has_133 ?_
                      refine lv_aload_n hx hb d_Terms_has_136 rfl (lv_at hl 4 rfl) ?_
                      refine lv_iload hx hb d_Terms_has_137 (lv_at hl 1 rfl) ?_
                      refine kg_p (As := [.int (fR_pop (fR_pop β 3).2 2).1]) (rest := [.ref (kad g (11 + 2))]) (k_Terms_right (l := l) (g := g) (α := (fR_pop (fR_pop β 3).2 2).2) (fR_pop (fR_pop β 3).2 2).1) S E hI.1 kw_Terms_59 ⟨Nat.le_of_ble_eq_true rfl, Nat.le_of_ble_eq_true rfl⟩ hI.room (kv_Terms E hI.1) rfl hl.1 rfl (Nat.le_of_ble_eq_true rfl) d_Terms_has_139 rfl ?_
                      refine kg_cV (As := [.int (f_Terms_right (fR_pop (fR_pop β 3).2 2).1 (fR_pop (fR_pop β 3).2 2).2)]) (rest := []) h (k_Row_push (l := l) (g := g) (α := (fR_pop (fR_pop β 3).2 2).2) (r := 2) (by decide) (f_Terms_right (fR_pop (fR_pop β 3).2 2).1 (fR_pop (fR_pop β 3).2 2).2)) S hlocks hno E hI kw_Terms_112 ⟨Nat.le_of_ble_eq_true rfl, Nat.le_of_ble_eq_true rfl⟩ (kv_Row (r := 2) (by decide) E hI.1) rfl hl.1 rfl (Nat.le_of_ble_eq_true rfl) d_Terms_has_142 (fun α80 ad H locs cells slots e81 h hRm hI => ?_)
                      refine lv_aload_n hx hb d_Terms_has_145 rfl (lv_at hl 4 rfl) ?_
                      refine kf_Terms_offsets S E hI.1 vt_93 d_Terms_has_146 ?_
                      refine lv_iload hx hb d_Terms_has_149 (lv_at hl 2 rfl) ?_
                      refine lv_aload_n hx hb d_Terms_has_151 rfl (lv_at hl 4 rfl) ?_
                      refine lv_iload hx hb d_Terms_has_152 (lv_at hl 1 rfl) ?_
                      refine kg_p (As := [.int (fR_pop (fR_pop β 3).2 2).1]) (rest := [.int (fR_pop β 3).1, .ref (kad g (11 + 3))]) (k_Terms_kind (l := l) (g := g) (α := α80) (fR_pop (fR_pop β 3).2 2).1) S E hI.1 kw_Terms_52 ⟨Nat.le_of_ble_eq_true rfl, Nat.le_of_ble_eq_true rfl⟩ hI.room (kv_Terms E hI.1) rfl hl.1 rfl (Nat.le_of_ble_eq_true rfl) d_Terms_has_154 rfl ?_
                      refine kg_pS (As := [.int (f_Terms_kind (fR_pop (fR_pop β 3).2 2).1 α80)]) (rest := [.int (fR_pop β 3).1, .ref (kad g (11 + 3))]) (k_Terms_binds (l := l) (g := g) (α := α80) (f_Terms_kind (fR_pop (fR_pop β 3).2 2).1 α80)) S E hI.1 kw_Terms_81 ⟨Nat.le_of_ble_eq_true rfl, Nat.le_of_ble_eq_true rfl⟩ hI.room rfl hl.1 rfl (Nat.le_of_ble_eq_true rfl) d_Terms_has_157 ?_
                      refine lv_iadd hx hb d_Terms_has_160 ?_
                      refine kg_cV (As := [.int ((fR_pop β 3).1 + (f_Terms_binds (f_Terms_kind (fR_pop (fR_pop β 3).2 2).1 α80) α80))]) (rest := []) h (k_Row_push (l := l) (g := g) (α := α80) (r := 3) (by decide) ((fR_pop β 3).1 + (f_Terms_binds (f_Terms_kind (fR_pop (fR_pop β 3).2 2).1 α80) α80))) S hlocks hno E hI kw_Terms_112 ⟨Nat.le_of_ble_eq_true rfl, Nat.le_of_ble_eq_true rfl⟩ (kv_Row (r := 3) (by decide) E hI.1) rfl hl.1 rfl (Nat.le_of_ble_eq_true rfl) d_Terms_has_161 (fun α82 ad H locs cells slots e83 h hRm hI => ?_)
                      refine lv_aload_n hx hb d_Terms_has_164 rfl (lv_at hl 4 rfl) ?_
                      refine kf_Terms_todo S E hI.1 vt_92 d_Terms_has_165 ?_
                      refine lv_aload_n hx hb d_Terms_has_168 rfl (lv_at hl 4 rfl) ?_
                      refine lv_iload hx hb d_Terms_has_169 (lv_at hl 1 rfl) ?_
                      refine kg_p (As := [.int (fR_pop (fR_pop β 3).2 2).1]) (rest := [.ref (kad g (11 + 2))]) (k_Terms_left (l := l) (g := g) (α := α82) (fR_pop (fR_pop β 3).2 2).1) S E hI.1 kw_Terms_56 ⟨Nat.le_of_ble_eq_true rfl, Nat.le_of_ble_eq_true rfl⟩ hI.room (kv_Terms E hI.1) rfl hl.1 rfl (Nat.le_of_ble_eq_true rfl) d_Terms_has_171 rfl ?_
                      refine kg_cV (As := [.int (f_Terms_left (fR_pop (fR_pop β 3).2 2).1 α82)]) (rest := []) h (k_Row_push (l := l) (g := g) (α := α82) (r := 2) (by decide) (f_Terms_left (fR_pop (fR_pop β 3).2 2).1 α82)) S hlocks hno E hI kw_Terms_112 ⟨Nat.le_of_ble_eq_true rfl, Nat.le_of_ble_eq_true rfl⟩ (kv_Row (r := 2) (by decide) E hI.1) rfl hl.1 rfl (Nat.le_of_ble_eq_true rfl) d_Terms_has_174 (fun α84 ad H locs cells slots e85 h hRm hI => ?_)
                      refine lv_aload_n hx hb d_Terms_has_177 rfl (lv_at hl 4 rfl) ?_
                      refine kf_Terms_offsets S E hI.1 vt_93 d_Terms_has_178 ?_
                      refine lv_iload hx hb d_Terms_has_181 (lv_at hl 2 rfl) ?_
                      refine kg_cV (As := [.int (fR_pop β 3).1]) (rest := []) h (k_Row_push (l := l) (g := g) (α := α84) (r := 3) (by decide) (fR_pop β 3).1) S hlocks hno E hI kw_Terms_112 ⟨Nat.le_of_ble_eq_true rfl, Nat.le_of_ble_eq_true rfl⟩ (kv_Row (r := 3) (by decide) E hI.1) rfl hl.1 rfl (Nat.le_of_ble_eq_true rfl) d_Terms_has_183 (fun α86 ad H locs cells slots e87 h hRm hI => ?_)
                      refine lv_iinc (v := (x4 + 1)) (lv' := [(4, .int (x4 + 1)), (7, .int (x3 + (fR_pop β 3).1)), (6, .int (fR_pop (fR_pop β 3).2 2).1), (5, .int (fR_pop β 3).1), (0, .ref (kad g 2)), (2, .int x2), (3, .int x3)]) hx hb d_Terms_has_186 hl (k := 3) rfl rfl (by decide) rfl (fun ls hl => ?_)
                      refine lv_goto (tgt := 35) hx hb d_Terms_has_189 (by decide) ?_
                      exact ih35 (x4 + 1) x2 x3 _ _ _ _ _ _ _ h hI (lv_sub hl [0, 4, 5, 6] rfl)
              · replace h := Eq.trans (if_pos c68).symm h
                refine lv_iconst (v := 1) hx hb d_Terms_has_105 (by decide) ?_
                exact kc_iret (w := 1) hx hb hr (by decide) hlocks E hI h d_Terms_has_106
  exact L35 N 0 a2 a3 _ _ _ _ _ _ _ h hI (lv_sub hl [0, 1, 3, 4] rfl)
