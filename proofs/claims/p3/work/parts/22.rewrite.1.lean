def f_Terms_isUntouched (a1 : Int32) (a2 : Int32) (a3 : Int32) (a4 : Int32) (α : kS) : Int32 := if a1 = 5 then (0) else (if a1 = 2 then (if a3 < (f_Terms_free a2 α) then (0) else (1)) else (if a4 < (f_Terms_loose a2 α) then (0) else (1)))
set_option maxHeartbeats 4000000 in
set_option maxRecDepth 100000 in
theorem k_Terms_isUntouched {l : Launch} {g : kG} {α : kS} (a1 : Int32) (a2 : Int32) (a3 : Int32) (a4 : Int32)  : kV l g y_Terms_isUntouched b_Terms_isUntouched 5 (some .boolean) 2 22 [.ref (kad g 2), .int a1, .int a2, .int a3, .int a4] α (f_Terms_isUntouched a1 a2 a3 a4 α) := by
  generalize h : f_Terms_isUntouched a1 a2 a3 a4 α = x
  unfold f_Terms_isUntouched at h
  refine kv_ofW (by decide) (fun A ad p e s m args below meth c S hr hlocks hargs E hJ => ?_)
  have hx := S.1
  have hb := S.2.1
  have hown := S.2.2.2.1
  have hT := S.2.2.2.2
  subst hargs
  have hl := lv_entry ([.ref (kad g 2), .int a1, .int a2, .int a3, .int a4]) (n := 5) (Nat.le_of_ble_eq_true rfl)
  rw [lg_entry_eq]
  generalize (lg_sl ([.ref (kad g 2), .int a1, .int a2, .int a3, .int a4]) ++ List.replicate (5 - (lg_sl ([.ref (kad g 2), .int a1, .int a2, .int a3, .int a4])).length) Slot.unset).toArray = ls at hl ⊢
  have hl : lv_has ls 5 [(0, .ref (kad g 2)), (1, .int a1), (2, .int a2), (3, .int a3), (4, .int a4)] := hl
  refine lv_iload_n hx hb d_Terms_isUntouched_0 rfl (lv_at hl 1 rfl) ?_
  refine lv_iconst (v := 5) hx hb d_Terms_isUntouched_1 (by decide) ?_
  refine lv_icmp_ne (tgt := 7) hx hb d_Terms_isUntouched_2 (by decide) (fun c1 => ?_) (fun c1 => ?_)
  · replace h := Eq.trans (if_neg c1).symm h
    refine lv_iload_n hx hb d_Terms_isUntouched_7 rfl (lv_at hl 1 rfl) ?_
    refine lv_iconst (v := 2) hx hb d_Terms_isUntouched_8 (by decide) ?_
    refine lv_icmp_ne (tgt := 29) hx hb d_Terms_isUntouched_9 (by decide) (fun c2 => ?_) (fun c2 => ?_)
    · replace h := Eq.trans (if_neg c2).symm h
      refine lv_aload_n hx hb d_Terms_isUntouched_29 rfl (lv_at hl 0 rfl) ?_
      refine lv_iload_n hx hb d_Terms_isUntouched_30 rfl (lv_at hl 2 rfl) ?_
      refine kg_p (As := [.int a2]) (rest := []) (k_Terms_loose (l := l) (g := g) (α := α) a2) S E hJ kw_Terms_78 ⟨Nat.le_of_ble_eq_true rfl, Nat.le_of_ble_eq_true rfl⟩ ⟨Nat.le_refl _, Nat.le_refl _⟩ (kv_Terms E hJ) rfl hl.1 rfl (Nat.le_of_ble_eq_true rfl) d_Terms_isUntouched_31 rfl ?_
      refine lv_iload hx hb d_Terms_isUntouched_34 (lv_at hl 4 rfl) ?_
      refine lv_icmp_gt (tgt := 43) hx hb d_Terms_isUntouched_36 (by decide) (fun c3 => ?_) (fun c3 => ?_)
      · replace h := Eq.trans (if_pos c3).symm h
        refine lv_iconst (v := 0) hx hb d_Terms_isUntouched_43 (by decide) ?_
        exact kv_iret (w := 0) hx hb hr (by decide) hlocks h d_Terms_isUntouched_44
      · replace h := Eq.trans (if_neg c3).symm h
        refine lv_iconst (v := 1) hx hb d_Terms_isUntouched_39 (by decide) ?_
        refine lv_goto (tgt := 44) hx hb d_Terms_isUntouched_40 (by decide) ?_
        exact kv_iret (w := 1) hx hb hr (by decide) hlocks h d_Terms_isUntouched_44
    · replace h := Eq.trans (if_pos c2).symm h
      refine lv_aload_n hx hb d_Terms_isUntouched_12 rfl (lv_at hl 0 rfl) ?_
      refine lv_iload_n hx hb d_Terms_isUntouched_13 rfl (lv_at hl 2 rfl) ?_
      refine kg_p (As := [.int a2]) (rest := []) (k_Terms_free (l := l) (g := g) (α := α) a2) S E hJ kw_Terms_84 ⟨Nat.le_of_ble_eq_true rfl, Nat.le_of_ble_eq_true rfl⟩ ⟨Nat.le_refl _, Nat.le_refl _⟩ (kv_Terms E hJ) rfl hl.1 rfl (Nat.le_of_ble_eq_true rfl) d_Terms_isUntouched_14 rfl ?_
      refine lv_iload_n hx hb d_Terms_isUntouched_17 rfl (lv_at hl 3 rfl) ?_
      refine lv_icmp_gt (tgt := 25) hx hb d_Terms_isUntouched_18 (by decide) (fun c4 => ?_) (fun c4 => ?_)
      · replace h := Eq.trans (if_pos c4).symm h
        refine lv_iconst (v := 0) hx hb d_Terms_isUntouched_25 (by decide) ?_
        refine lv_goto (tgt := 44) hx hb d_Terms_isUntouched_26 (by decide) ?_
        exact kv_iret (w := 0) hx hb hr (by decide) hlocks h d_Terms_isUntouched_44
      · replace h := Eq.trans (if_neg c4).symm h
        refine lv_iconst (v := 1) hx hb d_Terms_isUntouched_21 (by decide) ?_
        refine lv_goto (tgt := 44) hx hb d_Terms_isUntouched_22 (by decide) ?_
        exact kv_iret (w := 1) hx hb hr (by decide) hlocks h d_Terms_isUntouched_44
  · replace h := Eq.trans (if_pos c1).symm h
    refine lv_iconst (v := 0) hx hb d_Terms_isUntouched_5 (by decide) ?_
    exact kv_iret (w := 0) hx hb hr (by decide) hlocks h d_Terms_isUntouched_6
def f_Terms_changedName (a1 : Int32) (a2 : Int32) (a3 : Int32) (a4 : Int32) (α : kS) : Int32 := if a1 = 2 then (a4) else (if a1 = 3 then (((f_Terms_left a2 α) + a3)) else (if a1 = 4 then ((((a3 - 1) - (f_Terms_left a2 α)) + a4)) else (if (f_Terms_kind a2 α) = 2 then (if (f_Terms_left a2 α) = 101 then (a3) else ((f_Terms_left a2 α))) else ((f_Terms_left a2 α)))))
set_option maxHeartbeats 4000000 in
set_option maxRecDepth 100000 in
theorem k_Terms_changedName {l : Launch} {g : kG} {α : kS} (a1 : Int32) (a2 : Int32) (a3 : Int32) (a4 : Int32)  : kV l g y_Terms_changedName b_Terms_changedName 6 (some .int) 2 22 [.ref (kad g 2), .int a1, .int a2, .int a3, .int a4] α (f_Terms_changedName a1 a2 a3 a4 α) := by
  generalize h : f_Terms_changedName a1 a2 a3 a4 α = x
  unfold f_Terms_changedName at h
  refine kv_ofW (by decide) (fun A ad p e s m args below meth c S hr hlocks hargs E hJ => ?_)
  have hx := S.1
  have hb := S.2.1
  have hown := S.2.2.2.1
  have hT := S.2.2.2.2
  subst hargs
  have hl := lv_entry ([.ref (kad g 2), .int a1, .int a2, .int a3, .int a4]) (n := 6) (Nat.le_of_ble_eq_true rfl)
  rw [lg_entry_eq]
  generalize (lg_sl ([.ref (kad g 2), .int a1, .int a2, .int a3, .int a4]) ++ List.replicate (6 - (lg_sl ([.ref (kad g 2), .int a1, .int a2, .int a3, .int a4])).length) Slot.unset).toArray = ls at hl ⊢
  have hl : lv_has ls 6 [(0, .ref (kad g 2)), (1, .int a1), (2, .int a2), (3, .int a3), (4, .int a4)] := hl
  refine lv_aload_n hx hb d_Terms_changedName_0 rfl (lv_at hl 0 rfl) ?_
  refine lv_iload_n hx hb d_Terms_changedName_1 rfl (lv_at hl 2 rfl) ?_
  refine kg_p (As := [.int a2]) (rest := []) (k_Terms_left (l := l) (g := g) (α := α) a2) S E hJ kw_Terms_56 ⟨Nat.le_of_ble_eq_true rfl, Nat.le_of_ble_eq_true rfl⟩ ⟨Nat.le_refl _, Nat.le_refl _⟩ (kv_Terms E hJ) rfl hl.1 rfl (Nat.le_of_ble_eq_true rfl) d_Terms_changedName_2 rfl ?_
  refine lv_istore (lv' := [(5, .int (f_Terms_left a2 α)), (0, .ref (kad g 2)), (1, .int a1), (2, .int a2), (3, .int a3), (4, .int a4)]) hx hb d_Terms_changedName_5 hl (by decide) rfl (fun ls hl => ?_)
  refine lv_iload_n hx hb d_Terms_changedName_7 rfl (lv_at hl 2 rfl) ?_
  by_cases c1 : a1 = 2
  · replace h := Eq.trans (if_pos c1).symm h
    refine lv_tableIn (off := 28) (tgt := 36) hx hb d_Terms_changedName_8 (by rw [c1]; decide) (by rw [c1]; decide) (by rw [c1]; rfl) (by decide) ?_
    refine lv_iload hx hb d_Terms_changedName_36 (lv_at hl 5 rfl) ?_
    exact kv_iret (w := a4) hx hb hr rfl hlocks h d_Terms_changedName_38
  · replace h := Eq.trans (if_neg c1).symm h
    have nc1 := ksw (z := 2) rfl c1
    by_cases c2 : a1 = 3
    · replace h := Eq.trans (if_pos c2).symm h
      refine lv_tableIn (off := 31) (tgt := 39) hx hb d_Terms_changedName_8 (by rw [c2]; decide) (by rw [c2]; decide) (by rw [c2]; rfl) (by decide) ?_
      refine lv_iload hx hb d_Terms_changedName_39 (lv_at hl 0 rfl) ?_
      refine lv_iload_n hx hb d_Terms_changedName_41 rfl (lv_at hl 4 rfl) ?_
      refine lv_iadd hx hb d_Terms_changedName_42 ?_
      exact kv_iret (w := ((f_Terms_left a2 α) + a3)) hx hb hr rfl hlocks h d_Terms_changedName_43
    · replace h := Eq.trans (if_neg c2).symm h
      have nc2 := ksw (z := 3) rfl c2
      by_cases c3 : a1 = 4
      · replace h := Eq.trans (if_pos c3).symm h
        refine lv_tableIn (off := 36) (tgt := 44) hx hb d_Terms_changedName_8 (by rw [c3]; decide) (by rw [c3]; decide) (by rw [c3]; rfl) (by decide) ?_
        refine lv_iload_n hx hb d_Terms_changedName_44 rfl (lv_at hl 4 rfl) ?_
        refine lv_iconst (v := 1) hx hb d_Terms_changedName_45 (by decide) ?_
        refine lv_isub hx hb d_Terms_changedName_46 ?_
        refine lv_iload hx hb d_Terms_changedName_47 (lv_at hl 0 rfl) ?_
        refine lv_isub hx hb d_Terms_changedName_49 ?_
        refine lv_iload hx hb d_Terms_changedName_50 (lv_at hl 5 rfl) ?_
        refine lv_iadd hx hb d_Terms_changedName_52 ?_
        exact kv_iret (w := (((a3 - 1) - (f_Terms_left a2 α)) + a4)) hx hb hr rfl hlocks h d_Terms_changedName_53
      · replace h := Eq.trans (if_neg c3).symm h
        have nc3 := ksw (z := 4) rfl c3
        refine lv_tableOut (tgt := 54) hx hb d_Terms_changedName_8 (by omega) (by decide) ?_
        refine lv_aload_n hx hb d_Terms_changedName_54 rfl (lv_at hl 1 rfl) ?_
        refine lv_iload_n hx hb d_Terms_changedName_55 rfl (lv_at hl 3 rfl) ?_
        refine kg_p (As := [.int a2]) (rest := []) (k_Terms_kind (l := l) (g := g) (α := α) a2) S E hJ kw_Terms_52 ⟨Nat.le_of_ble_eq_true rfl, Nat.le_of_ble_eq_true rfl⟩ ⟨Nat.le_refl _, Nat.le_refl _⟩ (kv_Terms E hJ) rfl hl.1 rfl (Nat.le_of_ble_eq_true rfl) d_Terms_changedName_56 rfl ?_
        refine lv_iconst (v := 2) hx hb d_Terms_changedName_59 (by decide) ?_
        refine lv_icmp_ne (tgt := 74) hx hb d_Terms_changedName_60 (by decide) (fun c4 => ?_) (fun c4 => ?_)
        · replace h := Eq.trans (if_neg c4).symm h
          refine lv_iload hx hb d_Terms_changedName_74 (lv_at hl 0 rfl) ?_
          exact kv_iret (w := (f_Terms_left a2 α)) hx hb hr rfl hlocks h d_Terms_changedName_76
        · replace h := Eq.trans (if_pos c4).symm h
          refine lv_iload hx hb d_Terms_changedName_63 (lv_at hl 0 rfl) ?_
          refine lv_bipush (v := 101) hx hb d_Terms_changedName_65 (by decide) ?_
          refine lv_icmp_ne (tgt := 74) hx hb d_Terms_changedName_67 (by decide) (fun c5 => ?_) (fun c5 => ?_)
          · replace h := Eq.trans (if_neg c5).symm h
            refine lv_iload hx hb d_Terms_changedName_74 (lv_at hl 0 rfl) ?_
            exact kv_iret (w := (f_Terms_left a2 α)) hx hb hr rfl hlocks h d_Terms_changedName_76
          · replace h := Eq.trans (if_pos c5).symm h
            refine lv_iload_n hx hb d_Terms_changedName_70 rfl (lv_at hl 4 rfl) ?_
            refine lv_goto (tgt := 76) hx hb d_Terms_changedName_71 (by decide) ?_
            exact kv_iret (w := a3) hx hb hr rfl hlocks h d_Terms_changedName_76
def f_Terms_changedKind (a1 : Int32) (a2 : Int32) (α : kS) : Int32 := if a1 = 2 then (0) else (if a1 = 4 then (1) else (a2))
set_option maxHeartbeats 4000000 in
set_option maxRecDepth 100000 in
theorem k_Terms_changedKind {l : Launch} {g : kG} {α : kS} (a1 : Int32) (a2 : Int32)  : kV l g y_Terms_changedKind b_Terms_changedKind 2 (some .int) 1 1 [.int a1, .int a2] α (f_Terms_changedKind a1 a2 α) := by
  generalize h : f_Terms_changedKind a1 a2 α = x
  unfold f_Terms_changedKind at h
  refine kv_ofW (by decide) (fun A ad p e s m args below meth c S hr hlocks hargs E hJ => ?_)
  have hx := S.1
  have hb := S.2.1
  have hown := S.2.2.2.1
  have hT := S.2.2.2.2
  subst hargs
  have hl := lv_entry ([.int a1, .int a2]) (n := 2) (Nat.le_of_ble_eq_true rfl)
  rw [lg_entry_eq]
  generalize (lg_sl ([.int a1, .int a2]) ++ List.replicate (2 - (lg_sl ([.int a1, .int a2])).length) Slot.unset).toArray = ls at hl ⊢
  have hl : lv_has ls 2 [(0, .int a1), (1, .int a2)] := hl
  refine lv_iload_n hx hb d_Terms_changedKind_0 rfl (lv_at hl 0 rfl) ?_
  refine lv_iconst (v := 2) hx hb d_Terms_changedKind_1 (by decide) ?_
  refine lv_icmp_ne (tgt := 7) hx hb d_Terms_changedKind_2 (by decide) (fun c1 => ?_) (fun c1 => ?_)
  · replace h := Eq.trans (if_neg c1).symm h
    refine lv_iload_n hx hb d_Terms_changedKind_7 rfl (lv_at hl 0 rfl) ?_
    refine lv_iconst (v := 4) hx hb d_Terms_changedKind_8 (by decide) ?_
    refine lv_icmp_ne (tgt := 16) hx hb d_Terms_changedKind_9 (by decide) (fun c2 => ?_) (fun c2 => ?_)
    · replace h := Eq.trans (if_neg c2).symm h
      refine lv_iload_n hx hb d_Terms_changedKind_16 rfl (lv_at hl 1 rfl) ?_
      exact kv_iret (w := a2) hx hb hr rfl hlocks h d_Terms_changedKind_17
    · replace h := Eq.trans (if_pos c2).symm h
      refine lv_iconst (v := 1) hx hb d_Terms_changedKind_12 (by decide) ?_
      refine lv_goto (tgt := 17) hx hb d_Terms_changedKind_13 (by decide) ?_
      exact kv_iret (w := 1) hx hb hr rfl hlocks h d_Terms_changedKind_17
  · replace h := Eq.trans (if_pos c1).symm h
    refine lv_iconst (v := 0) hx hb d_Terms_changedKind_5 (by decide) ?_
    exact kv_iret (w := 0) hx hb hr rfl hlocks h d_Terms_changedKind_6
theorem kw_Terms_109 : kWv "FamilyKernel$Terms" 109 "FamilyKernel$Row" y_Row_cut b_Row_cut 2 none 1 := ⟨vt_612, vt_232, vt_233, vt_4, vt_234, by decide, by decide, by decide +kernel⟩
theorem kw_Terms_112 : kWv "FamilyKernel$Terms" 112 "FamilyKernel$Row" y_Row_push b_Row_push 2 none 1 := ⟨vt_613, vt_252, vt_253, vt_4, vt_254, by decide, by decide, by decide +kernel⟩
theorem kw_Terms_118 : kWv "FamilyKernel$Terms" 118 "FamilyKernel$Row" y_Row_pop b_Row_pop 1 (some .int) 0 := ⟨vt_615, vt_599, vt_600, vt_4, vt_601, by decide, by decide, by decide +kernel⟩
theorem kw_Terms_135 : kWv "FamilyKernel$Terms" 135 "FamilyKernel$Meter" y_Meter_charge b_Meter_charge 2 none 1 := ⟨vt_636, vt_637, vt_638, vt_13, vt_639, by decide, by decide, by decide +kernel⟩
theorem kw_Terms_115 : kWv "FamilyKernel$Terms" 115 "FamilyKernel$Row" y_Row_size b_Row_size 1 (some .int) 0 := ⟨vt_614, vt_270, vt_271, vt_4, vt_272, by decide, by decide, by decide +kernel⟩
theorem kw_Terms_124 : kWv "FamilyKernel$Terms" 124 "FamilyKernel$Terms" y_Terms_isUntouched b_Terms_isUntouched 5 (some .boolean) 4 := ⟨vt_617, vt_618, vt_619, vt_19, vt_620, by decide, by decide, by decide +kernel⟩
theorem kw_Terms_128 : kWv "FamilyKernel$Terms" 128 "FamilyKernel$Terms" y_Terms_changedName b_Terms_changedName 6 (some .int) 4 := ⟨vt_621, vt_622, vt_623, vt_19, vt_624, by decide, by decide, by decide +kernel⟩
theorem kw_Terms_132 : kWs "FamilyKernel$Terms" 132 y_Terms_changedKind b_Terms_changedKind 2 (some .int) 2 := ⟨vt_629, vt_630, vt_19, vt_631, by decide, by decide, by decide +kernel⟩
theorem kw_Terms_121 : kWv "FamilyKernel$Terms" 121 "FamilyKernel$Terms" y_Terms_make b_Terms_make 10 (some .int) 3 := ⟨vt_616, vt_518, vt_519, vt_19, vt_520, by decide, by decide, by decide +kernel⟩
def f_Terms_rewrite_j358 (N : Nat)  (y4 : Int32) (γ : kS) : Option (kO × kS) := kBv (f_Meter_charge N (f_Terms_size y4 γ) γ) fun α7 => (some (some (some y4), α7))
def f_Terms_rewrite_j340 (N : Nat)  (y1 : Int32) (γ : kS) : Option (kO × kS) := if y1 = 0 then (f_Terms_rewrite_j358 N (fR_pop γ 4).1 (fR_pop γ 4).2) else (if y1 = 2 then (f_Terms_rewrite_j358 N (fR_pop γ 4).1 (fR_pop γ 4).2) else (some (some (some (fR_pop γ 4).1), (fR_pop γ 4).2)))
def f_Terms_rewrite_j231 (N : Nat)  (k43 : Int32 → Int32 → Int32 → kS → Option (kO × kS)) (y7 : Int32) (y6 : Int32) (y4 : Int32) (y1 : Int32) (y3 : Int32) (t0 : Int32) (γ : kS) : Option (kO × kS) := kBi (f_Terms_make N (f_Terms_changedKind y1 (f_Terms_kind y6 γ) γ) y7 t0 γ) fun v30 α28 => (kBv (fR_push α28 4 v30) fun α31 => (k43 (y4 + 1) y1 y3 α31))
def f_Terms_rewrite_j225 (N : Nat)  (k43 : Int32 → Int32 → Int32 → kS → Option (kO × kS)) (y7 : Int32) (y6 : Int32) (y4 : Int32) (y1 : Int32) (y3 : Int32) (γ : kS) : Option (kO × kS) := f_Terms_rewrite_j231 N k43 y7 y6 y4 y1 y3 (f_Terms_right y6 γ) γ
def f_Terms_rewrite_j178 (N : Nat)  (k43 : Int32 → Int32 → Int32 → kS → Option (kO × kS)) (y6 : Int32) (y5 : Int32) (y4 : Int32) (y1 : Int32) (y3 : Int32) (γ : kS) : Option (kO × kS) := if 5 ≤ (f_Terms_kind y6 γ) then (kBv (fR_push γ 2 ((-1) - y6)) fun α15 => (kBv (fR_push α15 3 0) fun α17 => (kBv (fR_push α17 2 (f_Terms_right y6 α17)) fun α19 => (kBv (fR_push α19 3 (y5 + (f_Terms_binds (f_Terms_kind y6 α19) α19))) fun α21 => (kBv (fR_push α21 2 (f_Terms_left y6 α21)) fun α23 => (kBv (fR_push α23 3 y5) fun α25 => (k43 (y4 + 1) y1 y3 α25))))))) else (if (f_Terms_kind y6 γ) = 4 then (if (f_Terms_right y6 γ) = 101 then (f_Terms_rewrite_j231 N k43 (f_Terms_changedName y1 y6 y3 y5 γ) y6 y4 y1 y3 y3 γ) else (f_Terms_rewrite_j225 N k43 (f_Terms_changedName y1 y6 y3 y5 γ) y6 y4 y1 y3 γ)) else (f_Terms_rewrite_j225 N k43 (f_Terms_changedName y1 y6 y3 y5 γ) y6 y4 y1 y3 γ))
def f_Terms_rewrite_43 (N : Nat)  : Nat → Int32 → Int32 → Int32 → kS → Option (kO × kS)
  | 0, _, _, _, _ => none
  | n + 1, x4, x1, x3, β => if 16777216 ≤ x4 then (f_Terms_rewrite_j340 N x1 β) else (if (fR_size β 2) ≤ 0 then (f_Terms_rewrite_j340 N x1 β) else (if 0 ≤ (fR_pop (fR_pop β 3).2 2).1 then (if (f_Terms_isUntouched x1 (fR_pop (fR_pop β 3).2 2).1 x3 (fR_pop β 3).1 (fR_pop (fR_pop β 3).2 2).2) = 0 then (if 5 ≤ (f_Terms_kind (fR_pop (fR_pop β 3).2 2).1 (fR_pop (fR_pop β 3).2 2).2) then (f_Terms_rewrite_j178 N (f_Terms_rewrite_43 N n) (fR_pop (fR_pop β 3).2 2).1 (fR_pop β 3).1 x4 x1 x3 (fR_pop (fR_pop β 3).2 2).2) else (if 1 < x1 then (f_Terms_rewrite_j178 N (f_Terms_rewrite_43 N n) (fR_pop (fR_pop β 3).2 2).1 (fR_pop β 3).1 x4 x1 x3 (fR_pop (fR_pop β 3).2 2).2) else (kBv (fR_push (fR_pop (fR_pop β 3).2 2).2 4 x3) fun α35 => (f_Terms_rewrite_43 N n (x4 + 1) x1 x3 α35)))) else (kBv (fR_push (fR_pop (fR_pop β 3).2 2).2 4 (fR_pop (fR_pop β 3).2 2).1) fun α37 => (f_Terms_rewrite_43 N n (x4 + 1) x1 x3 α37))) else (kBi (f_Terms_make N (f_Terms_kind ((-1) - (fR_pop (fR_pop β 3).2 2).1) (fR_pop (fR_pop (fR_pop (fR_pop β 3).2 2).2 4).2 4).2) (fR_pop (fR_pop (fR_pop (fR_pop β 3).2 2).2 4).2 4).1 (fR_pop (fR_pop (fR_pop β 3).2 2).2 4).1 (fR_pop (fR_pop (fR_pop (fR_pop β 3).2 2).2 4).2 4).2) fun v41 α39 => (kBv (fR_push α39 4 v41) fun α42 => (f_Terms_rewrite_43 N n (x4 + 1) x1 x3 α42)))))
def f_Terms_rewrite (N : Nat) (a1 : Int32) (a2 : Int32) (a3 : Int32) (α : kS) : Option (kO × kS) := kBv (fR_push (fR_cut (fR_cut (fR_cut α 2 0) 3 0) 4 0) 2 a2) fun α1 => (kBv (fR_push α1 3 0) fun α3 => (f_Terms_rewrite_43 N N 0 a1 a3 α3))
set_option maxHeartbeats 4000000 in
set_option maxRecDepth 100000 in
theorem k_Terms_rewrite {l : Launch} {g : kG} {α : kS} (hfl : kFl l) (N : Nat) (a1 : Int32) (a2 : Int32) (a3 : Int32)  : ∀ x, f_Terms_rewrite N a1 a2 a3 α = some x → kC l g y_Terms_rewrite b_Terms_rewrite 9 (some .int) 31 921 [.ref (kad g 2), .int a1, .int a2, .int a3] α (kQr x) := by
  intro x h
  unfold f_Terms_rewrite at h
  refine kc_ofW (by decide) (fun A ad0 p e s m args below meth c S hr hlocks hno hadm hargs E hI => ?_)
  have hx := S.1
  have hb := S.2.1
  have hown := S.2.2.2.1
  have hT := S.2.2.2.2
  subst hargs
  have hl := lv_entry ([.ref (kad g 2), .int a1, .int a2, .int a3]) (n := 9) (Nat.le_of_ble_eq_true rfl)
  rw [lg_entry_eq]
  generalize (lg_sl ([.ref (kad g 2), .int a1, .int a2, .int a3]) ++ List.replicate (9 - (lg_sl ([.ref (kad g 2), .int a1, .int a2, .int a3])).length) Slot.unset).toArray = ls at hl ⊢
  have hl : lv_has ls 9 [(0, .ref (kad g 2)), (1, .int a1), (2, .int a2), (3, .int a3)] := hl
  refine lv_aload_n hx hb d_Terms_rewrite_0 rfl (lv_at hl 0 rfl) ?_
  refine kf_Terms_todo S E hI.1 vt_92 d_Terms_rewrite_1 ?_
  refine lv_iconst (v := 0) hx hb d_Terms_rewrite_4 (by decide) ?_
  refine kg_tV (As := [.int 0]) (rest := []) (k_Row_cut (l := l) (g := g) (α := α) (r := 2) (by decide) 0) S hlocks hno E hI kw_Terms_109 ⟨Nat.le_of_ble_eq_true rfl, Nat.le_of_ble_eq_true rfl⟩ (kv_Row (r := 2) (by decide) E hI.1) rfl hl.1 rfl (Nat.le_of_ble_eq_true rfl) d_Terms_rewrite_5 (fun ad H locs cells slots hRm hI => ?_)
  refine lv_aload_n hx hb d_Terms_rewrite_8 rfl (lv_at hl 0 rfl) ?_
  refine kf_Terms_offsets S E hI.1 vt_93 d_Terms_rewrite_9 ?_
  refine lv_iconst (v := 0) hx hb d_Terms_rewrite_12 (by decide) ?_
  refine kg_tV (As := [.int 0]) (rest := []) (k_Row_cut (l := l) (g := g) (α := (fR_cut α 2 0)) (r := 3) (by decide) 0) S hlocks hno E hI kw_Terms_109 ⟨Nat.le_of_ble_eq_true rfl, Nat.le_of_ble_eq_true rfl⟩ (kv_Row (r := 3) (by decide) E hI.1) rfl hl.1 rfl (Nat.le_of_ble_eq_true rfl) d_Terms_rewrite_13 (fun ad H locs cells slots hRm hI => ?_)
  refine lv_aload_n hx hb d_Terms_rewrite_16 rfl (lv_at hl 0 rfl) ?_
  refine kf_Terms_built S E hI.1 vt_94 d_Terms_rewrite_17 ?_
  refine lv_iconst (v := 0) hx hb d_Terms_rewrite_20 (by decide) ?_
  refine kg_tV (As := [.int 0]) (rest := []) (k_Row_cut (l := l) (g := g) (α := (fR_cut (fR_cut α 2 0) 3 0)) (r := 4) (by decide) 0) S hlocks hno E hI kw_Terms_109 ⟨Nat.le_of_ble_eq_true rfl, Nat.le_of_ble_eq_true rfl⟩ (kv_Row (r := 4) (by decide) E hI.1) rfl hl.1 rfl (Nat.le_of_ble_eq_true rfl) d_Terms_rewrite_21 (fun ad H locs cells slots hRm hI => ?_)
  refine lv_aload_n hx hb d_Terms_rewrite_24 rfl (lv_at hl 0 rfl) ?_
  refine kf_Terms_todo S E hI.1 vt_92 d_Terms_rewrite_25 ?_
  refine lv_iload_n hx hb d_Terms_rewrite_28 rfl (lv_at hl 2 rfl) ?_
  refine kg_cV (As := [.int a2]) (rest := []) h (k_Row_push (l := l) (g := g) (α := (fR_cut (fR_cut (fR_cut α 2 0) 3 0) 4 0)) (r := 2) (by decide) a2) S hlocks hno E hI kw_Terms_112 ⟨Nat.le_of_ble_eq_true rfl, Nat.le_of_ble_eq_true rfl⟩ (kv_Row (r := 2) (by decide) E hI.1) rfl hl.1 rfl (Nat.le_of_ble_eq_true rfl) d_Terms_rewrite_29 (fun α1 ad H locs cells slots e2 h hRm hI => ?_)
  refine lv_aload_n hx hb d_Terms_rewrite_32 rfl (lv_at hl 0 rfl) ?_
  refine kf_Terms_offsets S E hI.1 vt_93 d_Terms_rewrite_33 ?_
  refine lv_iconst (v := 0) hx hb d_Terms_rewrite_36 (by decide) ?_
  refine kg_cV (As := [.int 0]) (rest := []) h (k_Row_push (l := l) (g := g) (α := α1) (r := 3) (by decide) 0) S hlocks hno E hI kw_Terms_112 ⟨Nat.le_of_ble_eq_true rfl, Nat.le_of_ble_eq_true rfl⟩ (kv_Row (r := 3) (by decide) E hI.1) rfl hl.1 rfl (Nat.le_of_ble_eq_true rfl) d_Terms_rewrite_37 (fun α3 ad H locs cells slots e4 h hRm hI => ?_)
  refine lv_iconst (v := 0) hx hb d_Terms_rewrite_40 (by decide) ?_
  refine lv_istore (lv' := [(4, .int 0), (0, .ref (kad g 2)), (1, .int a1), (2, .int a2), (3, .int a3)]) hx hb d_Terms_rewrite_41 hl (by decide) rfl (fun ls hl => ?_)
  have L43 : ∀ (n43 : Nat) (x4 : Int32) (x1 : Int32) (x3 : Int32) (β : kS) (ad : Nat → Nat) (H : Heap) (locs : List Loc) (cells slots : Nat) (ls : Array Slot), f_Terms_rewrite_43 N n43 x4 x1 x3 β = some x → kI g A s α ad0 β ad H locs cells slots → lv_has ls 9 [(4, .int x4), (0, .ref (kad g 2)), (1, .int x1), (3, .int x3)] → W p l e (kR 31 921 α) s m ([.ref (kad g 2), .int a1, .int a2, .int a3]).toArray below meth c H locs cells slots (vEQ below (kQ g A α ad0 (kQr x)) ([.ref (kad g 2), .int a1, .int a2, .int a3]).toArray s A) (F0 m 43 ls []) := by
    intro n43
    induction n43 with
    | zero => intro x4 x1 x3 β ad H locs cells slots ls h hI hl; rw [f_Terms_rewrite_43] at h; cases h
    | succ n43 ih43 =>
      intro x4 x1 x3 β ad H locs cells slots ls h hI hl
      rw [f_Terms_rewrite_43] at h
      have J358 : ∀ (y4 : Int32) (γ : kS) (ad : Nat → Nat) (H : Heap) (locs : List Loc) (cells slots : Nat) (ls : Array Slot), f_Terms_rewrite_j358 N y4 γ = some x → kI g A s α ad0 γ ad H locs cells slots → lv_has ls 9 [(4, .int y4), (0, .ref (kad g 2))] → W p l e (kR 31 921 α) s m ([.ref (kad g 2), .int a1, .int a2, .int a3]).toArray below meth c H locs cells slots (vEQ below (kQ g A α ad0 (kQr x)) ([.ref (kad g 2), .int a1, .int a2, .int a3]).toArray s A) (F0 m 358 ls []) := by
        intro y4 γ ad H locs cells slots ls h hI hl
        unfold f_Terms_rewrite_j358 at h
        refine lv_aload_n hx hb d_Terms_rewrite_358 rfl (lv_at hl 1 rfl) ?_
        refine kf_Terms_meter S E hI.1 vt_88 d_Terms_rewrite_359 ?_
        refine lv_aload_n hx hb d_Terms_rewrite_362 rfl (lv_at hl 1 rfl) ?_
        refine lv_iload hx hb d_Terms_rewrite_363 (lv_at hl 0 rfl) ?_
        refine kg_p (As := [.int y4]) (rest := [.ref (kad g 1)]) (k_Terms_size (l := l) (g := g) (α := γ) y4) S E hI.1 kw_Terms_66 ⟨Nat.le_of_ble_eq_true rfl, Nat.le_of_ble_eq_true rfl⟩ hI.room (kv_Terms E hI.1) rfl hl.1 rfl (Nat.le_of_ble_eq_true rfl) d_Terms_rewrite_365 rfl ?_
        refine kg_cV (As := [.int (f_Terms_size y4 γ)]) (rest := []) h (k_Meter_charge (l := l) (g := g) (α := γ) hfl N (f_Terms_size y4 γ)) S hlocks hno E hI kw_Terms_135 ⟨Nat.le_of_ble_eq_true rfl, Nat.le_of_ble_eq_true rfl⟩ (kv_Meter E hI.1) rfl hl.1 rfl (Nat.le_of_ble_eq_true rfl) d_Terms_rewrite_368 (fun α7 ad H locs cells slots e8 h hRm hI => ?_)
        refine lv_iload hx hb d_Terms_rewrite_371 (lv_at hl 0 rfl) ?_
        exact kc_iret (w := y4) hx hb hr rfl hlocks E hI h d_Terms_rewrite_373
      have J340 : ∀ (y1 : Int32) (γ : kS) (ad : Nat → Nat) (H : Heap) (locs : List Loc) (cells slots : Nat) (ls : Array Slot), f_Terms_rewrite_j340 N y1 γ = some x → kI g A s α ad0 γ ad H locs cells slots → lv_has ls 9 [(0, .ref (kad g 2)), (1, .int y1)] → W p l e (kR 31 921 α) s m ([.ref (kad g 2), .int a1, .int a2, .int a3]).toArray below meth c H locs cells slots (vEQ below (kQ g A α ad0 (kQr x)) ([.ref (kad g 2), .int a1, .int a2, .int a3]).toArray s A) (F0 m 340 ls []) := by
        intro y1 γ ad H locs cells slots ls h hI hl
        unfold f_Terms_rewrite_j340 at h
        refine lv_aload_n hx hb d_Terms_rewrite_340 rfl (lv_at hl 0 rfl) ?_
        refine kf_Terms_built S E hI.1 vt_94 d_Terms_rewrite_341 ?_
        refine kg_tI (As := []) (rest := []) (k_Row_pop (l := l) (g := g) (α := γ) (r := 4) (by decide)) S hlocks hno E hI kw_Terms_118 ⟨Nat.le_of_ble_eq_true rfl, Nat.le_of_ble_eq_true rfl⟩ (kv_Row (r := 4) (by decide) E hI.1) rfl hl.1 rfl (Nat.le_of_ble_eq_true rfl) d_Terms_rewrite_344 (fun ad H locs cells slots hRm hI => ?_)
        refine lv_istore (lv' := [(4, .int (fR_pop γ 4).1), (0, .ref (kad g 2)), (1, .int y1)]) hx hb d_Terms_rewrite_347 hl (by decide) rfl (fun ls hl => ?_)
        refine lv_iload_n hx hb d_Terms_rewrite_349 rfl (lv_at hl 2 rfl) ?_
        refine lv_if_eq (tgt := 358) hx hb d_Terms_rewrite_350 (by decide) (fun c6 => ?_) (fun c6 => ?_)
        · replace h := Eq.trans (if_pos c6).symm h
          exact J358 (fR_pop γ 4).1 _ _ _ _ _ _ _ h hI (lv_sub hl [0, 1] rfl)
        · replace h := Eq.trans (if_neg c6).symm h
          refine lv_iload_n hx hb d_Terms_rewrite_353 rfl (lv_at hl 2 rfl) ?_
          refine lv_iconst (v := 2) hx hb d_Terms_rewrite_354 (by decide) ?_
          refine lv_icmp_ne (tgt := 371) hx hb d_Terms_rewrite_355 (by decide) (fun c9 => ?_) (fun c9 => ?_)
          · replace h := Eq.trans (if_neg c9).symm h
            refine lv_iload hx hb d_Terms_rewrite_371 (lv_at hl 0 rfl) ?_
            exact kc_iret (w := (fR_pop γ 4).1) hx hb hr rfl hlocks E hI h d_Terms_rewrite_373
          · replace h := Eq.trans (if_pos c9).symm h
            exact J358 (fR_pop γ 4).1 _ _ _ _ _ _ _ h hI (lv_sub hl [0, 1] rfl)
      have J231 : ∀ (y7 : Int32) (y6 : Int32) (y4 : Int32) (y1 : Int32) (y3 : Int32) (t0 : Int32) (γ : kS) (ad : Nat → Nat) (H : Heap) (locs : List Loc) (cells slots : Nat) (ls : Array Slot), f_Terms_rewrite_j231 N (f_Terms_rewrite_43 N n43) y7 y6 y4 y1 y3 t0 γ = some x → kI g A s α ad0 γ ad H locs cells slots → lv_has ls 9 [(7, .int y7), (6, .int y6), (4, .int y4), (0, .ref (kad g 2)), (1, .int y1), (3, .int y3)] → W p l e (kR 31 921 α) s m ([.ref (kad g 2), .int a1, .int a2, .int a3]).toArray below meth c H locs cells slots (vEQ below (kQ g A α ad0 (kQr x)) ([.ref (kad g 2), .int a1, .int a2, .int a3]).toArray s A) (F0 m 231 ls [.int t0]) := by
        intro y7 y6 y4 y1 y3 t0 γ ad H locs cells slots ls h hI hl
        unfold f_Terms_rewrite_j231 at h
        refine lv_istore (lv' := [(8, .int t0), (7, .int y7), (6, .int y6), (4, .int y4), (0, .ref (kad g 2)), (1, .int y1), (3, .int y3)]) hx hb d_Terms_rewrite_231 hl (by decide) rfl (fun ls hl => ?_)
        refine lv_aload_n hx hb d_Terms_rewrite_233 rfl (lv_at hl 4 rfl) ?_
        refine kf_Terms_built S E hI.1 vt_94 d_Terms_rewrite_234 ?_
        refine lv_aload_n hx hb d_Terms_rewrite_237 rfl (lv_at hl 4 rfl) ?_
        refine lv_iload_n hx hb d_Terms_rewrite_238 rfl (lv_at hl 5 rfl) ?_
        refine lv_aload_n hx hb d_Terms_rewrite_239 rfl (lv_at hl 4 rfl) ?_
        refine lv_iload hx hb d_Terms_rewrite_240 (lv_at hl 2 rfl) ?_
        refine kg_p (As := [.int y6]) (rest := [.int y1, .ref (kad g 2), .ref (kad g (11 + 4))]) (k_Terms_kind (l := l) (g := g) (α := γ) y6) S E hI.1 kw_Terms_52 ⟨Nat.le_of_ble_eq_true rfl, Nat.le_of_ble_eq_true rfl⟩ hI.room (kv_Terms E hI.1) rfl hl.1 rfl (Nat.le_of_ble_eq_true rfl) d_Terms_rewrite_242 rfl ?_
        refine kg_pS (As := [.int y1, .int (f_Terms_kind y6 γ)]) (rest := [.ref (kad g 2), .ref (kad g (11 + 4))]) (k_Terms_changedKind (l := l) (g := g) (α := γ) y1 (f_Terms_kind y6 γ)) S E hI.1 kw_Terms_132 ⟨Nat.le_of_ble_eq_true rfl, Nat.le_of_ble_eq_true rfl⟩ hI.room rfl hl.1 rfl (Nat.le_of_ble_eq_true rfl) d_Terms_rewrite_245 ?_
        refine lv_iload hx hb d_Terms_rewrite_248 (lv_at hl 1 rfl) ?_
        refine lv_iload hx hb d_Terms_rewrite_250 (lv_at hl 0 rfl) ?_
        refine kg_cI (As := [.int (f_Terms_changedKind y1 (f_Terms_kind y6 γ) γ), .int y7, .int t0]) (rest := [.ref (kad g (11 + 4))]) h (k_Terms_make (l := l) (g := g) (α := γ) hfl N (f_Terms_changedKind y1 (f_Terms_kind y6 γ) γ) y7 t0) S hlocks hno E hI kw_Terms_121 ⟨Nat.le_of_ble_eq_true rfl, Nat.le_of_ble_eq_true rfl⟩ (kv_Terms E hI.1) rfl hl.1 rfl (Nat.le_of_ble_eq_true rfl) d_Terms_rewrite_252 (fun v30 α28 ad H locs cells slots e29 h hRm hI => ?_)
        refine kg_cV (As := [.int v30]) (rest := []) h (k_Row_push (l := l) (g := g) (α := α28) (r := 4) (by decide) v30) S hlocks hno E hI kw_Terms_112 ⟨Nat.le_of_ble_eq_true rfl, Nat.le_of_ble_eq_true rfl⟩ (kv_Row (r := 4) (by decide) E hI.1) rfl hl.1 rfl (Nat.le_of_ble_eq_true rfl) d_Terms_rewrite_255 (fun α31 ad H locs cells slots e32 h hRm hI => ?_)
        refine lv_goto (tgt := 334) hx hb d_Terms_rewrite_258 (by decide) ?_
        refine lv_iinc (v := (y4 + 1)) (lv' := [(4, .int (y4 + 1)), (8, .int t0), (7, .int y7), (6, .int y6), (0, .ref (kad g 2)), (1, .int y1), (3, .int y3)]) hx hb d_Terms_rewrite_334 hl (k := 3) rfl rfl (by decide) rfl (fun ls hl => ?_)
        refine lv_goto (tgt := 43) hx hb d_Terms_rewrite_337 (by decide) ?_
        exact ih43 (y4 + 1) y1 y3 _ _ _ _ _ _ _ h hI (lv_sub hl [0, 4, 5, 6] rfl)
      have J225 : ∀ (y7 : Int32) (y6 : Int32) (y4 : Int32) (y1 : Int32) (y3 : Int32) (γ : kS) (ad : Nat → Nat) (H : Heap) (locs : List Loc) (cells slots : Nat) (ls : Array Slot), f_Terms_rewrite_j225 N (f_Terms_rewrite_43 N n43) y7 y6 y4 y1 y3 γ = some x → kI g A s α ad0 γ ad H locs cells slots → lv_has ls 9 [(7, .int y7), (6, .int y6), (4, .int y4), (0, .ref (kad g 2)), (1, .int y1), (3, .int y3)] → W p l e (kR 31 921 α) s m ([.ref (kad g 2), .int a1, .int a2, .int a3]).toArray below meth c H locs cells slots (vEQ below (kQ g A α ad0 (kQr x)) ([.ref (kad g 2), .int a1, .int a2, .int a3]).toArray s A) (F0 m 225 ls []) := by
        intro y7 y6 y4 y1 y3 γ ad H locs cells slots ls h hI hl
        unfold f_Terms_rewrite_j225 at h
        refine lv_aload_n hx hb d_Terms_rewrite_225 rfl (lv_at hl 3 rfl) ?_
        refine lv_iload hx hb d_Terms_rewrite_226 (lv_at hl 1 rfl) ?_
        refine kg_p (As := [.int y6]) (rest := []) (k_Terms_right (l := l) (g := g) (α := γ) y6) S E hI.1 kw_Terms_59 ⟨Nat.le_of_ble_eq_true rfl, Nat.le_of_ble_eq_true rfl⟩ hI.room (kv_Terms E hI.1) rfl hl.1 rfl (Nat.le_of_ble_eq_true rfl) d_Terms_rewrite_228 rfl ?_
        exact J231 y7 y6 y4 y1 y3 (f_Terms_right y6 γ) _ _ _ _ _ _ _ h hI (lv_sub hl [0, 1, 2, 3, 4, 5] rfl)
      have J178 : ∀ (y6 : Int32) (y5 : Int32) (y4 : Int32) (y1 : Int32) (y3 : Int32) (γ : kS) (ad : Nat → Nat) (H : Heap) (locs : List Loc) (cells slots : Nat) (ls : Array Slot), f_Terms_rewrite_j178 N (f_Terms_rewrite_43 N n43) y6 y5 y4 y1 y3 γ = some x → kI g A s α ad0 γ ad H locs cells slots → lv_has ls 9 [(6, .int y6), (5, .int y5), (4, .int y4), (0, .ref (kad g 2)), (1, .int y1), (3, .int y3)] → W p l e (kR 31 921 α) s m ([.ref (kad g 2), .int a1, .int a2, .int a3]).toArray below meth c H locs cells slots (vEQ below (kQ g A α ad0 (kQr x)) ([.ref (kad g 2), .int a1, .int a2, .int a3]).toArray s A) (F0 m 178 ls []) := by
        intro y6 y5 y4 y1 y3 γ ad H locs cells slots ls h hI hl
        unfold f_Terms_rewrite_j178 at h
        refine lv_aload_n hx hb d_Terms_rewrite_178 rfl (lv_at hl 3 rfl) ?_
        refine lv_iload hx hb d_Terms_rewrite_179 (lv_at hl 0 rfl) ?_
        refine kg_p (As := [.int y6]) (rest := []) (k_Terms_kind (l := l) (g := g) (α := γ) y6) S E hI.1 kw_Terms_52 ⟨Nat.le_of_ble_eq_true rfl, Nat.le_of_ble_eq_true rfl⟩ hI.room (kv_Terms E hI.1) rfl hl.1 rfl (Nat.le_of_ble_eq_true rfl) d_Terms_rewrite_181 rfl ?_
        refine lv_iconst (v := 5) hx hb d_Terms_rewrite_184 (by decide) ?_
        refine lv_icmp_ge (tgt := 261) hx hb d_Terms_rewrite_185 (by decide) (fun c14 => ?_) (fun c14 => ?_)
        · replace h := Eq.trans (if_pos c14).symm h
          refine lv_aload_n hx hb d_Terms_rewrite_261 rfl (lv_at hl 3 rfl) ?_
          refine kf_Terms_todo S E hI.1 vt_92 d_Terms_rewrite_262 ?_
          refine lv_iconst (v := (-1)) hx hb d_Terms_rewrite_265 (by decide) ?_
          refine lv_iload hx hb d_Terms_rewrite_266 (lv_at hl 0 rfl) ?_
          refine lv_isub hx hb d_Terms_rewrite_268 ?_
          refine kg_cV (As := [.int ((-1) - y6)]) (rest := []) h (k_Row_push (l := l) (g := g) (α := γ) (r := 2) (by decide) ((-1) - y6)) S hlocks hno E hI kw_Terms_112 ⟨Nat.le_of_ble_eq_true rfl, Nat.le_of_ble_eq_true rfl⟩ (kv_Row (r := 2) (by decide) E hI.1) rfl hl.1 rfl (Nat.le_of_ble_eq_true rfl) d_Terms_rewrite_269 (fun α15 ad H locs cells slots e16 h hRm hI => ?_)
          refine lv_aload_n hx hb d_Terms_rewrite_272 rfl (lv_at hl 3 rfl) ?_
          refine kf_Terms_offsets S E hI.1 vt_93 d_Terms_rewrite_273 ?_
          refine lv_iconst (v := 0) hx hb d_Terms_rewrite_276 (by decide) ?_
          refine kg_cV (As := [.int 0]) (rest := []) h (k_Row_push (l := l) (g := g) (α := α15) (r := 3) (by decide) 0) S hlocks hno E hI kw_Terms_112 ⟨Nat.le_of_ble_eq_true rfl, Nat.le_of_ble_eq_true rfl⟩ (kv_Row (r := 3) (by decide) E hI.1) rfl hl.1 rfl (Nat.le_of_ble_eq_true rfl) d_Terms_rewrite_277 (fun α17 ad H locs cells slots e18 h hRm hI => ?_)
          refine lv_aload_n hx hb d_Terms_rewrite_280 rfl (lv_at hl 3 rfl) ?_
          refine kf_Terms_todo S E hI.1 vt_92 d_Terms_rewrite_281 ?_
          refine lv_aload_n hx hb d_Terms_rewrite_284 rfl (lv_at hl 3 rfl) ?_
          refine lv_iload hx hb d_Terms_rewrite_285 (lv_at hl 0 rfl) ?_
          refine kg_p (As := [.int y6]) (rest := [.ref (kad g (11 + 2))]) (k_Terms_right (l := l) (g := g) (α := α17) y6) S E hI.1 kw_Terms_59 ⟨Nat.le_of_ble_eq_true rfl, Nat.le_of_ble_eq_true rfl⟩ hI.room (kv_Terms E hI.1) rfl hl.1 rfl (Nat.le_of_ble_eq_true rfl) d_Terms_rewrite_287 rfl ?_
          refine kg_cV (As := [.int (f_Terms_right y6 α17)]) (rest := []) h (k_Row_push (l := l) (g := g) (α := α17) (r := 2) (by decide) (f_Terms_right y6 α17)) S hlocks hno E hI kw_Terms_112 ⟨Nat.le_of_ble_eq_true rfl, Nat.le_of_ble_eq_true rfl⟩ (kv_Row (r := 2) (by decide) E hI.1) rfl hl.1 rfl (Nat.le_of_ble_eq_true rfl) d_Terms_rewrite_290 (fun α19 ad H locs cells slots e20 h hRm hI => ?_)
          refine lv_aload_n hx hb d_Terms_rewrite_293 rfl (lv_at hl 3 rfl) ?_
          refine kf_Terms_offsets S E hI.1 vt_93 d_Terms_rewrite_294 ?_
          refine lv_iload hx hb d_Terms_rewrite_297 (lv_at hl 1 rfl) ?_
          refine lv_aload_n hx hb d_Terms_rewrite_299 rfl (lv_at hl 3 rfl) ?_
          refine lv_iload hx hb d_Terms_rewrite_300 (lv_at hl 0 rfl) ?_
          refine kg_p (As := [.int y6]) (rest := [.int y5, .ref (kad g (11 + 3))]) (k_Terms_kind (l := l) (g := g) (α := α19) y6) S E hI.1 kw_Terms_52 ⟨Nat.le_of_ble_eq_true rfl, Nat.le_of_ble_eq_true rfl⟩ hI.room (kv_Terms E hI.1) rfl hl.1 rfl (Nat.le_of_ble_eq_true rfl) d_Terms_rewrite_302 rfl ?_
          refine kg_pS (As := [.int (f_Terms_kind y6 α19)]) (rest := [.int y5, .ref (kad g (11 + 3))]) (k_Terms_binds (l := l) (g := g) (α := α19) (f_Terms_kind y6 α19)) S E hI.1 kw_Terms_81 ⟨Nat.le_of_ble_eq_true rfl, Nat.le_of_ble_eq_true rfl⟩ hI.room rfl hl.1 rfl (Nat.le_of_ble_eq_true rfl) d_Terms_rewrite_305 ?_
          refine lv_iadd hx hb d_Terms_rewrite_308 ?_
          refine kg_cV (As := [.int (y5 + (f_Terms_binds (f_Terms_kind y6 α19) α19))]) (rest := []) h (k_Row_push (l := l) (g := g) (α := α19) (r := 3) (by decide) (y5 + (f_Terms_binds (f_Terms_kind y6 α19) α19))) S hlocks hno E hI kw_Terms_112 ⟨Nat.le_of_ble_eq_true rfl, Nat.le_of_ble_eq_true rfl⟩ (kv_Row (r := 3) (by decide) E hI.1) rfl hl.1 rfl (Nat.le_of_ble_eq_true rfl) d_Terms_rewrite_309 (fun α21 ad H locs cells slots e22 h hRm hI => ?_)
          refine lv_aload_n hx hb d_Terms_rewrite_312 rfl (lv_at hl 3 rfl) ?_
          refine kf_Terms_todo S E hI.1 vt_92 d_Terms_rewrite_313 ?_
          refine lv_aload_n hx hb d_Terms_rewrite_316 rfl (lv_at hl 3 rfl) ?_
          refine lv_iload hx hb d_Terms_rewrite_317 (lv_at hl 0 rfl) ?_
          refine kg_p (As := [.int y6]) (rest := [.ref (kad g (11 + 2))]) (k_Terms_left (l := l) (g := g) (α := α21) y6) S E hI.1 kw_Terms_56 ⟨Nat.le_of_ble_eq_true rfl, Nat.le_of_ble_eq_true rfl⟩ hI.room (kv_Terms E hI.1) rfl hl.1 rfl (Nat.le_of_ble_eq_true rfl) d_Terms_rewrite_319 rfl ?_
          refine kg_cV (As := [.int (f_Terms_left y6 α21)]) (rest := []) h (k_Row_push (l := l) (g := g) (α := α21) (r := 2) (by decide) (f_Terms_left y6 α21)) S hlocks hno E hI kw_Terms_112 ⟨Nat.le_of_ble_eq_true rfl, Nat.le_of_ble_eq_true rfl⟩ (kv_Row (r := 2) (by decide) E hI.1) rfl hl.1 rfl (Nat.le_of_ble_eq_true rfl) d_Terms_rewrite_322 (fun α23 ad H locs cells slots e24 h hRm hI => ?_)
          refine lv_aload_n hx hb d_Terms_rewrite_325 rfl (lv_at hl 3 rfl) ?_
          refine kf_Terms_offsets S E hI.1 vt_93 d_Terms_rewrite_326 ?_
          refine lv_iload hx hb d_Terms_rewrite_329 (lv_at hl 1 rfl) ?_
          refine kg_cV (As := [.int y5]) (rest := []) h (k_Row_push (l := l) (g := g) (α := α23) (r := 3) (by decide) y5) S hlocks hno E hI kw_Terms_112 ⟨Nat.le_of_ble_eq_true rfl, Nat.le_of_ble_eq_true rfl⟩ (kv_Row (r := 3) (by decide) E hI.1) rfl hl.1 rfl (Nat.le_of_ble_eq_true rfl) d_Terms_rewrite_331 (fun α25 ad H locs cells slots e26 h hRm hI => ?_)
          refine lv_iinc (v := (y4 + 1)) (lv' := [(4, .int (y4 + 1)), (6, .int y6), (5, .int y5), (0, .ref (kad g 2)), (1, .int y1), (3, .int y3)]) hx hb d_Terms_rewrite_334 hl (k := 2) rfl rfl (by decide) rfl (fun ls hl => ?_)
          refine lv_goto (tgt := 43) hx hb d_Terms_rewrite_337 (by decide) ?_
          exact ih43 (y4 + 1) y1 y3 _ _ _ _ _ _ _ h hI (lv_sub hl [0, 3, 4, 5] rfl)
        · replace h := Eq.trans (if_neg c14).symm h
          refine lv_aload_n hx hb d_Terms_rewrite_188 rfl (lv_at hl 3 rfl) ?_
          refine lv_iload_n hx hb d_Terms_rewrite_189 rfl (lv_at hl 4 rfl) ?_
          refine lv_iload hx hb d_Terms_rewrite_190 (lv_at hl 0 rfl) ?_
          refine lv_iload_n hx hb d_Terms_rewrite_192 rfl (lv_at hl 5 rfl) ?_
          refine lv_iload hx hb d_Terms_rewrite_193 (lv_at hl 1 rfl) ?_
          refine kg_p (As := [.int y1, .int y6, .int y3, .int y5]) (rest := []) (k_Terms_changedName (l := l) (g := g) (α := γ) y1 y6 y3 y5) S E hI.1 kw_Terms_128 ⟨Nat.le_of_ble_eq_true rfl, Nat.le_of_ble_eq_true rfl⟩ hI.room (kv_Terms E hI.1) rfl hl.1 rfl (Nat.le_of_ble_eq_true rfl) d_Terms_rewrite_195 rfl ?_
          refine lv_istore (lv' := [(7, .int (f_Terms_changedName y1 y6 y3 y5 γ)), (6, .int y6), (5, .int y5), (4, .int y4), (0, .ref (kad g 2)), (1, .int y1), (3, .int y3)]) hx hb d_Terms_rewrite_198 hl (by decide) rfl (fun ls hl => ?_)
          refine lv_aload_n hx hb d_Terms_rewrite_200 rfl (lv_at hl 4 rfl) ?_
          refine lv_iload hx hb d_Terms_rewrite_201 (lv_at hl 1 rfl) ?_
          refine kg_p (As := [.int y6]) (rest := []) (k_Terms_kind (l := l) (g := g) (α := γ) y6) S E hI.1 kw_Terms_52 ⟨Nat.le_of_ble_eq_true rfl, Nat.le_of_ble_eq_true rfl⟩ hI.room (kv_Terms E hI.1) rfl hl.1 rfl (Nat.le_of_ble_eq_true rfl) d_Terms_rewrite_203 rfl ?_
          refine lv_iconst (v := 4) hx hb d_Terms_rewrite_206 (by decide) ?_
          refine lv_icmp_ne (tgt := 225) hx hb d_Terms_rewrite_207 (by decide) (fun c27 => ?_) (fun c27 => ?_)
          · replace h := Eq.trans (if_neg c27).symm h
            exact J225 (f_Terms_changedName y1 y6 y3 y5 γ) y6 y4 y1 y3 _ _ _ _ _ _ _ h hI (lv_sub hl [0, 1, 3, 4, 5, 6] rfl)
          · replace h := Eq.trans (if_pos c27).symm h
            refine lv_aload_n hx hb d_Terms_rewrite_210 rfl (lv_at hl 4 rfl) ?_
            refine lv_iload hx hb d_Terms_rewrite_211 (lv_at hl 1 rfl) ?_
            refine kg_p (As := [.int y6]) (rest := []) (k_Terms_right (l := l) (g := g) (α := γ) y6) S E hI.1 kw_Terms_59 ⟨Nat.le_of_ble_eq_true rfl, Nat.le_of_ble_eq_true rfl⟩ hI.room (kv_Terms E hI.1) rfl hl.1 rfl (Nat.le_of_ble_eq_true rfl) d_Terms_rewrite_213 rfl ?_
            refine lv_bipush (v := 101) hx hb d_Terms_rewrite_216 (by decide) ?_
            refine lv_icmp_ne (tgt := 225) hx hb d_Terms_rewrite_218 (by decide) (fun c33 => ?_) (fun c33 => ?_)
            · replace h := Eq.trans (if_neg c33).symm h
              exact J225 (f_Terms_changedName y1 y6 y3 y5 γ) y6 y4 y1 y3 _ _ _ _ _ _ _ h hI (lv_sub hl [0, 1, 3, 4, 5, 6] rfl)
            · replace h := Eq.trans (if_pos c33).symm h
              refine lv_iload_n hx hb d_Terms_rewrite_221 rfl (lv_at hl 6 rfl) ?_
              refine lv_goto (tgt := 231) hx hb d_Terms_rewrite_222 (by decide) ?_
              exact J231 (f_Terms_changedName y1 y6 y3 y5 γ) y6 y4 y1 y3 y3 _ _ _ _ _ _ _ h hI (lv_sub hl [0, 1, 3, 4, 5, 6] rfl)
      refine lv_iload hx hb d_Terms_rewrite_43 (lv_at hl 0 rfl) ?_
      refine lv_ldc (v := 16777216) hx hb hown (hT _ vt_90) d_Terms_rewrite_45 ?_
      refine lv_icmp_ge (tgt := 340) hx hb d_Terms_rewrite_47 (by decide) (fun c5 => ?_) (fun c5 => ?_)
      · replace h := Eq.trans (if_pos c5).symm h
        exact J340 x1 _ _ _ _ _ _ _ h hI (lv_sub hl [1, 2] rfl)
      · replace h := Eq.trans (if_neg c5).symm h
        refine lv_aload_n hx hb d_Terms_rewrite_50 rfl (lv_at hl 1 rfl) ?_
        refine kf_Terms_todo S E hI.1 vt_92 d_Terms_rewrite_51 ?_
        refine kg_p (As := []) (rest := []) (k_Row_size (l := l) (g := g) (α := β) (r := 2) (by decide)) S E hI.1 kw_Terms_115 ⟨Nat.le_of_ble_eq_true rfl, Nat.le_of_ble_eq_true rfl⟩ hI.room (kv_Row (r := 2) (by decide) E hI.1) rfl hl.1 rfl (Nat.le_of_ble_eq_true rfl) d_Terms_rewrite_54 rfl ?_
        refine lv_if_le (tgt := 340) hx hb d_Terms_rewrite_57 (by decide) (fun c10 => ?_) (fun c10 => ?_)
        · replace h := Eq.trans (if_pos c10).symm h
          exact J340 x1 _ _ _ _ _ _ _ h hI (lv_sub hl [1, 2] rfl)
        · replace h := Eq.trans (if_neg c10).symm h
          refine lv_aload_n hx hb d_Terms_rewrite_60 rfl (lv_at hl 1 rfl) ?_
          refine kf_Terms_offsets S E hI.1 vt_93 d_Terms_rewrite_61 ?_
          refine kg_tI (As := []) (rest := []) (k_Row_pop (l := l) (g := g) (α := β) (r := 3) (by decide)) S hlocks hno E hI kw_Terms_118 ⟨Nat.le_of_ble_eq_true rfl, Nat.le_of_ble_eq_true rfl⟩ (kv_Row (r := 3) (by decide) E hI.1) rfl hl.1 rfl (Nat.le_of_ble_eq_true rfl) d_Terms_rewrite_64 (fun ad H locs cells slots hRm hI => ?_)
          refine lv_istore (lv' := [(5, .int (fR_pop β 3).1), (4, .int x4), (0, .ref (kad g 2)), (1, .int x1), (3, .int x3)]) hx hb d_Terms_rewrite_67 hl (by decide) rfl (fun ls hl => ?_)
          refine lv_aload_n hx hb d_Terms_rewrite_69 rfl (lv_at hl 2 rfl) ?_
          refine kf_Terms_todo S E hI.1 vt_92 d_Terms_rewrite_70 ?_
          refine kg_tI (As := []) (rest := []) (k_Row_pop (l := l) (g := g) (α := (fR_pop β 3).2) (r := 2) (by decide)) S hlocks hno E hI kw_Terms_118 ⟨Nat.le_of_ble_eq_true rfl, Nat.le_of_ble_eq_true rfl⟩ (kv_Row (r := 2) (by decide) E hI.1) rfl hl.1 rfl (Nat.le_of_ble_eq_true rfl) d_Terms_rewrite_73 (fun ad H locs cells slots hRm hI => ?_)
          refine lv_istore (lv' := [(6, .int (fR_pop (fR_pop β 3).2 2).1), (5, .int (fR_pop β 3).1), (4, .int x4), (0, .ref (kad g 2)), (1, .int x1), (3, .int x3)]) hx hb d_Terms_rewrite_76 hl (by decide) rfl (fun ls hl => ?_)
          refine lv_iload hx hb d_Terms_rewrite_78 (lv_at hl 0 rfl) ?_
          refine lv_if_ge (tgt := 127) hx hb d_Terms_rewrite_80 (by decide) (fun c11 => ?_) (fun c11 => ?_)
          · replace h := Eq.trans (if_pos c11).symm h
            refine lv_aload_n hx hb d_Terms_rewrite_127 rfl (lv_at hl 3 rfl) ?_
            refine lv_iload_n hx hb d_Terms_rewrite_128 rfl (lv_at hl 4 rfl) ?_
            refine lv_iload hx hb d_Terms_rewrite_129 (lv_at hl 0 rfl) ?_
            refine lv_iload_n hx hb d_Terms_rewrite_131 rfl (lv_at hl 5 rfl) ?_
            refine lv_iload hx hb d_Terms_rewrite_132 (lv_at hl 1 rfl) ?_
            refine kg_p (As := [.int x1, .int (fR_pop (fR_pop β 3).2 2).1, .int x3, .int (fR_pop β 3).1]) (rest := []) (k_Terms_isUntouched (l := l) (g := g) (α := (fR_pop (fR_pop β 3).2 2).2) x1 (fR_pop (fR_pop β 3).2 2).1 x3 (fR_pop β 3).1) S E hI.1 kw_Terms_124 ⟨Nat.le_of_ble_eq_true rfl, Nat.le_of_ble_eq_true rfl⟩ hI.room (kv_Terms E hI.1) rfl hl.1 rfl (Nat.le_of_ble_eq_true rfl) d_Terms_rewrite_134 rfl ?_
            refine lv_if_eq (tgt := 152) hx hb d_Terms_rewrite_137 (by decide) (fun c12 => ?_) (fun c12 => ?_)
            · replace h := Eq.trans (if_pos c12).symm h
              refine lv_aload_n hx hb d_Terms_rewrite_152 rfl (lv_at hl 3 rfl) ?_
              refine lv_iload hx hb d_Terms_rewrite_153 (lv_at hl 0 rfl) ?_
              refine kg_p (As := [.int (fR_pop (fR_pop β 3).2 2).1]) (rest := []) (k_Terms_kind (l := l) (g := g) (α := (fR_pop (fR_pop β 3).2 2).2) (fR_pop (fR_pop β 3).2 2).1) S E hI.1 kw_Terms_52 ⟨Nat.le_of_ble_eq_true rfl, Nat.le_of_ble_eq_true rfl⟩ hI.room (kv_Terms E hI.1) rfl hl.1 rfl (Nat.le_of_ble_eq_true rfl) d_Terms_rewrite_155 rfl ?_
              refine lv_iconst (v := 5) hx hb d_Terms_rewrite_158 (by decide) ?_
              refine lv_icmp_ge (tgt := 178) hx hb d_Terms_rewrite_159 (by decide) (fun c13 => ?_) (fun c13 => ?_)
              · replace h := Eq.trans (if_pos c13).symm h
                exact J178 (fR_pop (fR_pop β 3).2 2).1 (fR_pop β 3).1 x4 x1 x3 _ _ _ _ _ _ _ h hI (lv_sub hl [0, 1, 2, 3, 4, 5] rfl)
              · replace h := Eq.trans (if_neg c13).symm h
                refine lv_iload_n hx hb d_Terms_rewrite_162 rfl (lv_at hl 4 rfl) ?_
                refine lv_iconst (v := 1) hx hb d_Terms_rewrite_163 (by decide) ?_
                refine lv_icmp_gt (tgt := 178) hx hb d_Terms_rewrite_164 (by decide) (fun c34 => ?_) (fun c34 => ?_)
                · replace h := Eq.trans (if_pos c34).symm h
                  exact J178 (fR_pop (fR_pop β 3).2 2).1 (fR_pop β 3).1 x4 x1 x3 _ _ _ _ _ _ _ h hI (lv_sub hl [0, 1, 2, 3, 4, 5] rfl)
                · replace h := Eq.trans (if_neg c34).symm h
                  refine lv_aload_n hx hb d_Terms_rewrite_167 rfl (lv_at hl 3 rfl) ?_
                  refine kf_Terms_built S E hI.1 vt_94 d_Terms_rewrite_168 ?_
                  refine lv_iload_n hx hb d_Terms_rewrite_171 rfl (lv_at hl 5 rfl) ?_
                  refine kg_cV (As := [.int x3]) (rest := []) h (k_Row_push (l := l) (g := g) (α := (fR_pop (fR_pop β 3).2 2).2) (r := 4) (by decide) x3) S hlocks hno E hI kw_Terms_112 ⟨Nat.le_of_ble_eq_true rfl, Nat.le_of_ble_eq_true rfl⟩ (kv_Row (r := 4) (by decide) E hI.1) rfl hl.1 rfl (Nat.le_of_ble_eq_true rfl) d_Terms_rewrite_172 (fun α35 ad H locs cells slots e36 h hRm hI => ?_)
                  refine lv_goto (tgt := 334) hx hb d_Terms_rewrite_175 (by decide) ?_
                  refine lv_iinc (v := (x4 + 1)) (lv' := [(4, .int (x4 + 1)), (6, .int (fR_pop (fR_pop β 3).2 2).1), (5, .int (fR_pop β 3).1), (0, .ref (kad g 2)), (1, .int x1), (3, .int x3)]) hx hb d_Terms_rewrite_334 hl (k := 2) rfl rfl (by decide) rfl (fun ls hl => ?_)
                  refine lv_goto (tgt := 43) hx hb d_Terms_rewrite_337 (by decide) ?_
                  exact ih43 (x4 + 1) x1 x3 _ _ _ _ _ _ _ h hI (lv_sub hl [0, 3, 4, 5] rfl)
            · replace h := Eq.trans (if_neg c12).symm h
              refine lv_aload_n hx hb d_Terms_rewrite_140 rfl (lv_at hl 3 rfl) ?_
              refine kf_Terms_built S E hI.1 vt_94 d_Terms_rewrite_141 ?_
              refine lv_iload hx hb d_Terms_rewrite_144 (lv_at hl 0 rfl) ?_
              refine kg_cV (As := [.int (fR_pop (fR_pop β 3).2 2).1]) (rest := []) h (k_Row_push (l := l) (g := g) (α := (fR_pop (fR_pop β 3).2 2).2) (r := 4) (by decide) (fR_pop (fR_pop β 3).2 2).1) S hlocks hno E hI kw_Terms_112 ⟨Nat.le_of_ble_eq_true rfl, Nat.le_of_ble_eq_true rfl⟩ (kv_Row (r := 4) (by decide) E hI.1) rfl hl.1 rfl (Nat.le_of_ble_eq_true rfl) d_Terms_rewrite_146 (fun α37 ad H locs cells slots e38 h hRm hI => ?_)
              refine lv_goto (tgt := 334) hx hb d_Terms_rewrite_149 (by decide) ?_
              refine lv_iinc (v := (x4 + 1)) (lv' := [(4, .int (x4 + 1)), (6, .int (fR_pop (fR_pop β 3).2 2).1), (5, .int (fR_pop β 3).1), (0, .ref (kad g 2)), (1, .int x1), (3, .int x3)]) hx hb d_Terms_rewrite_334 hl (k := 2) rfl rfl (by decide) rfl (fun ls hl => ?_)
              refine lv_goto (tgt := 43) hx hb d_Terms_rewrite_337 (by decide) ?_
              exact ih43 (x4 + 1) x1 x3 _ _ _ _ _ _ _ h hI (lv_sub hl [0, 3, 4, 5] rfl)
          · replace h := Eq.trans (if_neg c11).symm h
            refine lv_aload_n hx hb d_Terms_rewrite_83 rfl (lv_at hl 3 rfl) ?_
            refine kf_Terms_built S E hI.1 vt_94 d_Terms_rewrite_84 ?_
            refine kg_tI (As := []) (rest := []) (k_Row_pop (l := l) (g := g) (α := (fR_pop (fR_pop β 3).2 2).2) (r := 4) (by decide)) S hlocks hno E hI kw_Terms_118 ⟨Nat.le_of_ble_eq_true rfl, Nat.le_of_ble_eq_true rfl⟩ (kv_Row (r := 4) (by decide) E hI.1) rfl hl.1 rfl (Nat.le_of_ble_eq_true rfl) d_Terms_rewrite_87 (fun ad H locs cells slots hRm hI => ?_)
            refine lv_istore (lv' := [(7, .int (fR_pop (fR_pop (fR_pop β 3).2 2).2 4).1), (6, .int (fR_pop (fR_pop β 3).2 2).1), (5, .int (fR_pop β 3).1), (4, .int x4), (0, .ref (kad g 2)), (1, .int x1), (3, .int x3)]) hx hb d_Terms_rewrite_90 hl (by decide) rfl (fun ls hl => ?_)
            refine lv_aload_n hx hb d_Terms_rewrite_92 rfl (lv_at hl 4 rfl) ?_
            refine kf_Terms_built S E hI.1 vt_94 d_Terms_rewrite_93 ?_
            refine kg_tI (As := []) (rest := []) (k_Row_pop (l := l) (g := g) (α := (fR_pop (fR_pop (fR_pop β 3).2 2).2 4).2) (r := 4) (by decide)) S hlocks hno E hI kw_Terms_118 ⟨Nat.le_of_ble_eq_true rfl, Nat.le_of_ble_eq_true rfl⟩ (kv_Row (r := 4) (by decide) E hI.1) rfl hl.1 rfl (Nat.le_of_ble_eq_true rfl) d_Terms_rewrite_96 (fun ad H locs cells slots hRm hI => ?_)
            refine lv_istore (lv' := [(8, .int (fR_pop (fR_pop (fR_pop (fR_pop β 3).2 2).2 4).2 4).1), (7, .int (fR_pop (fR_pop (fR_pop β 3).2 2).2 4).1), (6, .int (fR_pop (fR_pop β 3).2 2).1), (5, .int (fR_pop β 3).1), (4, .int x4), (0, .ref (kad g 2)), (1, .int x1), (3, .int x3)]) hx hb d_Terms_rewrite_99 hl (by decide) rfl (fun ls hl => ?_)
            refine lv_aload_n hx hb d_Terms_rewrite_101 rfl (lv_at hl 5 rfl) ?_
            refine kf_Terms_built S E hI.1 vt_94 d_Terms_rewrite_102 ?_
            refine lv_aload_n hx hb d_Terms_rewrite_105 rfl (lv_at hl 5 rfl) ?_
            refine lv_aload_n hx hb d_Terms_rewrite_106 rfl (lv_at hl 5 rfl) ?_
            refine lv_iconst (v := (-1)) hx hb d_Terms_rewrite_107 (by decide) ?_
            refine lv_iload hx hb d_Terms_rewrite_108 (lv_at hl 2 rfl) ?_
            refine lv_isub hx hb d_Terms_rewrite_110 ?_
            refine kg_p (As := [.int ((-1) - (fR_pop (fR_pop β 3).2 2).1)]) (rest := [.ref (kad g 2), .ref (kad g (11 + 4))]) (k_Terms_kind (l := l) (g := g) (α := (fR_pop (fR_pop (fR_pop (fR_pop β 3).2 2).2 4).2 4).2) ((-1) - (fR_pop (fR_pop β 3).2 2).1)) S E hI.1 kw_Terms_52 ⟨Nat.le_of_ble_eq_true rfl, Nat.le_of_ble_eq_true rfl⟩ hI.room (kv_Terms E hI.1) rfl hl.1 rfl (Nat.le_of_ble_eq_true rfl) d_Terms_rewrite_111 rfl ?_
            refine lv_iload hx hb d_Terms_rewrite_114 (lv_at hl 0 rfl) ?_
            refine lv_iload hx hb d_Terms_rewrite_116 (lv_at hl 1 rfl) ?_
            refine kg_cI (As := [.int (f_Terms_kind ((-1) - (fR_pop (fR_pop β 3).2 2).1) (fR_pop (fR_pop (fR_pop (fR_pop β 3).2 2).2 4).2 4).2), .int (fR_pop (fR_pop (fR_pop (fR_pop β 3).2 2).2 4).2 4).1, .int (fR_pop (fR_pop (fR_pop β 3).2 2).2 4).1]) (rest := [.ref (kad g (11 + 4))]) h (k_Terms_make (l := l) (g := g) (α := (fR_pop (fR_pop (fR_pop (fR_pop β 3).2 2).2 4).2 4).2) hfl N (f_Terms_kind ((-1) - (fR_pop (fR_pop β 3).2 2).1) (fR_pop (fR_pop (fR_pop (fR_pop β 3).2 2).2 4).2 4).2) (fR_pop (fR_pop (fR_pop (fR_pop β 3).2 2).2 4).2 4).1 (fR_pop (fR_pop (fR_pop β 3).2 2).2 4).1) S hlocks hno E hI kw_Terms_121 ⟨Nat.le_of_ble_eq_true rfl, Nat.le_of_ble_eq_true rfl⟩ (kv_Terms E hI.1) rfl hl.1 rfl (Nat.le_of_ble_eq_true rfl) d_Terms_rewrite_118 (fun v41 α39 ad H locs cells slots e40 h hRm hI => ?_)
            refine kg_cV (As := [.int v41]) (rest := []) h (k_Row_push (l := l) (g := g) (α := α39) (r := 4) (by decide) v41) S hlocks hno E hI kw_Terms_112 ⟨Nat.le_of_ble_eq_true rfl, Nat.le_of_ble_eq_true rfl⟩ (kv_Row (r := 4) (by decide) E hI.1) rfl hl.1 rfl (Nat.le_of_ble_eq_true rfl) d_Terms_rewrite_121 (fun α42 ad H locs cells slots e43 h hRm hI => ?_)
            refine lv_goto (tgt := 334) hx hb d_Terms_rewrite_124 (by decide) ?_
            refine lv_iinc (v := (x4 + 1)) (lv' := [(4, .int (x4 + 1)), (8, .int (fR_pop (fR_pop (fR_pop (fR_pop β 3).2 2).2 4).2 4).1), (7, .int (fR_pop (fR_pop (fR_pop β 3).2 2).2 4).1), (6, .int (fR_pop (fR_pop β 3).2 2).1), (5, .int (fR_pop β 3).1), (0, .ref (kad g 2)), (1, .int x1), (3, .int x3)]) hx hb d_Terms_rewrite_334 hl (k := 4) rfl rfl (by decide) rfl (fun ls hl => ?_)
            refine lv_goto (tgt := 43) hx hb d_Terms_rewrite_337 (by decide) ?_
            exact ih43 (x4 + 1) x1 x3 _ _ _ _ _ _ _ h hI (lv_sub hl [0, 5, 6, 7] rfl)
  exact L43 N 0 a1 a3 _ _ _ _ _ _ _ h hI (lv_sub hl [0, 1, 2, 4] rfl)
def f_Terms_has_j132 (N : Nat)  (k35 : Int32 → Int32 → Int32 → kS → Option (kO × kS)) (y6 : Int32) (y5 : Int32) (y4 : Int32) (y2 : Int32) (y3 : Int32) (γ : kS) : Option (kO × kS) := kBv (fR_push γ 2 (f_Terms_right y6 γ)) fun α11 => (kBv (fR_push α11 3 (y5 + (f_Terms_binds (f_Terms_kind y6 α11) α11))) fun α13 => (kBv (fR_push α13 2 (f_Terms_left y6 α13)) fun α15 => (kBv (fR_push α15 3 y5) fun α17 => (k35 (y4 + 1) y2 y3 α17))))
def f_Terms_has_j107 (N : Nat)  (k35 : Int32 → Int32 → Int32 → kS → Option (kO × kS)) (y7 : Int32) (y6 : Int32) (y5 : Int32) (y4 : Int32) (y2 : Int32) (y3 : Int32) (γ : kS) : Option (kO × kS) := if (f_Terms_kind y6 γ) < 5 then (k35 (y4 + 1) y2 y3 γ) else (if y2 = 0 then (if (f_Terms_loose y6 γ) ≤ y7 then (k35 (y4 + 1) y2 y3 γ) else (f_Terms_has_j132 N k35 y6 y5 y4 y2 y3 γ)) else (f_Terms_has_j132 N k35 y6 y5 y4 y2 y3 γ))
def f_Terms_has_j82 (N : Nat)  (k35 : Int32 → Int32 → Int32 → kS → Option (kO × kS)) (y6 : Int32) (y5 : Int32) (y4 : Int32) (y2 : Int32) (y3 : Int32) (t0 : Int32) (γ : kS) : Option (kO × kS) := if (f_Terms_kind y6 γ) = y2 then (if (f_Terms_left y6 γ) = t0 then (some (some (some 1), γ)) else (f_Terms_has_j107 N k35 t0 y6 y5 y4 y2 y3 γ)) else (f_Terms_has_j107 N k35 t0 y6 y5 y4 y2 y3 γ)
def f_Terms_has_35 (N : Nat)  : Nat → Int32 → Int32 → Int32 → kS → Option (kO × kS)
  | 0, _, _, _, _ => none
  | n + 1, x4, x2, x3, β => if 16777216 ≤ x4 then (some (some (some 0), β)) else (if (fR_size β 2) ≤ 0 then (some (some (some 0), β)) else (if x2 = 0 then (f_Terms_has_j82 N (f_Terms_has_35 N n) (fR_pop (fR_pop β 3).2 2).1 (fR_pop β 3).1 x4 x2 x3 (x3 + (fR_pop β 3).1) (fR_pop (fR_pop β 3).2 2).2) else (f_Terms_has_j82 N (f_Terms_has_35 N n) (fR_pop (fR_pop β 3).2 2).1 (fR_pop β 3).1 x4 x2 x3 x3 (fR_pop (fR_pop β 3).2 2).2)))
def f_Terms_has (N : Nat) (a1 : Int32) (a2 : Int32) (a3 : Int32) (α : kS) : Option (kO × kS) := kBv (fR_push (fR_cut (fR_cut α 2 0) 3 0) 2 a1) fun α1 => (kBv (fR_push α1 3 0) fun α3 => (f_Terms_has_35 N N 0 a2 a3 α3))
set_option maxHeartbeats 4000000 in
set_option maxRecDepth 100000 in
theorem k_Terms_has {l : Launch} {g : kG} {α : kS} (hfl : kFl l) (N : Nat) (a1 : Int32) (a2 : Int32) (a3 : Int32)  : ∀ x, f_Terms_has N a1 a2 a3 α = some x → kC l g y_Terms_has b_Terms_has 8 (some .boolean) 31 921 [.ref (kad g 2), .int a1, .int a2, .int a3] α (kQr x) := by
  intro x h
  unfold f_Terms_has at h
  refine kc_ofW (by decide) (fun A ad0 p e s m args below meth c S hr hlocks hno hadm hargs E hI => ?_)
  have hx := S.1
  have hb := S.2.1
  have hown := S.2.2.2.1
  have hT := S.2.2.2.2
  subst hargs
  have hl := lv_entry ([.ref (kad g 2), .int a1, .int a2, .int a3]) (n := 8) (Nat.le_of_ble_eq_true rfl)
  rw [lg_entry_eq]
  generalize (lg_sl ([.ref (kad g 2), .int a1, .int a2, .int a3]) ++ List.replicate (8 - (lg_sl ([.ref (kad g 2), .int a1, .int a2, .int a3])).length) Slot.unset).toArray = ls at hl ⊢
  have hl : lv_has ls 8 [(0, .ref (kad g 2)), (1, .int a1), (2, .int a2), (3, .int a3)] := hl
  refine lv_aload_n hx hb d_Terms_has_0 rfl (lv_at hl 0 rfl) ?_
  refine kf_Terms_todo S E hI.1 vt_92 d_Terms_has_1 ?_
  refine lv_iconst (v := 0) hx hb d_Terms_has_4 (by decide) ?_
  refine kg_tV (As := [.int 0]) (rest := []) (k_Row_cut (l := l) (g := g) (α := α) (r := 2) (by decide) 0) S hlocks hno E hI kw_Terms_109 ⟨Nat.le_of_ble_eq_true rfl, Nat.le_of_ble_eq_true rfl⟩ (kv_Row (r := 2) (by decide) E hI.1) rfl hl.1 rfl (Nat.le_of_ble_eq_true rfl) d_Terms_has_5 (fun ad H locs cells slots hRm hI => ?_)
  refine lv_aload_n hx hb d_Terms_has_8 rfl (lv_at hl 0 rfl) ?_
  refine kf_Terms_offsets S E hI.1 vt_93 d_Terms_has_9 ?_
  refine lv_iconst (v := 0) hx hb d_Terms_has_12 (by decide) ?_
  refine kg_tV (As := [.int 0]) (rest := []) (k_Row_cut (l := l) (g := g) (α := (fR_cut α 2 0)) (r := 3) (by decide) 0) S hlocks hno E hI kw_Terms_109 ⟨Nat.le_of_ble_eq_true rfl, Nat.le_of_ble_eq_true rfl⟩ (kv_Row (r := 3) (by decide) E hI.1) rfl hl.1 rfl (Nat.le_of_ble_eq_true rfl) d_Terms_has_13 (fun ad H locs cells slots hRm hI => ?_)
  refine lv_aload_n hx hb d_Terms_has_16 rfl (lv_at hl 0 rfl) ?_
  refine kf_Terms_todo S E hI.1 vt_92 d_Terms_has_17 ?_
  refine lv_iload_n hx hb d_Terms_has_20 rfl (lv_at hl 1 rfl) ?_
  refine kg_cV (As := [.int a1]) (rest := []) h (k_Row_push (l := l) (g := g) (α := (fR_cut (fR_cut α 2 0) 3 0)) (r := 2) (by decide) a1) S hlocks hno E hI kw_Terms_112 ⟨Nat.le_of_ble_eq_true rfl, Nat.le_of_ble_eq_true rfl⟩ (kv_Row (r := 2) (by decide) E hI.1) rfl hl.1 rfl (Nat.le_of_ble_eq_true rfl) d_Terms_has_21 (fun α1 ad H locs cells slots e2 h hRm hI => ?_)
  refine lv_aload_n hx hb d_Terms_has_24 rfl (lv_at hl 0 rfl) ?_
  refine kf_Terms_offsets S E hI.1 vt_93 d_Terms_has_25 ?_
  refine lv_iconst (v := 0) hx hb d_Terms_has_28 (by decide) ?_
  refine kg_cV (As := [.int 0]) (rest := []) h (k_Row_push (l := l) (g := g) (α := α1) (r := 3) (by decide) 0) S hlocks hno E hI kw_Terms_112 ⟨Nat.le_of_ble_eq_true rfl, Nat.le_of_ble_eq_true rfl⟩ (kv_Row (r := 3) (by decide) E hI.1) rfl hl.1 rfl (Nat.le_of_ble_eq_true rfl) d_Terms_has_29 (fun α3 ad H locs cells slots e4 h hRm hI => ?_)
  refine lv_iconst (v := 0) hx hb d_Terms_has_32 (by decide) ?_
  refine lv_istore (lv' := [(4, .int 0), (0, .ref (kad g 2)), (1, .int a1), (2, .int a2), (3, .int a3)]) hx hb d_Terms_has_33 hl (by decide) rfl (fun ls hl => ?_)
  have L35 : ∀ (n35 : Nat) (x4 : Int32) (x2 : Int32) (x3 : Int32) (β : kS) (ad : Nat → Nat) (H : Heap) (locs : List Loc) (cells slots : Nat) (ls : Array Slot), f_Terms_has_35 N n35 x4 x2 x3 β = some x → kI g A s α ad0 β ad H locs cells slots → lv_has ls 8 [(4, .int x4), (0, .ref (kad g 2)), (2, .int x2), (3, .int x3)] → W p l e (kR 31 921 α) s m ([.ref (kad g 2), .int a1, .int a2, .int a3]).toArray below meth c H locs cells slots (vEQ below (kQ g A α ad0 (kQr x)) ([.ref (kad g 2), .int a1, .int a2, .int a3]).toArray s A) (F0 m 35 ls []) := by
    intro n35
    induction n35 with
    | zero => intro x4 x2 x3 β ad H locs cells slots ls h hI hl; rw [f_Terms_has_35] at h; cases h
    | succ n35 ih35 =>
      intro x4 x2 x3 β ad H locs cells slots ls h hI hl
      rw [f_Terms_has_35] at h
      have J132 : ∀ (y6 : Int32) (y5 : Int32) (y4 : Int32) (y2 : Int32) (y3 : Int32) (γ : kS) (ad : Nat → Nat) (H : Heap) (locs : List Loc) (cells slots : Nat) (ls : Array Slot), f_Terms_has_j132 N (f_Terms_has_35 N n35) y6 y5 y4 y2 y3 γ = some x → kI g A s α ad0 γ ad H locs cells slots → lv_has ls 8 [(6, .int y6), (5, .int y5), (4, .int y4), (0, .ref (kad g 2)), (2, .int y2), (3, .int y3)] → W p l e (kR 31 921 α) s m ([.ref (kad g 2), .int a1, .int a2, .int a3]).toArray below meth c H locs cells slots (vEQ below (kQ g A α ad0 (kQr x)) ([.ref (kad g 2), .int a1, .int a2, .int a3]).toArray s A) (F0 m 132 ls []) := by
        intro y6 y5 y4 y2 y3 γ ad H locs cells slots ls h hI hl
        unfold f_Terms_has_j132 at h
        refine lv_aload_n hx hb d_Terms_has_132 rfl (lv_at hl 3 rfl) ?_
        refine kf_Terms_todo S E hI.1 vt_92 d_Terms_has_133 ?_
        refine lv_aload_n hx hb d_Terms_has_136 rfl (lv_at hl 3 rfl) ?_
        refine lv_iload hx hb d_Terms_has_137 (lv_at hl 0 rfl) ?_
        refine kg_p (As := [.int y6]) (rest := [.ref (kad g (11 + 2))]) (k_Terms_right (l := l) (g := g) (α := γ) y6) S E hI.1 kw_Terms_59 ⟨Nat.le_of_ble_eq_true rfl, Nat.le_of_ble_eq_true rfl⟩ hI.room (kv_Terms E hI.1) rfl hl.1 rfl (Nat.le_of_ble_eq_true rfl) d_Terms_has_139 rfl ?_
        refine kg_cV (As := [.int (f_Terms_right y6 γ)]) (rest := []) h (k_Row_push (l := l) (g := g) (α := γ) (r := 2) (by decide) (f_Terms_right y6 γ)) S hlocks hno E hI kw_Terms_112 ⟨Nat.le_of_ble_eq_true rfl, Nat.le_of_ble_eq_true rfl⟩ (kv_Row (r := 2) (by decide) E hI.1) rfl hl.1 rfl (Nat.le_of_ble_eq_true rfl) d_Terms_has_142 (fun α11 ad H locs cells slots e12 h hRm hI => ?_)
        refine lv_aload_n hx hb d_Terms_has_145 rfl (lv_at hl 3 rfl) ?_
        refine kf_Terms_offsets S E hI.1 vt_93 d_Terms_has_146 ?_
        refine lv_iload hx hb d_Terms_has_149 (lv_at hl 1 rfl) ?_
        refine lv_aload_n hx hb d_Terms_has_151 rfl (lv_at hl 3 rfl) ?_
        refine lv_iload hx hb d_Terms_has_152 (lv_at hl 0 rfl) ?_
        refine kg_p (As := [.int y6]) (rest := [.int y5, .ref (kad g (11 + 3))]) (k_Terms_kind (l := l) (g := g) (α := α11) y6) S E hI.1 kw_Terms_52 ⟨Nat.le_of_ble_eq_true rfl, Nat.le_of_ble_eq_true rfl⟩ hI.room (kv_Terms E hI.1) rfl hl.1 rfl (Nat.le_of_ble_eq_true rfl) d_Terms_has_154 rfl ?_
        refine kg_pS (As := [.int (f_Terms_kind y6 α11)]) (rest := [.int y5, .ref (kad g (11 + 3))]) (k_Terms_binds (l := l) (g := g) (α := α11) (f_Terms_kind y6 α11)) S E hI.1 kw_Terms_81 ⟨Nat.le_of_ble_eq_true rfl, Nat.le_of_ble_eq_true rfl⟩ hI.room rfl hl.1 rfl (Nat.le_of_ble_eq_true rfl) d_Terms_has_157 ?_
        refine lv_iadd hx hb d_Terms_has_160 ?_
        refine kg_cV (As := [.int (y5 + (f_Terms_binds (f_Terms_kind y6 α11) α11))]) (rest := []) h (k_Row_push (l := l) (g := g) (α := α11) (r := 3) (by decide) (y5 + (f_Terms_binds (f_Terms_kind y6 α11) α11))) S hlocks hno E hI kw_Terms_112 ⟨Nat.le_of_ble_eq_true rfl, Nat.le_of_ble_eq_true rfl⟩ (kv_Row (r := 3) (by decide) E hI.1) rfl hl.1 rfl (Nat.le_of_ble_eq_true rfl) d_Terms_has_161 (fun α13 ad H locs cells slots e14 h hRm hI => ?_)
        refine lv_aload_n hx hb d_Terms_has_164 rfl (lv_at hl 3 rfl) ?_
        refine kf_Terms_todo S E hI.1 vt_92 d_Terms_has_165 ?_
        refine lv_aload_n hx hb d_Terms_has_168 rfl (lv_at hl 3 rfl) ?_
        refine lv_iload hx hb d_Terms_has_169 (lv_at hl 0 rfl) ?_
        refine kg_p (As := [.int y6]) (rest := [.ref (kad g (11 + 2))]) (k_Terms_left (l := l) (g := g) (α := α13) y6) S E hI.1 kw_Terms_56 ⟨Nat.le_of_ble_eq_true rfl, Nat.le_of_ble_eq_true rfl⟩ hI.room (kv_Terms E hI.1) rfl hl.1 rfl (Nat.le_of_ble_eq_true rfl) d_Terms_has_171 rfl ?_
        refine kg_cV (As := [.int (f_Terms_left y6 α13)]) (rest := []) h (k_Row_push (l := l) (g := g) (α := α13) (r := 2) (by decide) (f_Terms_left y6 α13)) S hlocks hno E hI kw_Terms_112 ⟨Nat.le_of_ble_eq_true rfl, Nat.le_of_ble_eq_true rfl⟩ (kv_Row (r := 2) (by decide) E hI.1) rfl hl.1 rfl (Nat.le_of_ble_eq_true rfl) d_Terms_has_174 (fun α15 ad H locs cells slots e16 h hRm hI => ?_)
        refine lv_aload_n hx hb d_Terms_has_177 rfl (lv_at hl 3 rfl) ?_
        refine kf_Terms_offsets S E hI.1 vt_93 d_Terms_has_178 ?_
        refine lv_iload hx hb d_Terms_has_181 (lv_at hl 1 rfl) ?_
        refine kg_cV (As := [.int y5]) (rest := []) h (k_Row_push (l := l) (g := g) (α := α15) (r := 3) (by decide) y5) S hlocks hno E hI kw_Terms_112 ⟨Nat.le_of_ble_eq_true rfl, Nat.le_of_ble_eq_true rfl⟩ (kv_Row (r := 3) (by decide) E hI.1) rfl hl.1 rfl (Nat.le_of_ble_eq_true rfl) d_Terms_has_183 (fun α17 ad H locs cells slots e18 h hRm hI => ?_)
        refine lv_iinc (v := (y4 + 1)) (lv' := [(4, .int (y4 + 1)), (6, .int y6), (5, .int y5), (0, .ref (kad g 2)), (2, .int y2), (3, .int y3)]) hx hb d_Terms_has_186 hl (k := 2) rfl rfl (by decide) rfl (fun ls hl => ?_)
        refine lv_goto (tgt := 35) hx hb d_Terms_has_189 (by decide) ?_
        exact ih35 (y4 + 1) y2 y3 _ _ _ _ _ _ _ h hI (lv_sub hl [0, 3, 4, 5] rfl)
      have J107 : ∀ (y7 : Int32) (y6 : Int32) (y5 : Int32) (y4 : Int32) (y2 : Int32) (y3 : Int32) (γ : kS) (ad : Nat → Nat) (H : Heap) (locs : List Loc) (cells slots : Nat) (ls : Array Slot), f_Terms_has_j107 N (f_Terms_has_35 N n35) y7 y6 y5 y4 y2 y3 γ = some x → kI g A s α ad0 γ ad H locs cells slots → lv_has ls 8 [(7, .int y7), (6, .int y6), (5, .int y5), (4, .int y4), (0, .ref (kad g 2)), (2, .int y2), (3, .int y3)] → W p l e (kR 31 921 α) s m ([.ref (kad g 2), .int a1, .int a2, .int a3]).toArray below meth c H locs cells slots (vEQ below (kQ g A α ad0 (kQr x)) ([.ref (kad g 2), .int a1, .int a2, .int a3]).toArray s A) (F0 m 107 ls []) := by
        intro y7 y6 y5 y4 y2 y3 γ ad H locs cells slots ls h hI hl
        unfold f_Terms_has_j107 at h
        refine lv_aload_n hx hb d_Terms_has_107 rfl (lv_at hl 4 rfl) ?_
        refine lv_iload hx hb d_Terms_has_108 (lv_at hl 1 rfl) ?_
        refine kg_p (As := [.int y6]) (rest := []) (k_Terms_kind (l := l) (g := g) (α := γ) y6) S E hI.1 kw_Terms_52 ⟨Nat.le_of_ble_eq_true rfl, Nat.le_of_ble_eq_true rfl⟩ hI.room (kv_Terms E hI.1) rfl hl.1 rfl (Nat.le_of_ble_eq_true rfl) d_Terms_has_110 rfl ?_
        refine lv_iconst (v := 5) hx hb d_Terms_has_113 (by decide) ?_
        refine lv_icmp_lt (tgt := 186) hx hb d_Terms_has_114 (by decide) (fun c9 => ?_) (fun c9 => ?_)
        · replace h := Eq.trans (if_pos c9).symm h
          refine lv_iinc (v := (y4 + 1)) (lv' := [(4, .int (y4 + 1)), (7, .int y7), (6, .int y6), (5, .int y5), (0, .ref (kad g 2)), (2, .int y2), (3, .int y3)]) hx hb d_Terms_has_186 hl (k := 3) rfl rfl (by decide) rfl (fun ls hl => ?_)
          refine lv_goto (tgt := 35) hx hb d_Terms_has_189 (by decide) ?_
          exact ih35 (y4 + 1) y2 y3 _ _ _ _ _ _ _ h hI (lv_sub hl [0, 4, 5, 6] rfl)
        · replace h := Eq.trans (if_neg c9).symm h
          refine lv_iload_n hx hb d_Terms_has_117 rfl (lv_at hl 5 rfl) ?_
          refine lv_if_ne (tgt := 132) hx hb d_Terms_has_118 (by decide) (fun c10 => ?_) (fun c10 => ?_)
          · replace h := Eq.trans (if_neg c10).symm h
            exact J132 y6 y5 y4 y2 y3 _ _ _ _ _ _ _ h hI (lv_sub hl [1, 2, 3, 4, 5, 6] rfl)
          · replace h := Eq.trans (if_pos c10).symm h
            refine lv_aload_n hx hb d_Terms_has_121 rfl (lv_at hl 4 rfl) ?_
            refine lv_iload hx hb d_Terms_has_122 (lv_at hl 1 rfl) ?_
            refine kg_p (As := [.int y6]) (rest := []) (k_Terms_loose (l := l) (g := g) (α := γ) y6) S E hI.1 kw_Terms_78 ⟨Nat.le_of_ble_eq_true rfl, Nat.le_of_ble_eq_true rfl⟩ hI.room (kv_Terms E hI.1) rfl hl.1 rfl (Nat.le_of_ble_eq_true rfl) d_Terms_has_124 rfl ?_
            refine lv_iload hx hb d_Terms_has_127 (lv_at hl 0 rfl) ?_
            refine lv_icmp_le (tgt := 186) hx hb d_Terms_has_129 (by decide) (fun c19 => ?_) (fun c19 => ?_)
            · replace h := Eq.trans (if_pos c19).symm h
              refine lv_iinc (v := (y4 + 1)) (lv' := [(4, .int (y4 + 1)), (7, .int y7), (6, .int y6), (5, .int y5), (0, .ref (kad g 2)), (2, .int y2), (3, .int y3)]) hx hb d_Terms_has_186 hl (k := 3) rfl rfl (by decide) rfl (fun ls hl => ?_)
              refine lv_goto (tgt := 35) hx hb d_Terms_has_189 (by decide) ?_
              exact ih35 (y4 + 1) y2 y3 _ _ _ _ _ _ _ h hI (lv_sub hl [0, 4, 5, 6] rfl)
            · replace h := Eq.trans (if_neg c19).symm h
              exact J132 y6 y5 y4 y2 y3 _ _ _ _ _ _ _ h hI (lv_sub hl [1, 2, 3, 4, 5, 6] rfl)
      have J82 : ∀ (y6 : Int32) (y5 : Int32) (y4 : Int32) (y2 : Int32) (y3 : Int32) (t0 : Int32) (γ : kS) (ad : Nat → Nat) (H : Heap) (locs : List Loc) (cells slots : Nat) (ls : Array Slot), f_Terms_has_j82 N (f_Terms_has_35 N n35) y6 y5 y4 y2 y3 t0 γ = some x → kI g A s α ad0 γ ad H locs cells slots → lv_has ls 8 [(6, .int y6), (5, .int y5), (4, .int y4), (0, .ref (kad g 2)), (2, .int y2), (3, .int y3)] → W p l e (kR 31 921 α) s m ([.ref (kad g 2), .int a1, .int a2, .int a3]).toArray below meth c H locs cells slots (vEQ below (kQ g A α ad0 (kQr x)) ([.ref (kad g 2), .int a1, .int a2, .int a3]).toArray s A) (F0 m 82 ls [.int t0]) := by
        intro y6 y5 y4 y2 y3 t0 γ ad H locs cells slots ls h hI hl
        unfold f_Terms_has_j82 at h
        refine lv_istore (lv' := [(7, .int t0), (6, .int y6), (5, .int y5), (4, .int y4), (0, .ref (kad g 2)), (2, .int y2), (3, .int y3)]) hx hb d_Terms_has_82 hl (by decide) rfl (fun ls hl => ?_)
        refine lv_aload_n hx hb d_Terms_has_84 rfl (lv_at hl 4 rfl) ?_
        refine lv_iload hx hb d_Terms_has_85 (lv_at hl 1 rfl) ?_
        refine kg_p (As := [.int y6]) (rest := []) (k_Terms_kind (l := l) (g := g) (α := γ) y6) S E hI.1 kw_Terms_52 ⟨Nat.le_of_ble_eq_true rfl, Nat.le_of_ble_eq_true rfl⟩ hI.room (kv_Terms E hI.1) rfl hl.1 rfl (Nat.le_of_ble_eq_true rfl) d_Terms_has_87 rfl ?_
        refine lv_iload_n hx hb d_Terms_has_90 rfl (lv_at hl 5 rfl) ?_
        refine lv_icmp_ne (tgt := 107) hx hb d_Terms_has_91 (by decide) (fun c8 => ?_) (fun c8 => ?_)
        · replace h := Eq.trans (if_neg c8).symm h
          exact J107 t0 y6 y5 y4 y2 y3 _ _ _ _ _ _ _ h hI (lv_sub hl [0, 1, 2, 3, 4, 5, 6] rfl)
        · replace h := Eq.trans (if_pos c8).symm h
          refine lv_aload_n hx hb d_Terms_has_94 rfl (lv_at hl 4 rfl) ?_
          refine lv_iload hx hb d_Terms_has_95 (lv_at hl 1 rfl) ?_
          refine kg_p (As := [.int y6]) (rest := []) (k_Terms_left (l := l) (g := g) (α := γ) y6) S E hI.1 kw_Terms_56 ⟨Nat.le_of_ble_eq_true rfl, Nat.le_of_ble_eq_true rfl⟩ hI.room (kv_Terms E hI.1) rfl hl.1 rfl (Nat.le_of_ble_eq_true rfl) d_Terms_has_97 rfl ?_
          refine lv_iload hx hb d_Terms_has_100 (lv_at hl 0 rfl) ?_
          refine lv_icmp_ne (tgt := 107) hx hb d_Terms_has_102 (by decide) (fun c20 => ?_) (fun c20 => ?_)
          · replace h := Eq.trans (if_neg c20).symm h
            exact J107 t0 y6 y5 y4 y2 y3 _ _ _ _ _ _ _ h hI (lv_sub hl [0, 1, 2, 3, 4, 5, 6] rfl)
          · replace h := Eq.trans (if_pos c20).symm h
            refine lv_iconst (v := 1) hx hb d_Terms_has_105 (by decide) ?_
            exact kc_iret (w := 1) hx hb hr (by decide) hlocks E hI h d_Terms_has_106
      refine lv_iload hx hb d_Terms_has_35 (lv_at hl 0 rfl) ?_
      refine lv_ldc (v := 16777216) hx hb hown (hT _ vt_90) d_Terms_has_37 ?_
      refine lv_icmp_ge (tgt := 192) hx hb d_Terms_has_39 (by decide) (fun c5 => ?_) (fun c5 => ?_)
      · replace h := Eq.trans (if_pos c5).symm h
        refine lv_iconst (v := 0) hx hb d_Terms_has_192 (by decide) ?_
        exact kc_iret (w := 0) hx hb hr (by decide) hlocks E hI h d_Terms_has_193
      · replace h := Eq.trans (if_neg c5).symm h
        refine lv_aload_n hx hb d_Terms_has_42 rfl (lv_at hl 1 rfl) ?_
        refine kf_Terms_todo S E hI.1 vt_92 d_Terms_has_43 ?_
        refine kg_p (As := []) (rest := []) (k_Row_size (l := l) (g := g) (α := β) (r := 2) (by decide)) S E hI.1 kw_Terms_115 ⟨Nat.le_of_ble_eq_true rfl, Nat.le_of_ble_eq_true rfl⟩ hI.room (kv_Row (r := 2) (by decide) E hI.1) rfl hl.1 rfl (Nat.le_of_ble_eq_true rfl) d_Terms_has_46 rfl ?_
        refine lv_if_le (tgt := 192) hx hb d_Terms_has_49 (by decide) (fun c6 => ?_) (fun c6 => ?_)
        · replace h := Eq.trans (if_pos c6).symm h
          refine lv_iconst (v := 0) hx hb d_Terms_has_192 (by decide) ?_
          exact kc_iret (w := 0) hx hb hr (by decide) hlocks E hI h d_Terms_has_193
        · replace h := Eq.trans (if_neg c6).symm h
          refine lv_aload_n hx hb d_Terms_has_52 rfl (lv_at hl 1 rfl) ?_
          refine kf_Terms_offsets S E hI.1 vt_93 d_Terms_has_53 ?_
          refine kg_tI (As := []) (rest := []) (k_Row_pop (l := l) (g := g) (α := β) (r := 3) (by decide)) S hlocks hno E hI kw_Terms_118 ⟨Nat.le_of_ble_eq_true rfl, Nat.le_of_ble_eq_true rfl⟩ (kv_Row (r := 3) (by decide) E hI.1) rfl hl.1 rfl (Nat.le_of_ble_eq_true rfl) d_Terms_has_56 (fun ad H locs cells slots hRm hI => ?_)
          refine lv_istore (lv' := [(5, .int (fR_pop β 3).1), (4, .int x4), (0, .ref (kad g 2)), (2, .int x2), (3, .int x3)]) hx hb d_Terms_has_59 hl (by decide) rfl (fun ls hl => ?_)
          refine lv_aload_n hx hb d_Terms_has_61 rfl (lv_at hl 2 rfl) ?_
          refine kf_Terms_todo S E hI.1 vt_92 d_Terms_has_62 ?_
          refine kg_tI (As := []) (rest := []) (k_Row_pop (l := l) (g := g) (α := (fR_pop β 3).2) (r := 2) (by decide)) S hlocks hno E hI kw_Terms_118 ⟨Nat.le_of_ble_eq_true rfl, Nat.le_of_ble_eq_true rfl⟩ (kv_Row (r := 2) (by decide) E hI.1) rfl hl.1 rfl (Nat.le_of_ble_eq_true rfl) d_Terms_has_65 (fun ad H locs cells slots hRm hI => ?_)
          refine lv_istore (lv' := [(6, .int (fR_pop (fR_pop β 3).2 2).1), (5, .int (fR_pop β 3).1), (4, .int x4), (0, .ref (kad g 2)), (2, .int x2), (3, .int x3)]) hx hb d_Terms_has_68 hl (by decide) rfl (fun ls hl => ?_)
          refine lv_iload_n hx hb d_Terms_has_70 rfl (lv_at hl 4 rfl) ?_
          refine lv_if_ne (tgt := 81) hx hb d_Terms_has_71 (by decide) (fun c7 => ?_) (fun c7 => ?_)
          · replace h := Eq.trans (if_neg c7).symm h
            refine lv_iload_n hx hb d_Terms_has_81 rfl (lv_at hl 5 rfl) ?_
            exact J82 (fR_pop (fR_pop β 3).2 2).1 (fR_pop β 3).1 x4 x2 x3 x3 _ _ _ _ _ _ _ h hI (lv_sub hl [0, 1, 2, 3, 4, 5] rfl)
          · replace h := Eq.trans (if_pos c7).symm h
            refine lv_iload_n hx hb d_Terms_has_74 rfl (lv_at hl 5 rfl) ?_
            refine lv_iload hx hb d_Terms_has_75 (lv_at hl 1 rfl) ?_
            refine lv_iadd hx hb d_Terms_has_77 ?_
            refine lv_goto (tgt := 82) hx hb d_Terms_has_78 (by decide) ?_
            exact J82 (fR_pop (fR_pop β 3).2 2).1 (fR_pop β 3).1 x4 x2 x3 (x3 + (fR_pop β 3).1) _ _ _ _ _ _ _ h hI (lv_sub hl [0, 1, 2, 3, 4, 5] rfl)
  exact L35 N 0 a2 a3 _ _ _ _ _ _ _ h hI (lv_sub hl [0, 1, 3, 4] rfl)
