def f_Meter_forget  (α : kS) : kS := (kSi (kSi α 3 0) 4 0)
set_option maxHeartbeats 4000000 in
set_option maxRecDepth 100000 in
theorem k_Meter_forget {l : Launch} {g : kG} {α : kS}   : kC l g y_Meter_forget b_Meter_forget 1 none 1 1 [.ref (kad g 1)] α (kQr (some none, f_Meter_forget α)) := by
  generalize h : f_Meter_forget α = x
  unfold f_Meter_forget at h
  refine kc_ofW (by decide) (fun A ad0 p e s m args below meth c S hr hlocks hno hadm hargs E hI => ?_)
  have hx := S.1
  have hb := S.2.1
  have hown := S.2.2.2.1
  have hT := S.2.2.2.2
  subst hargs
  have hl := lv_entry ([.ref (kad g 1)]) (n := 1) (Nat.le_of_ble_eq_true rfl)
  rw [lg_entry_eq]
  generalize (lg_sl ([.ref (kad g 1)]) ++ List.replicate (1 - (lg_sl ([.ref (kad g 1)])).length) Slot.unset).toArray = ls at hl ⊢
  have hl : lv_has ls 1 [(0, .ref (kad g 1))] := hl
  refine lv_aload_n hx hb d_Meter_forget_0 rfl (lv_at hl 0 rfl) ?_
  refine lv_iconst (v := 0) hx hb d_Meter_forget_1 (by decide) ?_
  refine kp_Meter_code S E hI vt_236 d_Meter_forget_2 (fun H locs hI => ?_)
  refine lv_aload_n hx hb d_Meter_forget_5 rfl (lv_at hl 0 rfl) ?_
  refine lv_iconst (v := 0) hx hb d_Meter_forget_6 (by decide) ?_
  refine kp_Meter_place S E hI vt_237 d_Meter_forget_7 (fun H locs hI => ?_)
  exact kc_vret hx hb hr hlocks E hI (by rw [← h]) d_Meter_forget_10
def f_Meter_begin (a1 : Int32) (α : kS) : kS := (kSi (kSi α 2 0) 5 a1)
set_option maxHeartbeats 4000000 in
set_option maxRecDepth 100000 in
theorem k_Meter_begin {l : Launch} {g : kG} {α : kS} (a1 : Int32)  : kC l g y_Meter_begin b_Meter_begin 2 none 1 1 [.ref (kad g 1), .int a1] α (kQr (some none, f_Meter_begin a1 α)) := by
  generalize h : f_Meter_begin a1 α = x
  unfold f_Meter_begin at h
  refine kc_ofW (by decide) (fun A ad0 p e s m args below meth c S hr hlocks hno hadm hargs E hI => ?_)
  have hx := S.1
  have hb := S.2.1
  have hown := S.2.2.2.1
  have hT := S.2.2.2.2
  subst hargs
  have hl := lv_entry ([.ref (kad g 1), .int a1]) (n := 2) (Nat.le_of_ble_eq_true rfl)
  rw [lg_entry_eq]
  generalize (lg_sl ([.ref (kad g 1), .int a1]) ++ List.replicate (2 - (lg_sl ([.ref (kad g 1), .int a1])).length) Slot.unset).toArray = ls at hl ⊢
  have hl : lv_has ls 2 [(0, .ref (kad g 1)), (1, .int a1)] := hl
  refine lv_aload_n hx hb d_Meter_begin_0 rfl (lv_at hl 0 rfl) ?_
  refine lv_iconst (v := 0) hx hb d_Meter_begin_1 (by decide) ?_
  refine kp_Meter_work S E hI vt_325 d_Meter_begin_2 (fun H locs hI => ?_)
  refine lv_aload_n hx hb d_Meter_begin_5 rfl (lv_at hl 0 rfl) ?_
  refine lv_iload_n hx hb d_Meter_begin_6 rfl (lv_at hl 1 rfl) ?_
  refine kp_Meter_start S E hI vt_326 d_Meter_begin_7 (fun H locs hI => ?_)
  exact kc_vret hx hb hr hlocks E hI (by rw [← h]) d_Meter_begin_10
def f_Meter_work  (α : kS) : Int32 := (α.1 2)
set_option maxHeartbeats 4000000 in
set_option maxRecDepth 100000 in
theorem k_Meter_work {l : Launch} {g : kG} {α : kS}   : kV l g y_Meter_work b_Meter_work 1 (some .int) 1 1 [.ref (kad g 1)] α (f_Meter_work α) := by
  generalize h : f_Meter_work α = x
  unfold f_Meter_work at h
  refine kv_ofW (by decide) (fun A ad p e s m args below meth c S hr hlocks hargs E hJ => ?_)
  have hx := S.1
  have hb := S.2.1
  have hown := S.2.2.2.1
  have hT := S.2.2.2.2
  subst hargs
  have hl := lv_entry ([.ref (kad g 1)]) (n := 1) (Nat.le_of_ble_eq_true rfl)
  rw [lg_entry_eq]
  generalize (lg_sl ([.ref (kad g 1)]) ++ List.replicate (1 - (lg_sl ([.ref (kad g 1)])).length) Slot.unset).toArray = ls at hl ⊢
  have hl : lv_has ls 1 [(0, .ref (kad g 1))] := hl
  refine lv_aload_n hx hb d_Meter_work_0 rfl (lv_at hl 0 rfl) ?_
  refine kf_Meter_work S E hJ vt_325 d_Meter_work_1 ?_
  exact kv_iret (w := (α.1 2)) hx hb hr rfl hlocks h d_Meter_work_4
def f_Meter_code  (α : kS) : Int32 := (α.1 3)
set_option maxHeartbeats 4000000 in
set_option maxRecDepth 100000 in
theorem k_Meter_code {l : Launch} {g : kG} {α : kS}   : kV l g y_Meter_code b_Meter_code 1 (some .int) 1 1 [.ref (kad g 1)] α (f_Meter_code α) := by
  generalize h : f_Meter_code α = x
  unfold f_Meter_code at h
  refine kv_ofW (by decide) (fun A ad p e s m args below meth c S hr hlocks hargs E hJ => ?_)
  have hx := S.1
  have hb := S.2.1
  have hown := S.2.2.2.1
  have hT := S.2.2.2.2
  subst hargs
  have hl := lv_entry ([.ref (kad g 1)]) (n := 1) (Nat.le_of_ble_eq_true rfl)
  rw [lg_entry_eq]
  generalize (lg_sl ([.ref (kad g 1)]) ++ List.replicate (1 - (lg_sl ([.ref (kad g 1)])).length) Slot.unset).toArray = ls at hl ⊢
  have hl : lv_has ls 1 [(0, .ref (kad g 1))] := hl
  refine lv_aload_n hx hb d_Meter_code_0 rfl (lv_at hl 0 rfl) ?_
  refine kf_Meter_code S E hJ vt_236 d_Meter_code_1 ?_
  exact kv_iret (w := (α.1 3)) hx hb hr rfl hlocks h d_Meter_code_4
def f_Meter_place  (α : kS) : Int32 := (α.1 4)
set_option maxHeartbeats 4000000 in
set_option maxRecDepth 100000 in
theorem k_Meter_place {l : Launch} {g : kG} {α : kS}   : kV l g y_Meter_place b_Meter_place 1 (some .int) 1 1 [.ref (kad g 1)] α (f_Meter_place α) := by
  generalize h : f_Meter_place α = x
  unfold f_Meter_place at h
  refine kv_ofW (by decide) (fun A ad p e s m args below meth c S hr hlocks hargs E hJ => ?_)
  have hx := S.1
  have hb := S.2.1
  have hown := S.2.2.2.1
  have hT := S.2.2.2.2
  subst hargs
  have hl := lv_entry ([.ref (kad g 1)]) (n := 1) (Nat.le_of_ble_eq_true rfl)
  rw [lg_entry_eq]
  generalize (lg_sl ([.ref (kad g 1)]) ++ List.replicate (1 - (lg_sl ([.ref (kad g 1)])).length) Slot.unset).toArray = ls at hl ⊢
  have hl : lv_has ls 1 [(0, .ref (kad g 1))] := hl
  refine lv_aload_n hx hb d_Meter_place_0 rfl (lv_at hl 0 rfl) ?_
  refine kf_Meter_place S E hJ vt_237 d_Meter_place_1 ?_
  exact kv_iret (w := (α.1 4)) hx hb hr rfl hlocks h d_Meter_place_4
set_option maxRecDepth 100000 in
theorem at_Meter_31 : (Bundle.ownAtoms0 "FamilyKernel$Meter" 31 kISE vx_names).all (fun a => decide (a ∈ vT) || decide (a ∈ [Cond.castable kISE kISE, vx_l1, vx_l2, vx_r1, vx_r2, vx_d1, vx_d2, vx_d3])) = true := by decide +kernel
def f_Meter_fail (N : Nat) (a1 : Int32) (α : kS) : Option (kO × kS) := some (none, (kSi (kSi α 3 a1) 4 (α.1 5)))
set_option maxHeartbeats 4000000 in
set_option maxRecDepth 100000 in
theorem k_Meter_fail {l : Launch} {g : kG} {α : kS} (hfl : kFl l) (N : Nat) (a1 : Int32)  : ∀ x, f_Meter_fail N a1 α = some x → kC l g y_Meter_fail b_Meter_fail 2 none 6 81 [.ref (kad g 1), .int a1] α (kQr x) := by
  intro x h
  unfold f_Meter_fail at h
  refine kc_ofW (by decide) (fun A ad0 p e s m args below meth c S hr hlocks hno hadm hargs E hI => ?_)
  have htr : e.platform.stackTraces = false := Launch.traces_off hfl hadm
  have hx := S.1
  have hb := S.2.1
  have hown := S.2.2.2.1
  have hT := S.2.2.2.2
  subst hargs
  have hl := lv_entry ([.ref (kad g 1), .int a1]) (n := 2) (Nat.le_of_ble_eq_true rfl)
  rw [lg_entry_eq]
  generalize (lg_sl ([.ref (kad g 1), .int a1]) ++ List.replicate (2 - (lg_sl ([.ref (kad g 1), .int a1])).length) Slot.unset).toArray = ls at hl ⊢
  have hl : lv_has ls 2 [(0, .ref (kad g 1)), (1, .int a1)] := hl
  refine lv_aload_n hx hb d_Meter_fail_0 rfl (lv_at hl 0 rfl) ?_
  refine lv_iload_n hx hb d_Meter_fail_1 rfl (lv_at hl 1 rfl) ?_
  refine kp_Meter_code S E hI vt_236 d_Meter_fail_2 (fun H locs hI => ?_)
  refine lv_aload_n hx hb d_Meter_fail_5 rfl (lv_at hl 0 rfl) ?_
  refine lv_aload_n hx hb d_Meter_fail_6 rfl (lv_at hl 0 rfl) ?_
  refine kf_Meter_start S E hI.1 vt_326 d_Meter_fail_7 ?_
  refine kp_Meter_place S E hI vt_237 d_Meter_fail_10 (fun H locs hI => ?_)
  exact kg_throw (ic := 31) S hlocks hno htr E hI h vt_435 vt_436 at_Meter_31 hl.1 d_Meter_fail_13 d_Meter_fail_16 d_Meter_fail_17 d_Meter_fail_20 (by decide) (by decide)
def f_Meter_failAt (N : Nat) (a1 : Int32) (a2 : Int32) (α : kS) : Option (kO × kS) := some (none, (kSi (kSi α 3 a1) 4 a2))
set_option maxHeartbeats 4000000 in
set_option maxRecDepth 100000 in
theorem k_Meter_failAt {l : Launch} {g : kG} {α : kS} (hfl : kFl l) (N : Nat) (a1 : Int32) (a2 : Int32)  : ∀ x, f_Meter_failAt N a1 a2 α = some x → kC l g y_Meter_failAt b_Meter_failAt 3 none 6 81 [.ref (kad g 1), .int a1, .int a2] α (kQr x) := by
  intro x h
  unfold f_Meter_failAt at h
  refine kc_ofW (by decide) (fun A ad0 p e s m args below meth c S hr hlocks hno hadm hargs E hI => ?_)
  have htr : e.platform.stackTraces = false := Launch.traces_off hfl hadm
  have hx := S.1
  have hb := S.2.1
  have hown := S.2.2.2.1
  have hT := S.2.2.2.2
  subst hargs
  have hl := lv_entry ([.ref (kad g 1), .int a1, .int a2]) (n := 3) (Nat.le_of_ble_eq_true rfl)
  rw [lg_entry_eq]
  generalize (lg_sl ([.ref (kad g 1), .int a1, .int a2]) ++ List.replicate (3 - (lg_sl ([.ref (kad g 1), .int a1, .int a2])).length) Slot.unset).toArray = ls at hl ⊢
  have hl : lv_has ls 3 [(0, .ref (kad g 1)), (1, .int a1), (2, .int a2)] := hl
  refine lv_aload_n hx hb d_Meter_failAt_0 rfl (lv_at hl 0 rfl) ?_
  refine lv_iload_n hx hb d_Meter_failAt_1 rfl (lv_at hl 1 rfl) ?_
  refine kp_Meter_code S E hI vt_236 d_Meter_failAt_2 (fun H locs hI => ?_)
  refine lv_aload_n hx hb d_Meter_failAt_5 rfl (lv_at hl 0 rfl) ?_
  refine lv_iload_n hx hb d_Meter_failAt_6 rfl (lv_at hl 2 rfl) ?_
  refine kp_Meter_place S E hI vt_237 d_Meter_failAt_7 (fun H locs hI => ?_)
  exact kg_throw (ic := 31) S hlocks hno htr E hI h vt_435 vt_436 at_Meter_31 hl.1 d_Meter_failAt_10 d_Meter_failAt_13 d_Meter_failAt_14 d_Meter_failAt_17 (by decide) (by decide)
theorem kw_Meter_25 : kWv "FamilyKernel$Meter" 25 "FamilyKernel$Meter" y_Meter_fail b_Meter_fail 2 none 1 := ⟨vt_641, vt_406, vt_407, vt_13, vt_408, by decide, by decide, by decide +kernel⟩
def f_Meter_charge (N : Nat) (a1 : Int32) (α : kS) : Option (kO × kS) := if ((α.1 2) + a1) ≤ 60000 then (some (some none, (kSi α 2 ((α.1 2) + a1)))) else (kBv (f_Meter_fail N 10 (kSi α 2 ((α.1 2) + a1))) fun α2 => (some (some none, α2)))
set_option maxHeartbeats 4000000 in
set_option maxRecDepth 100000 in
theorem k_Meter_charge {l : Launch} {g : kG} {α : kS} (hfl : kFl l) (N : Nat) (a1 : Int32)  : ∀ x, f_Meter_charge N a1 α = some x → kC l g y_Meter_charge b_Meter_charge 2 none 7 102 [.ref (kad g 1), .int a1] α (kQr x) := by
  intro x h
  unfold f_Meter_charge at h
  refine kc_ofW (by decide) (fun A ad0 p e s m args below meth c S hr hlocks hno hadm hargs E hI => ?_)
  have hx := S.1
  have hb := S.2.1
  have hown := S.2.2.2.1
  have hT := S.2.2.2.2
  subst hargs
  have hl := lv_entry ([.ref (kad g 1), .int a1]) (n := 2) (Nat.le_of_ble_eq_true rfl)
  rw [lg_entry_eq]
  generalize (lg_sl ([.ref (kad g 1), .int a1]) ++ List.replicate (2 - (lg_sl ([.ref (kad g 1), .int a1])).length) Slot.unset).toArray = ls at hl ⊢
  have hl : lv_has ls 2 [(0, .ref (kad g 1)), (1, .int a1)] := hl
  refine lv_aload_n hx hb d_Meter_charge_0 rfl (lv_at hl 0 rfl) ?_
  refine lv_dup hx hb d_Meter_charge_1 rfl ?_
  refine kf_Meter_work S E hI.1 vt_325 d_Meter_charge_2 ?_
  refine lv_iload_n hx hb d_Meter_charge_5 rfl (lv_at hl 1 rfl) ?_
  refine lv_iadd hx hb d_Meter_charge_6 ?_
  refine kp_Meter_work S E hI vt_325 d_Meter_charge_7 (fun H locs hI => ?_)
  refine lv_aload_n hx hb d_Meter_charge_10 rfl (lv_at hl 0 rfl) ?_
  refine kf_Meter_work S E hI.1 vt_325 d_Meter_charge_11 ?_
  refine lv_ldc (v := 60000) hx hb hown (hT _ vt_640) d_Meter_charge_14 ?_
  refine lv_icmp_le (tgt := 25) hx hb d_Meter_charge_16 (by decide) (fun c1 => ?_) (fun c1 => ?_)
  · replace h := Eq.trans (if_pos c1).symm h
    exact kc_vret hx hb hr hlocks E hI h d_Meter_charge_25
  · replace h := Eq.trans (if_neg c1).symm h
    refine lv_aload_n hx hb d_Meter_charge_19 rfl (lv_at hl 0 rfl) ?_
    refine lv_bipush (v := 10) hx hb d_Meter_charge_20 (by decide) ?_
    refine kg_cV (As := [.int 10]) (rest := []) h (k_Meter_fail (l := l) (g := g) (α := (kSi α 2 ((α.1 2) + a1))) hfl N 10) S hlocks hno E hI kw_Meter_25 ⟨Nat.le_of_ble_eq_true rfl, Nat.le_of_ble_eq_true rfl⟩ (kv_Meter E hI.1) rfl hl.1 rfl (Nat.le_of_ble_eq_true rfl) d_Meter_charge_22 (fun α2 ad H locs cells slots e3 h hRm hI => ?_)
    exact kc_vret hx hb hr hlocks E hI h d_Meter_charge_25
theorem kw_Fra_36 : kWv "FamilyKernel$Frames" 36 "FamilyKernel$Row" y_Row_push b_Row_push 2 none 1 := ⟨vt_822, vt_252, vt_253, vt_4, vt_254, by decide, by decide, by decide +kernel⟩
def f_Fra_push (N : Nat) (a1 : Int32) (a2 : Int32) (a3 : Int32) (a4 : Int32) (α : kS) : Option (kO × kS) := kBv (fR_push α 12 a1) fun α1 => (kBv (fR_push α1 12 a2) fun α3 => (kBv (fR_push α3 12 a3) fun α5 => (kBv (fR_push α5 12 0) fun α7 => (kBv (fR_push α7 12 a4) fun α9 => (some (some none, α9))))))
set_option maxHeartbeats 4000000 in
set_option maxRecDepth 100000 in
theorem k_Fra_push {l : Launch} {g : kG} {α : kS} (hfl : kFl l) (N : Nat) (a1 : Int32) (a2 : Int32) (a3 : Int32) (a4 : Int32)  : ∀ x, f_Fra_push N a1 a2 a3 a4 α = some x → kC l g y_Fra_push b_Fra_push 5 none 31 921 [.ref (kad g 6), .int a1, .int a2, .int a3, .int a4] α (kQr x) := by
  intro x h
  unfold f_Fra_push at h
  refine kc_ofW (by decide) (fun A ad0 p e s m args below meth c S hr hlocks hno hadm hargs E hI => ?_)
  have hx := S.1
  have hb := S.2.1
  have hown := S.2.2.2.1
  have hT := S.2.2.2.2
  subst hargs
  have hl := lv_entry ([.ref (kad g 6), .int a1, .int a2, .int a3, .int a4]) (n := 5) (Nat.le_of_ble_eq_true rfl)
  rw [lg_entry_eq]
  generalize (lg_sl ([.ref (kad g 6), .int a1, .int a2, .int a3, .int a4]) ++ List.replicate (5 - (lg_sl ([.ref (kad g 6), .int a1, .int a2, .int a3, .int a4])).length) Slot.unset).toArray = ls at hl ⊢
  have hl : lv_has ls 5 [(0, .ref (kad g 6)), (1, .int a1), (2, .int a2), (3, .int a3), (4, .int a4)] := hl
  refine lv_aload_n hx hb d_Fra_push_0 rfl (lv_at hl 0 rfl) ?_
  refine kf_Fra_cells S E hI.1 vt_130 d_Fra_push_1 ?_
  refine lv_iload_n hx hb d_Fra_push_4 rfl (lv_at hl 1 rfl) ?_
  refine kg_cV (As := [.int a1]) (rest := []) h (k_Row_push (l := l) (g := g) (α := α) (r := 12) (by decide) a1) S hlocks hno E hI kw_Fra_36 ⟨Nat.le_of_ble_eq_true rfl, Nat.le_of_ble_eq_true rfl⟩ (kv_Row (r := 12) (by decide) E hI.1) rfl hl.1 rfl (Nat.le_of_ble_eq_true rfl) d_Fra_push_5 (fun α1 ad H locs cells slots e2 h hRm hI => ?_)
  refine lv_aload_n hx hb d_Fra_push_8 rfl (lv_at hl 0 rfl) ?_
  refine kf_Fra_cells S E hI.1 vt_130 d_Fra_push_9 ?_
  refine lv_iload_n hx hb d_Fra_push_12 rfl (lv_at hl 2 rfl) ?_
  refine kg_cV (As := [.int a2]) (rest := []) h (k_Row_push (l := l) (g := g) (α := α1) (r := 12) (by decide) a2) S hlocks hno E hI kw_Fra_36 ⟨Nat.le_of_ble_eq_true rfl, Nat.le_of_ble_eq_true rfl⟩ (kv_Row (r := 12) (by decide) E hI.1) rfl hl.1 rfl (Nat.le_of_ble_eq_true rfl) d_Fra_push_13 (fun α3 ad H locs cells slots e4 h hRm hI => ?_)
  refine lv_aload_n hx hb d_Fra_push_16 rfl (lv_at hl 0 rfl) ?_
  refine kf_Fra_cells S E hI.1 vt_130 d_Fra_push_17 ?_
  refine lv_iload_n hx hb d_Fra_push_20 rfl (lv_at hl 3 rfl) ?_
  refine kg_cV (As := [.int a3]) (rest := []) h (k_Row_push (l := l) (g := g) (α := α3) (r := 12) (by decide) a3) S hlocks hno E hI kw_Fra_36 ⟨Nat.le_of_ble_eq_true rfl, Nat.le_of_ble_eq_true rfl⟩ (kv_Row (r := 12) (by decide) E hI.1) rfl hl.1 rfl (Nat.le_of_ble_eq_true rfl) d_Fra_push_21 (fun α5 ad H locs cells slots e6 h hRm hI => ?_)
  refine lv_aload_n hx hb d_Fra_push_24 rfl (lv_at hl 0 rfl) ?_
  refine kf_Fra_cells S E hI.1 vt_130 d_Fra_push_25 ?_
  refine lv_iconst (v := 0) hx hb d_Fra_push_28 (by decide) ?_
  refine kg_cV (As := [.int 0]) (rest := []) h (k_Row_push (l := l) (g := g) (α := α5) (r := 12) (by decide) 0) S hlocks hno E hI kw_Fra_36 ⟨Nat.le_of_ble_eq_true rfl, Nat.le_of_ble_eq_true rfl⟩ (kv_Row (r := 12) (by decide) E hI.1) rfl hl.1 rfl (Nat.le_of_ble_eq_true rfl) d_Fra_push_29 (fun α7 ad H locs cells slots e8 h hRm hI => ?_)
  refine lv_aload_n hx hb d_Fra_push_32 rfl (lv_at hl 0 rfl) ?_
  refine kf_Fra_cells S E hI.1 vt_130 d_Fra_push_33 ?_
  refine lv_iload hx hb d_Fra_push_36 (lv_at hl 4 rfl) ?_
  refine kg_cV (As := [.int a4]) (rest := []) h (k_Row_push (l := l) (g := g) (α := α7) (r := 12) (by decide) a4) S hlocks hno E hI kw_Fra_36 ⟨Nat.le_of_ble_eq_true rfl, Nat.le_of_ble_eq_true rfl⟩ (kv_Row (r := 12) (by decide) E hI.1) rfl hl.1 rfl (Nat.le_of_ble_eq_true rfl) d_Fra_push_38 (fun α9 ad H locs cells slots e10 h hRm hI => ?_)
  exact kc_vret hx hb hr hlocks E hI h d_Fra_push_41
theorem kw_Fra_24 : kWv "FamilyKernel$Frames" 24 "FamilyKernel$Row" y_Row_cut b_Row_cut 2 none 1 := ⟨vt_817, vt_232, vt_233, vt_4, vt_234, by decide, by decide, by decide +kernel⟩
theorem kw_Fra_28 : kWv "FamilyKernel$Frames" 28 "FamilyKernel$Frames" y_Fra_push b_Fra_push 5 none 4 := ⟨vt_818, vt_819, vt_820, vt_47, vt_821, by decide, by decide, by decide +kernel⟩
def f_Fra_begin (N : Nat) (a1 : Int32) (a2 : Int32) (a3 : Int32) (α : kS) : Option (kO × kS) := kBv (f_Fra_push N a1 a2 a3 0 (fR_cut (fR_cut α 12 0) 13 0)) fun α1 => (some (some none, α1))
set_option maxHeartbeats 4000000 in
set_option maxRecDepth 100000 in
theorem k_Fra_begin {l : Launch} {g : kG} {α : kS} (hfl : kFl l) (N : Nat) (a1 : Int32) (a2 : Int32) (a3 : Int32)  : ∀ x, f_Fra_begin N a1 a2 a3 α = some x → kC l g y_Fra_begin b_Fra_begin 4 none 32 945 [.ref (kad g 6), .int a1, .int a2, .int a3] α (kQr x) := by
  intro x h
  unfold f_Fra_begin at h
  refine kc_ofW (by decide) (fun A ad0 p e s m args below meth c S hr hlocks hno hadm hargs E hI => ?_)
  have hx := S.1
  have hb := S.2.1
  have hown := S.2.2.2.1
  have hT := S.2.2.2.2
  subst hargs
  have hl := lv_entry ([.ref (kad g 6), .int a1, .int a2, .int a3]) (n := 4) (Nat.le_of_ble_eq_true rfl)
  rw [lg_entry_eq]
  generalize (lg_sl ([.ref (kad g 6), .int a1, .int a2, .int a3]) ++ List.replicate (4 - (lg_sl ([.ref (kad g 6), .int a1, .int a2, .int a3])).length) Slot.unset).toArray = ls at hl ⊢
  have hl : lv_has ls 4 [(0, .ref (kad g 6)), (1, .int a1), (2, .int a2), (3, .int a3)] := hl
  refine lv_aload_n hx hb d_Fra_begin_0 rfl (lv_at hl 0 rfl) ?_
  refine kf_Fra_cells S E hI.1 vt_130 d_Fra_begin_1 ?_
  refine lv_iconst (v := 0) hx hb d_Fra_begin_4 (by decide) ?_
  refine kg_tV (As := [.int 0]) (rest := []) (k_Row_cut (l := l) (g := g) (α := α) (r := 12) (by decide) 0) S hlocks hno E hI kw_Fra_24 ⟨Nat.le_of_ble_eq_true rfl, Nat.le_of_ble_eq_true rfl⟩ (kv_Row (r := 12) (by decide) E hI.1) rfl hl.1 rfl (Nat.le_of_ble_eq_true rfl) d_Fra_begin_5 (fun ad H locs cells slots hRm hI => ?_)
  refine lv_aload_n hx hb d_Fra_begin_8 rfl (lv_at hl 0 rfl) ?_
  refine kf_Fra_types S E hI.1 vt_131 d_Fra_begin_9 ?_
  refine lv_iconst (v := 0) hx hb d_Fra_begin_12 (by decide) ?_
  refine kg_tV (As := [.int 0]) (rest := []) (k_Row_cut (l := l) (g := g) (α := (fR_cut α 12 0)) (r := 13) (by decide) 0) S hlocks hno E hI kw_Fra_24 ⟨Nat.le_of_ble_eq_true rfl, Nat.le_of_ble_eq_true rfl⟩ (kv_Row (r := 13) (by decide) E hI.1) rfl hl.1 rfl (Nat.le_of_ble_eq_true rfl) d_Fra_begin_13 (fun ad H locs cells slots hRm hI => ?_)
  refine lv_aload_n hx hb d_Fra_begin_16 rfl (lv_at hl 0 rfl) ?_
  refine lv_iload_n hx hb d_Fra_begin_17 rfl (lv_at hl 1 rfl) ?_
  refine lv_iload_n hx hb d_Fra_begin_18 rfl (lv_at hl 2 rfl) ?_
  refine lv_iload_n hx hb d_Fra_begin_19 rfl (lv_at hl 3 rfl) ?_
  refine lv_iconst (v := 0) hx hb d_Fra_begin_20 (by decide) ?_
  refine kg_cV (As := [.int a1, .int a2, .int a3, .int 0]) (rest := []) h (k_Fra_push (l := l) (g := g) (α := (fR_cut (fR_cut α 12 0) 13 0)) hfl N a1 a2 a3 0) S hlocks hno E hI kw_Fra_28 ⟨Nat.le_of_ble_eq_true rfl, Nat.le_of_ble_eq_true rfl⟩ (kv_Fra E hI.1) rfl hl.1 rfl (Nat.le_of_ble_eq_true rfl) d_Fra_begin_21 (fun α1 ad H locs cells slots e2 h hRm hI => ?_)
  exact kc_vret hx hb hr hlocks E hI h d_Fra_begin_24
theorem kw_Fra_32 : kWv "FamilyKernel$Frames" 32 "FamilyKernel$Row" y_Row_size b_Row_size 1 (some .int) 0 := ⟨vt_823, vt_270, vt_271, vt_4, vt_272, by decide, by decide, by decide +kernel⟩
def f_Fra_isEmpty  (α : kS) : Int32 := if (fR_size α 12) = 0 then (1) else (0)
set_option maxHeartbeats 4000000 in
set_option maxRecDepth 100000 in
theorem k_Fra_isEmpty {l : Launch} {g : kG} {α : kS}   : kV l g y_Fra_isEmpty b_Fra_isEmpty 1 (some .boolean) 11 320 [.ref (kad g 6)] α (f_Fra_isEmpty α) := by
  generalize h : f_Fra_isEmpty α = x
  unfold f_Fra_isEmpty at h
  refine kv_ofW (by decide) (fun A ad p e s m args below meth c S hr hlocks hargs E hJ => ?_)
  have hx := S.1
  have hb := S.2.1
  have hown := S.2.2.2.1
  have hT := S.2.2.2.2
  subst hargs
  have hl := lv_entry ([.ref (kad g 6)]) (n := 1) (Nat.le_of_ble_eq_true rfl)
  rw [lg_entry_eq]
  generalize (lg_sl ([.ref (kad g 6)]) ++ List.replicate (1 - (lg_sl ([.ref (kad g 6)])).length) Slot.unset).toArray = ls at hl ⊢
  have hl : lv_has ls 1 [(0, .ref (kad g 6))] := hl
  refine lv_aload_n hx hb d_Fra_isEmpty_0 rfl (lv_at hl 0 rfl) ?_
  refine kf_Fra_cells S E hJ vt_130 d_Fra_isEmpty_1 ?_
  refine kg_p (As := []) (rest := []) (k_Row_size (l := l) (g := g) (α := α) (r := 12) (by decide)) S E hJ kw_Fra_32 ⟨Nat.le_of_ble_eq_true rfl, Nat.le_of_ble_eq_true rfl⟩ ⟨Nat.le_refl _, Nat.le_refl _⟩ (kv_Row (r := 12) (by decide) E hJ) rfl hl.1 rfl (Nat.le_of_ble_eq_true rfl) d_Fra_isEmpty_4 rfl ?_
  refine lv_if_ne (tgt := 14) hx hb d_Fra_isEmpty_7 (by decide) (fun c1 => ?_) (fun c1 => ?_)
  · replace h := Eq.trans (if_neg c1).symm h
    refine lv_iconst (v := 0) hx hb d_Fra_isEmpty_14 (by decide) ?_
    exact kv_iret (w := 0) hx hb hr (by decide) hlocks h d_Fra_isEmpty_15
  · replace h := Eq.trans (if_pos c1).symm h
    refine lv_iconst (v := 1) hx hb d_Fra_isEmpty_10 (by decide) ?_
    refine lv_goto (tgt := 15) hx hb d_Fra_isEmpty_11 (by decide) ?_
    exact kv_iret (w := 1) hx hb hr (by decide) hlocks h d_Fra_isEmpty_15
theorem kw_Fra_38 : kWv "FamilyKernel$Frames" 38 "FamilyKernel$Row" y_Row_at b_Row_at 2 (some .int) 1 := ⟨vt_824, vt_266, vt_267, vt_4, vt_268, by decide, by decide, by decide +kernel⟩
def f_Fra_top (a1 : Int32) (α : kS) : Int32 := (fR_at α 12 (((fR_size α 12) - 5) + a1))
set_option maxHeartbeats 4000000 in
set_option maxRecDepth 100000 in
theorem k_Fra_top {l : Launch} {g : kG} {α : kS} (a1 : Int32)  : kV l g y_Fra_top b_Fra_top 2 (some .int) 11 321 [.ref (kad g 6), .int a1] α (f_Fra_top a1 α) := by
  generalize h : f_Fra_top a1 α = x
  unfold f_Fra_top at h
  refine kv_ofW (by decide) (fun A ad p e s m args below meth c S hr hlocks hargs E hJ => ?_)
  have hx := S.1
  have hb := S.2.1
  have hown := S.2.2.2.1
  have hT := S.2.2.2.2
  subst hargs
  have hl := lv_entry ([.ref (kad g 6), .int a1]) (n := 2) (Nat.le_of_ble_eq_true rfl)
  rw [lg_entry_eq]
  generalize (lg_sl ([.ref (kad g 6), .int a1]) ++ List.replicate (2 - (lg_sl ([.ref (kad g 6), .int a1])).length) Slot.unset).toArray = ls at hl ⊢
  have hl : lv_has ls 2 [(0, .ref (kad g 6)), (1, .int a1)] := hl
  refine lv_aload_n hx hb d_Fra_top_0 rfl (lv_at hl 0 rfl) ?_
  refine kf_Fra_cells S E hJ vt_130 d_Fra_top_1 ?_
  refine lv_aload_n hx hb d_Fra_top_4 rfl (lv_at hl 0 rfl) ?_
  refine kf_Fra_cells S E hJ vt_130 d_Fra_top_5 ?_
  refine kg_p (As := []) (rest := [.ref (kad g (11 + 12))]) (k_Row_size (l := l) (g := g) (α := α) (r := 12) (by decide)) S E hJ kw_Fra_32 ⟨Nat.le_of_ble_eq_true rfl, Nat.le_of_ble_eq_true rfl⟩ ⟨Nat.le_refl _, Nat.le_refl _⟩ (kv_Row (r := 12) (by decide) E hJ) rfl hl.1 rfl (Nat.le_of_ble_eq_true rfl) d_Fra_top_8 rfl ?_
  refine lv_iconst (v := 5) hx hb d_Fra_top_11 (by decide) ?_
  refine lv_isub hx hb d_Fra_top_12 ?_
  refine lv_iload_n hx hb d_Fra_top_13 rfl (lv_at hl 1 rfl) ?_
  refine lv_iadd hx hb d_Fra_top_14 ?_
  refine kg_p (As := [.int (((fR_size α 12) - 5) + a1)]) (rest := []) (k_Row_at (l := l) (g := g) (α := α) (r := 12) (by decide) (((fR_size α 12) - 5) + a1)) S E hJ kw_Fra_38 ⟨Nat.le_of_ble_eq_true rfl, Nat.le_of_ble_eq_true rfl⟩ ⟨Nat.le_refl _, Nat.le_refl _⟩ (kv_Row (r := 12) (by decide) E hJ) rfl hl.1 rfl (Nat.le_of_ble_eq_true rfl) d_Fra_top_15 rfl ?_
  exact kv_iret (w := (fR_at α 12 (((fR_size α 12) - 5) + a1))) hx hb hr rfl hlocks h d_Fra_top_18
theorem kw_Fra_42 : kWv "FamilyKernel$Frames" 42 "FamilyKernel$Row" y_Row_put b_Row_put 3 none 2 := ⟨vt_878, vt_488, vt_489, vt_4, vt_490, by decide, by decide, by decide +kernel⟩
def f_Fra_set (a1 : Int32) (a2 : Int32) (α : kS) : kS := (fR_put α 12 (((fR_size α 12) - 5) + a1) a2)
set_option maxHeartbeats 4000000 in
set_option maxRecDepth 100000 in
theorem k_Fra_set {l : Launch} {g : kG} {α : kS} (a1 : Int32) (a2 : Int32)  : kC l g y_Fra_set b_Fra_set 3 none 11 322 [.ref (kad g 6), .int a1, .int a2] α (kQr (some none, f_Fra_set a1 a2 α)) := by
  generalize h : f_Fra_set a1 a2 α = x
  unfold f_Fra_set at h
  refine kc_ofW (by decide) (fun A ad0 p e s m args below meth c S hr hlocks hno hadm hargs E hI => ?_)
  have hx := S.1
  have hb := S.2.1
  have hown := S.2.2.2.1
  have hT := S.2.2.2.2
  subst hargs
  have hl := lv_entry ([.ref (kad g 6), .int a1, .int a2]) (n := 3) (Nat.le_of_ble_eq_true rfl)
  rw [lg_entry_eq]
  generalize (lg_sl ([.ref (kad g 6), .int a1, .int a2]) ++ List.replicate (3 - (lg_sl ([.ref (kad g 6), .int a1, .int a2])).length) Slot.unset).toArray = ls at hl ⊢
  have hl : lv_has ls 3 [(0, .ref (kad g 6)), (1, .int a1), (2, .int a2)] := hl
  refine lv_aload_n hx hb d_Fra_set_0 rfl (lv_at hl 0 rfl) ?_
  refine kf_Fra_cells S E hI.1 vt_130 d_Fra_set_1 ?_
  refine lv_aload_n hx hb d_Fra_set_4 rfl (lv_at hl 0 rfl) ?_
  refine kf_Fra_cells S E hI.1 vt_130 d_Fra_set_5 ?_
  refine kg_p (As := []) (rest := [.ref (kad g (11 + 12))]) (k_Row_size (l := l) (g := g) (α := α) (r := 12) (by decide)) S E hI.1 kw_Fra_32 ⟨Nat.le_of_ble_eq_true rfl, Nat.le_of_ble_eq_true rfl⟩ hI.room (kv_Row (r := 12) (by decide) E hI.1) rfl hl.1 rfl (Nat.le_of_ble_eq_true rfl) d_Fra_set_8 rfl ?_
  refine lv_iconst (v := 5) hx hb d_Fra_set_11 (by decide) ?_
  refine lv_isub hx hb d_Fra_set_12 ?_
  refine lv_iload_n hx hb d_Fra_set_13 rfl (lv_at hl 1 rfl) ?_
  refine lv_iadd hx hb d_Fra_set_14 ?_
  refine lv_iload_n hx hb d_Fra_set_15 rfl (lv_at hl 2 rfl) ?_
  refine kg_tV (As := [.int (((fR_size α 12) - 5) + a1), .int a2]) (rest := []) (k_Row_put (l := l) (g := g) (α := α) (r := 12) (by decide) (((fR_size α 12) - 5) + a1) a2) S hlocks hno E hI kw_Fra_42 ⟨Nat.le_of_ble_eq_true rfl, Nat.le_of_ble_eq_true rfl⟩ (kv_Row (r := 12) (by decide) E hI.1) rfl hl.1 rfl (Nat.le_of_ble_eq_true rfl) d_Fra_set_16 (fun ad H locs cells slots hRm hI => ?_)
  exact kc_vret hx hb hr hlocks E hI (by rw [← h]) d_Fra_set_19
def f_Fra_pop  (α : kS) : kS := (fR_cut α 12 ((fR_size α 12) - 5))
set_option maxHeartbeats 4000000 in
set_option maxRecDepth 100000 in
theorem k_Fra_pop {l : Launch} {g : kG} {α : kS}   : kC l g y_Fra_pop b_Fra_pop 1 none 11 321 [.ref (kad g 6)] α (kQr (some none, f_Fra_pop α)) := by
  generalize h : f_Fra_pop α = x
  unfold f_Fra_pop at h
  refine kc_ofW (by decide) (fun A ad0 p e s m args below meth c S hr hlocks hno hadm hargs E hI => ?_)
  have hx := S.1
  have hb := S.2.1
  have hown := S.2.2.2.1
  have hT := S.2.2.2.2
  subst hargs
  have hl := lv_entry ([.ref (kad g 6)]) (n := 1) (Nat.le_of_ble_eq_true rfl)
  rw [lg_entry_eq]
  generalize (lg_sl ([.ref (kad g 6)]) ++ List.replicate (1 - (lg_sl ([.ref (kad g 6)])).length) Slot.unset).toArray = ls at hl ⊢
  have hl : lv_has ls 1 [(0, .ref (kad g 6))] := hl
  refine lv_aload_n hx hb d_Fra_pop_0 rfl (lv_at hl 0 rfl) ?_
  refine kf_Fra_cells S E hI.1 vt_130 d_Fra_pop_1 ?_
  refine lv_aload_n hx hb d_Fra_pop_4 rfl (lv_at hl 0 rfl) ?_
  refine kf_Fra_cells S E hI.1 vt_130 d_Fra_pop_5 ?_
  refine kg_p (As := []) (rest := [.ref (kad g (11 + 12))]) (k_Row_size (l := l) (g := g) (α := α) (r := 12) (by decide)) S E hI.1 kw_Fra_32 ⟨Nat.le_of_ble_eq_true rfl, Nat.le_of_ble_eq_true rfl⟩ hI.room (kv_Row (r := 12) (by decide) E hI.1) rfl hl.1 rfl (Nat.le_of_ble_eq_true rfl) d_Fra_pop_8 rfl ?_
  refine lv_iconst (v := 5) hx hb d_Fra_pop_11 (by decide) ?_
  refine lv_isub hx hb d_Fra_pop_12 ?_
  refine kg_tV (As := [.int ((fR_size α 12) - 5)]) (rest := []) (k_Row_cut (l := l) (g := g) (α := α) (r := 12) (by decide) ((fR_size α 12) - 5)) S hlocks hno E hI kw_Fra_24 ⟨Nat.le_of_ble_eq_true rfl, Nat.le_of_ble_eq_true rfl⟩ (kv_Row (r := 12) (by decide) E hI.1) rfl hl.1 rfl (Nat.le_of_ble_eq_true rfl) d_Fra_pop_13 (fun ad H locs cells slots hRm hI => ?_)
  exact kc_vret hx hb hr hlocks E hI (by rw [← h]) d_Fra_pop_16
theorem kw_Fra_49 : kWv "FamilyKernel$Frames" 49 "FamilyKernel$Frames" y_Fra_pop b_Fra_pop 1 none 0 := ⟨vt_882, vt_813, vt_814, vt_47, vt_815, by decide, by decide, by decide +kernel⟩
def f_Fra_give (a1 : Int32) (α : kS) : kS := (f_Fra_pop (kSi α 24 a1))
set_option maxHeartbeats 4000000 in
set_option maxRecDepth 100000 in
theorem k_Fra_give {l : Launch} {g : kG} {α : kS} (a1 : Int32)  : kC l g y_Fra_give b_Fra_give 2 none 12 341 [.ref (kad g 6), .int a1] α (kQr (some none, f_Fra_give a1 α)) := by
  generalize h : f_Fra_give a1 α = x
  unfold f_Fra_give at h
  refine kc_ofW (by decide) (fun A ad0 p e s m args below meth c S hr hlocks hno hadm hargs E hI => ?_)
  have hx := S.1
  have hb := S.2.1
  have hown := S.2.2.2.1
  have hT := S.2.2.2.2
  subst hargs
  have hl := lv_entry ([.ref (kad g 6), .int a1]) (n := 2) (Nat.le_of_ble_eq_true rfl)
  rw [lg_entry_eq]
  generalize (lg_sl ([.ref (kad g 6), .int a1]) ++ List.replicate (2 - (lg_sl ([.ref (kad g 6), .int a1])).length) Slot.unset).toArray = ls at hl ⊢
  have hl : lv_has ls 2 [(0, .ref (kad g 6)), (1, .int a1)] := hl
  refine lv_aload_n hx hb d_Fra_give_0 rfl (lv_at hl 0 rfl) ?_
  refine lv_iload_n hx hb d_Fra_give_1 rfl (lv_at hl 1 rfl) ?_
  refine kp_Fra_result S E hI vt_881 d_Fra_give_2 (fun H locs hI => ?_)
  refine lv_aload_n hx hb d_Fra_give_5 rfl (lv_at hl 0 rfl) ?_
  refine kg_tV (As := []) (rest := []) (k_Fra_pop (l := l) (g := g) (α := (kSi α 24 a1)) ) S hlocks hno E hI kw_Fra_49 ⟨Nat.le_of_ble_eq_true rfl, Nat.le_of_ble_eq_true rfl⟩ (kv_Fra E hI.1) rfl hl.1 rfl (Nat.le_of_ble_eq_true rfl) d_Fra_give_6 (fun ad H locs cells slots hRm hI => ?_)
  exact kc_vret hx hb hr hlocks E hI (by rw [← h]) d_Fra_give_9
def f_Fra_result  (α : kS) : Int32 := (α.1 24)
set_option maxHeartbeats 4000000 in
set_option maxRecDepth 100000 in
theorem k_Fra_result {l : Launch} {g : kG} {α : kS}   : kV l g y_Fra_result b_Fra_result 1 (some .int) 1 1 [.ref (kad g 6)] α (f_Fra_result α) := by
  generalize h : f_Fra_result α = x
  unfold f_Fra_result at h
  refine kv_ofW (by decide) (fun A ad p e s m args below meth c S hr hlocks hargs E hJ => ?_)
  have hx := S.1
  have hb := S.2.1
  have hown := S.2.2.2.1
  have hT := S.2.2.2.2
  subst hargs
  have hl := lv_entry ([.ref (kad g 6)]) (n := 1) (Nat.le_of_ble_eq_true rfl)
  rw [lg_entry_eq]
  generalize (lg_sl ([.ref (kad g 6)]) ++ List.replicate (1 - (lg_sl ([.ref (kad g 6)])).length) Slot.unset).toArray = ls at hl ⊢
  have hl : lv_has ls 1 [(0, .ref (kad g 6))] := hl
  refine lv_aload_n hx hb d_Fra_result_0 rfl (lv_at hl 0 rfl) ?_
  refine kf_Fra_result S E hJ vt_881 d_Fra_result_1 ?_
  exact kv_iret (w := (α.1 24)) hx hb hr rfl hlocks h d_Fra_result_4
def f_Fra_newVariable (N : Nat) (a1 : Int32) (α : kS) : Option (kO × kS) := kBv (fR_push α 13 a1) fun α1 => (some (some (some ((fR_size α1 13) - 1)), α1))
set_option maxHeartbeats 4000000 in
set_option maxRecDepth 100000 in
theorem k_Fra_newVariable {l : Launch} {g : kG} {α : kS} (hfl : kFl l) (N : Nat) (a1 : Int32)  : ∀ x, f_Fra_newVariable N a1 α = some x → kC l g y_Fra_newVariable b_Fra_newVariable 2 (some .int) 31 921 [.ref (kad g 6), .int a1] α (kQr x) := by
  intro x h
  unfold f_Fra_newVariable at h
  refine kc_ofW (by decide) (fun A ad0 p e s m args below meth c S hr hlocks hno hadm hargs E hI => ?_)
  have hx := S.1
  have hb := S.2.1
  have hown := S.2.2.2.1
  have hT := S.2.2.2.2
  subst hargs
  have hl := lv_entry ([.ref (kad g 6), .int a1]) (n := 2) (Nat.le_of_ble_eq_true rfl)
  rw [lg_entry_eq]
  generalize (lg_sl ([.ref (kad g 6), .int a1]) ++ List.replicate (2 - (lg_sl ([.ref (kad g 6), .int a1])).length) Slot.unset).toArray = ls at hl ⊢
  have hl : lv_has ls 2 [(0, .ref (kad g 6)), (1, .int a1)] := hl
  refine lv_aload_n hx hb d_Fra_newVariable_0 rfl (lv_at hl 0 rfl) ?_
  refine kf_Fra_types S E hI.1 vt_131 d_Fra_newVariable_1 ?_
  refine lv_iload_n hx hb d_Fra_newVariable_4 rfl (lv_at hl 1 rfl) ?_
  refine kg_cV (As := [.int a1]) (rest := []) h (k_Row_push (l := l) (g := g) (α := α) (r := 13) (by decide) a1) S hlocks hno E hI kw_Fra_36 ⟨Nat.le_of_ble_eq_true rfl, Nat.le_of_ble_eq_true rfl⟩ (kv_Row (r := 13) (by decide) E hI.1) rfl hl.1 rfl (Nat.le_of_ble_eq_true rfl) d_Fra_newVariable_5 (fun α1 ad H locs cells slots e2 h hRm hI => ?_)
  refine lv_aload_n hx hb d_Fra_newVariable_8 rfl (lv_at hl 0 rfl) ?_
  refine kf_Fra_types S E hI.1 vt_131 d_Fra_newVariable_9 ?_
  refine kg_p (As := []) (rest := []) (k_Row_size (l := l) (g := g) (α := α1) (r := 13) (by decide)) S E hI.1 kw_Fra_32 ⟨Nat.le_of_ble_eq_true rfl, Nat.le_of_ble_eq_true rfl⟩ hI.room (kv_Row (r := 13) (by decide) E hI.1) rfl hl.1 rfl (Nat.le_of_ble_eq_true rfl) d_Fra_newVariable_12 rfl ?_
  refine lv_iconst (v := 1) hx hb d_Fra_newVariable_15 (by decide) ?_
  refine lv_isub hx hb d_Fra_newVariable_16 ?_
  exact kc_iret (w := ((fR_size α1 13) - 1)) hx hb hr rfl hlocks E hI h d_Fra_newVariable_17
theorem kw_Fra_52 : kWv "FamilyKernel$Frames" 52 "FamilyKernel$Row" y_Row_pop b_Row_pop 1 (some .int) 0 := ⟨vt_904, vt_599, vt_600, vt_4, vt_601, by decide, by decide, by decide +kernel⟩
def f_Fra_dropVariable  (α : kS) : Int32 × kS := ((fR_size (fR_pop α 13).2 13), (fR_pop α 13).2)
set_option maxHeartbeats 4000000 in
set_option maxRecDepth 100000 in
theorem k_Fra_dropVariable {l : Launch} {g : kG} {α : kS}   : kC l g y_Fra_dropVariable b_Fra_dropVariable 1 (some .int) 11 320 [.ref (kad g 6)] α (kQr (some (some (f_Fra_dropVariable α).1), (f_Fra_dropVariable α).2)) := by
  generalize h : f_Fra_dropVariable α = x
  unfold f_Fra_dropVariable at h
  refine kc_ofW (by decide) (fun A ad0 p e s m args below meth c S hr hlocks hno hadm hargs E hI => ?_)
  have hx := S.1
  have hb := S.2.1
  have hown := S.2.2.2.1
  have hT := S.2.2.2.2
  subst hargs
  have hl := lv_entry ([.ref (kad g 6)]) (n := 1) (Nat.le_of_ble_eq_true rfl)
  rw [lg_entry_eq]
  generalize (lg_sl ([.ref (kad g 6)]) ++ List.replicate (1 - (lg_sl ([.ref (kad g 6)])).length) Slot.unset).toArray = ls at hl ⊢
  have hl : lv_has ls 1 [(0, .ref (kad g 6))] := hl
  refine lv_aload_n hx hb d_Fra_dropVariable_0 rfl (lv_at hl 0 rfl) ?_
  refine kf_Fra_types S E hI.1 vt_131 d_Fra_dropVariable_1 ?_
  refine kg_tI (As := []) (rest := []) (k_Row_pop (l := l) (g := g) (α := α) (r := 13) (by decide)) S hlocks hno E hI kw_Fra_52 ⟨Nat.le_of_ble_eq_true rfl, Nat.le_of_ble_eq_true rfl⟩ (kv_Row (r := 13) (by decide) E hI.1) rfl hl.1 rfl (Nat.le_of_ble_eq_true rfl) d_Fra_dropVariable_4 (fun ad H locs cells slots hRm hI => ?_)
  refine lv_pop hx hb d_Fra_dropVariable_7 rfl ?_
  refine lv_aload_n hx hb d_Fra_dropVariable_8 rfl (lv_at hl 0 rfl) ?_
  refine kf_Fra_types S E hI.1 vt_131 d_Fra_dropVariable_9 ?_
  refine kg_p (As := []) (rest := []) (k_Row_size (l := l) (g := g) (α := (fR_pop α 13).2) (r := 13) (by decide)) S E hI.1 kw_Fra_32 ⟨Nat.le_of_ble_eq_true rfl, Nat.le_of_ble_eq_true rfl⟩ hI.room (kv_Row (r := 13) (by decide) E hI.1) rfl hl.1 rfl (Nat.le_of_ble_eq_true rfl) d_Fra_dropVariable_12 rfl ?_
  exact kc_iret (w := (fR_size (fR_pop α 13).2 13)) hx hb hr rfl hlocks E hI (by rw [← h]) d_Fra_dropVariable_15
def f_Fra_typeOf (a1 : Int32) (α : kS) : Int32 := (fR_at α 13 a1)
set_option maxHeartbeats 4000000 in
set_option maxRecDepth 100000 in
theorem k_Fra_typeOf {l : Launch} {g : kG} {α : kS} (a1 : Int32)  : kV l g y_Fra_typeOf b_Fra_typeOf 2 (some .int) 11 321 [.ref (kad g 6), .int a1] α (f_Fra_typeOf a1 α) := by
  generalize h : f_Fra_typeOf a1 α = x
  unfold f_Fra_typeOf at h
  refine kv_ofW (by decide) (fun A ad p e s m args below meth c S hr hlocks hargs E hJ => ?_)
  have hx := S.1
  have hb := S.2.1
  have hown := S.2.2.2.1
  have hT := S.2.2.2.2
  subst hargs
  have hl := lv_entry ([.ref (kad g 6), .int a1]) (n := 2) (Nat.le_of_ble_eq_true rfl)
  rw [lg_entry_eq]
  generalize (lg_sl ([.ref (kad g 6), .int a1]) ++ List.replicate (2 - (lg_sl ([.ref (kad g 6), .int a1])).length) Slot.unset).toArray = ls at hl ⊢
  have hl : lv_has ls 2 [(0, .ref (kad g 6)), (1, .int a1)] := hl
  refine lv_aload_n hx hb d_Fra_typeOf_0 rfl (lv_at hl 0 rfl) ?_
  refine kf_Fra_types S E hJ vt_131 d_Fra_typeOf_1 ?_
  refine lv_iload_n hx hb d_Fra_typeOf_4 rfl (lv_at hl 1 rfl) ?_
  refine kg_p (As := [.int a1]) (rest := []) (k_Row_at (l := l) (g := g) (α := α) (r := 13) (by decide) a1) S E hJ kw_Fra_38 ⟨Nat.le_of_ble_eq_true rfl, Nat.le_of_ble_eq_true rfl⟩ ⟨Nat.le_refl _, Nat.le_refl _⟩ (kv_Row (r := 13) (by decide) E hJ) rfl hl.1 rfl (Nat.le_of_ble_eq_true rfl) d_Fra_typeOf_5 rfl ?_
  exact kv_iret (w := (fR_at α 13 a1)) hx hb hr rfl hlocks h d_Fra_typeOf_8
def f_Fra_dropVariables  (α : kS) : kS := (fR_cut α 13 0)
set_option maxHeartbeats 4000000 in
set_option maxRecDepth 100000 in
theorem k_Fra_dropVariables {l : Launch} {g : kG} {α : kS}   : kC l g y_Fra_dropVariables b_Fra_dropVariables 1 none 11 321 [.ref (kad g 6)] α (kQr (some none, f_Fra_dropVariables α)) := by
  generalize h : f_Fra_dropVariables α = x
  unfold f_Fra_dropVariables at h
  refine kc_ofW (by decide) (fun A ad0 p e s m args below meth c S hr hlocks hno hadm hargs E hI => ?_)
  have hx := S.1
  have hb := S.2.1
  have hown := S.2.2.2.1
  have hT := S.2.2.2.2
  subst hargs
  have hl := lv_entry ([.ref (kad g 6)]) (n := 1) (Nat.le_of_ble_eq_true rfl)
  rw [lg_entry_eq]
  generalize (lg_sl ([.ref (kad g 6)]) ++ List.replicate (1 - (lg_sl ([.ref (kad g 6)])).length) Slot.unset).toArray = ls at hl ⊢
  have hl : lv_has ls 1 [(0, .ref (kad g 6))] := hl
  refine lv_aload_n hx hb d_Fra_dropVariables_0 rfl (lv_at hl 0 rfl) ?_
  refine kf_Fra_types S E hI.1 vt_131 d_Fra_dropVariables_1 ?_
  refine lv_iconst (v := 0) hx hb d_Fra_dropVariables_4 (by decide) ?_
  refine kg_tV (As := [.int 0]) (rest := []) (k_Row_cut (l := l) (g := g) (α := α) (r := 13) (by decide) 0) S hlocks hno E hI kw_Fra_24 ⟨Nat.le_of_ble_eq_true rfl, Nat.le_of_ble_eq_true rfl⟩ (kv_Row (r := 13) (by decide) E hI.1) rfl hl.1 rfl (Nat.le_of_ble_eq_true rfl) d_Fra_dropVariables_5 (fun ad H locs cells slots hRm hI => ?_)
  exact kc_vret hx hb hr hlocks E hI (by rw [← h]) d_Fra_dropVariables_8
