theorem kw_Ker_104 : kWv "FamilyKernel" 104 "FamilyKernel$Row" y_Row_size b_Row_size 1 (some .int) 0 := ⟨vt_1199, vt_270, vt_271, vt_4, vt_272, by decide, by decide, by decide +kernel⟩
theorem kw_Ker_111 : kWv "FamilyKernel" 111 "FamilyKernel" y_Ker_takeBytes b_Ker_takeBytes 3 none 1 := ⟨vt_1208, vt_1209, vt_1210, vt_201, vt_1211, by decide, by decide, by decide +kernel⟩
set_option maxRecDepth 100000 in
theorem at_Ker_110 : (Bundle.ownAtoms0 "FamilyKernel" 110 kISE vx_names).all (fun a => decide (a ∈ vT) || decide (a ∈ [Cond.castable kISE kISE, vx_l1, vx_l2, vx_r1, vx_r2, vx_d1, vx_d2, vx_d3])) = true := by decide +kernel
def f_Ker_feed (N : Nat) (a1 : Int32) (a2 : Int32) (a3 : Int32) (a4 : Int32) (a5 : Int32) (α : kS) : Option (kO × kS) := if ((fR_size α 0) + 20) ≤ 65536 then (kBv (f_Ker_takeBytes N a1 α) fun α2 => (kBv (f_Ker_takeBytes N a2 α2) fun α4 => (kBv (f_Ker_takeBytes N a3 α4) fun α6 => (kBv (f_Ker_takeBytes N a4 α6) fun α8 => (kBv (f_Ker_takeBytes N a5 α8) fun α10 => (some (some (some (fR_size α10 0)), α10))))))) else (some (none, α))
set_option maxHeartbeats 4000000 in
set_option maxRecDepth 100000 in
theorem k_Ker_feed {l : Launch} {g : kG} {α : kS} (hfl : kFl l) (N : Nat) (a1 : Int32) (a2 : Int32) (a3 : Int32) (a4 : Int32) (a5 : Int32)  : ∀ x, f_Ker_feed N a1 a2 a3 a4 a5 α = some x → kC l g y_Ker_feed b_Ker_feed 6 (some .int) 32 943 [.ref (kad g 0), .int a1, .int a2, .int a3, .int a4, .int a5] α (kQr x) := by
  intro x h
  unfold f_Ker_feed at h
  refine kc_ofW (by decide) (fun A ad0 p e s m args below meth c S hr hlocks hno hadm hargs E hI => ?_)
  have htr : e.platform.stackTraces = false := Launch.traces_off hfl hadm
  have hx := S.1
  have hb := S.2.1
  have hown := S.2.2.2.1
  have hT := S.2.2.2.2
  subst hargs
  have hl := lv_entry ([.ref (kad g 0), .int a1, .int a2, .int a3, .int a4, .int a5]) (n := 6) (Nat.le_of_ble_eq_true rfl)
  rw [lg_entry_eq]
  generalize (lg_sl ([.ref (kad g 0), .int a1, .int a2, .int a3, .int a4, .int a5]) ++ List.replicate (6 - (lg_sl ([.ref (kad g 0), .int a1, .int a2, .int a3, .int a4, .int a5])).length) Slot.unset).toArray = ls at hl ⊢
  have hl : lv_has ls 6 [(0, .ref (kad g 0)), (1, .int a1), (2, .int a2), (3, .int a3), (4, .int a4), (5, .int a5)] := hl
  refine lv_aload_n hx hb d_Ker_feed_0 rfl (lv_at hl 0 rfl) ?_
  refine kf_Ker_tape S E hI.1 vt_10 d_Ker_feed_1 ?_
  refine kg_p (As := []) (rest := []) (k_Row_size (l := l) (g := g) (α := α) (r := 0) (by decide)) S E hI.1 kw_Ker_104 ⟨Nat.le_of_ble_eq_true rfl, Nat.le_of_ble_eq_true rfl⟩ hI.room (kv_Row (r := 0) (by decide) E hI.1) rfl hl.1 rfl (Nat.le_of_ble_eq_true rfl) d_Ker_feed_4 rfl ?_
  refine lv_bipush (v := 20) hx hb d_Ker_feed_7 (by decide) ?_
  refine lv_iadd hx hb d_Ker_feed_9 ?_
  refine lv_ldc (v := 65536) hx hb hown (hT _ vt_6) d_Ker_feed_10 ?_
  refine lv_icmp_le (tgt := 23) hx hb d_Ker_feed_12 (by decide) (fun c1 => ?_) (fun c1 => ?_)
  · replace h := Eq.trans (if_pos c1).symm h
    refine lv_aload_n hx hb d_Ker_feed_23 rfl (lv_at hl 0 rfl) ?_
    refine lv_iload_n hx hb d_Ker_feed_24 rfl (lv_at hl 1 rfl) ?_
    refine kg_cV (As := [.int a1]) (rest := []) h (k_Ker_takeBytes (l := l) (g := g) (α := α) hfl N a1) S hlocks hno E hI kw_Ker_111 ⟨Nat.le_of_ble_eq_true rfl, Nat.le_of_ble_eq_true rfl⟩ (kv_Ker E hI.1) rfl hl.1 rfl (Nat.le_of_ble_eq_true rfl) d_Ker_feed_25 (fun α2 ad H locs cells slots e3 h hRm hI => ?_)
    refine lv_aload_n hx hb d_Ker_feed_28 rfl (lv_at hl 0 rfl) ?_
    refine lv_iload_n hx hb d_Ker_feed_29 rfl (lv_at hl 2 rfl) ?_
    refine kg_cV (As := [.int a2]) (rest := []) h (k_Ker_takeBytes (l := l) (g := g) (α := α2) hfl N a2) S hlocks hno E hI kw_Ker_111 ⟨Nat.le_of_ble_eq_true rfl, Nat.le_of_ble_eq_true rfl⟩ (kv_Ker E hI.1) rfl hl.1 rfl (Nat.le_of_ble_eq_true rfl) d_Ker_feed_30 (fun α4 ad H locs cells slots e5 h hRm hI => ?_)
    refine lv_aload_n hx hb d_Ker_feed_33 rfl (lv_at hl 0 rfl) ?_
    refine lv_iload_n hx hb d_Ker_feed_34 rfl (lv_at hl 3 rfl) ?_
    refine kg_cV (As := [.int a3]) (rest := []) h (k_Ker_takeBytes (l := l) (g := g) (α := α4) hfl N a3) S hlocks hno E hI kw_Ker_111 ⟨Nat.le_of_ble_eq_true rfl, Nat.le_of_ble_eq_true rfl⟩ (kv_Ker E hI.1) rfl hl.1 rfl (Nat.le_of_ble_eq_true rfl) d_Ker_feed_35 (fun α6 ad H locs cells slots e7 h hRm hI => ?_)
    refine lv_aload_n hx hb d_Ker_feed_38 rfl (lv_at hl 0 rfl) ?_
    refine lv_iload hx hb d_Ker_feed_39 (lv_at hl 4 rfl) ?_
    refine kg_cV (As := [.int a4]) (rest := []) h (k_Ker_takeBytes (l := l) (g := g) (α := α6) hfl N a4) S hlocks hno E hI kw_Ker_111 ⟨Nat.le_of_ble_eq_true rfl, Nat.le_of_ble_eq_true rfl⟩ (kv_Ker E hI.1) rfl hl.1 rfl (Nat.le_of_ble_eq_true rfl) d_Ker_feed_41 (fun α8 ad H locs cells slots e9 h hRm hI => ?_)
    refine lv_aload_n hx hb d_Ker_feed_44 rfl (lv_at hl 0 rfl) ?_
    refine lv_iload hx hb d_Ker_feed_45 (lv_at hl 5 rfl) ?_
    refine kg_cV (As := [.int a5]) (rest := []) h (k_Ker_takeBytes (l := l) (g := g) (α := α8) hfl N a5) S hlocks hno E hI kw_Ker_111 ⟨Nat.le_of_ble_eq_true rfl, Nat.le_of_ble_eq_true rfl⟩ (kv_Ker E hI.1) rfl hl.1 rfl (Nat.le_of_ble_eq_true rfl) d_Ker_feed_47 (fun α10 ad H locs cells slots e11 h hRm hI => ?_)
    refine lv_aload_n hx hb d_Ker_feed_50 rfl (lv_at hl 0 rfl) ?_
    refine kf_Ker_tape S E hI.1 vt_10 d_Ker_feed_51 ?_
    refine kg_p (As := []) (rest := []) (k_Row_size (l := l) (g := g) (α := α10) (r := 0) (by decide)) S E hI.1 kw_Ker_104 ⟨Nat.le_of_ble_eq_true rfl, Nat.le_of_ble_eq_true rfl⟩ hI.room (kv_Row (r := 0) (by decide) E hI.1) rfl hl.1 rfl (Nat.le_of_ble_eq_true rfl) d_Ker_feed_54 rfl ?_
    exact kc_iret (w := (fR_size α10 0)) hx hb hr rfl hlocks E hI h d_Ker_feed_57
  · replace h := Eq.trans (if_neg c1).symm h
    exact kg_throw (ic := 110) S hlocks hno htr E hI h vt_1206 vt_436 at_Ker_110 hl.1 d_Ker_feed_15 d_Ker_feed_18 d_Ker_feed_19 d_Ker_feed_22 (by decide) (by decide)
def f_Ker_end (N : Nat) (a1 : Int32) (α : kS) : Option (kO × kS) := if a1 < 0 then (none) else (if a1 ≤ (fR_size α 0) then (some (some (some a1), (fR_cut α 0 a1))) else (none))
set_option maxHeartbeats 4000000 in
set_option maxRecDepth 100000 in
theorem k_Ker_end {l : Launch} {g : kG} {α : kS} (hfl : kFl l) (N : Nat) (a1 : Int32)  : ∀ x, f_Ker_end N a1 α = some x → kC l g y_Ker_end b_Ker_end 2 (some .int) 11 321 [.ref (kad g 0), .int a1] α (kQr x) := by
  intro x h
  unfold f_Ker_end at h
  refine kc_ofW (by decide) (fun A ad0 p e s m args below meth c S hr hlocks hno hadm hargs E hI => ?_)
  have htr : e.platform.stackTraces = false := Launch.traces_off hfl hadm
  have hx := S.1
  have hb := S.2.1
  have hown := S.2.2.2.1
  have hT := S.2.2.2.2
  subst hargs
  have hl := lv_entry ([.ref (kad g 0), .int a1]) (n := 2) (Nat.le_of_ble_eq_true rfl)
  rw [lg_entry_eq]
  generalize (lg_sl ([.ref (kad g 0), .int a1]) ++ List.replicate (2 - (lg_sl ([.ref (kad g 0), .int a1])).length) Slot.unset).toArray = ls at hl ⊢
  have hl : lv_has ls 2 [(0, .ref (kad g 0)), (1, .int a1)] := hl
  refine lv_iload_n hx hb d_Ker_end_0 rfl (lv_at hl 1 rfl) ?_
  refine lv_if_lt (tgt := 15) hx hb d_Ker_end_1 (by decide) (fun c1 => ?_) (fun c1 => ?_)
  · replace h := Eq.trans (if_pos c1).symm h
    cases h
  · replace h := Eq.trans (if_neg c1).symm h
    refine lv_iload_n hx hb d_Ker_end_4 rfl (lv_at hl 1 rfl) ?_
    refine lv_aload_n hx hb d_Ker_end_5 rfl (lv_at hl 0 rfl) ?_
    refine kf_Ker_tape S E hI.1 vt_10 d_Ker_end_6 ?_
    refine kg_p (As := []) (rest := [.int a1]) (k_Row_size (l := l) (g := g) (α := α) (r := 0) (by decide)) S E hI.1 kw_Ker_104 ⟨Nat.le_of_ble_eq_true rfl, Nat.le_of_ble_eq_true rfl⟩ hI.room (kv_Row (r := 0) (by decide) E hI.1) rfl hl.1 rfl (Nat.le_of_ble_eq_true rfl) d_Ker_end_9 rfl ?_
    refine lv_icmp_le (tgt := 23) hx hb d_Ker_end_12 (by decide) (fun c2 => ?_) (fun c2 => ?_)
    · replace h := Eq.trans (if_pos c2).symm h
      refine lv_aload_n hx hb d_Ker_end_23 rfl (lv_at hl 0 rfl) ?_
      refine kf_Ker_tape S E hI.1 vt_10 d_Ker_end_24 ?_
      refine lv_iload_n hx hb d_Ker_end_27 rfl (lv_at hl 1 rfl) ?_
      refine kg_tV (As := [.int a1]) (rest := []) (k_Row_cut (l := l) (g := g) (α := α) (r := 0) (by decide) a1) S hlocks hno E hI kw_Ker_121 ⟨Nat.le_of_ble_eq_true rfl, Nat.le_of_ble_eq_true rfl⟩ (kv_Row (r := 0) (by decide) E hI.1) rfl hl.1 rfl (Nat.le_of_ble_eq_true rfl) d_Ker_end_28 (fun ad H locs cells slots hRm hI => ?_)
      refine lv_iload_n hx hb d_Ker_end_31 rfl (lv_at hl 1 rfl) ?_
      exact kc_iret (w := a1) hx hb hr rfl hlocks E hI h d_Ker_end_32
    · replace h := Eq.trans (if_neg c2).symm h
      cases h
theorem kw_Ker_330 : kWv "FamilyKernel" 330 "FamilyKernel$Meter" y_Meter_place b_Meter_place 1 (some .int) 0 := ⟨vt_1188, vt_1189, vt_1190, vt_13, vt_1191, by decide, by decide, by decide +kernel⟩
theorem kw_Ker_327 : kWv "FamilyKernel" 327 "FamilyKernel$Meter" y_Meter_code b_Meter_code 1 (some .int) 0 := ⟨vt_1184, vt_1185, vt_1186, vt_13, vt_1187, by decide, by decide, by decide +kernel⟩
def f_Ker_fault (a1 : Int32) (α : kS) : Int32 := if a1 = 0 then ((f_Meter_code α)) else (if a1 = 1 then ((f_Meter_place α)) else ((-1)))
set_option maxHeartbeats 4000000 in
set_option maxRecDepth 100000 in
theorem k_Ker_fault {l : Launch} {g : kG} {α : kS} (a1 : Int32)  : kV l g y_Ker_fault b_Ker_fault 2 (some .int) 2 21 [.ref (kad g 0), .int a1] α (f_Ker_fault a1 α) := by
  generalize h : f_Ker_fault a1 α = x
  unfold f_Ker_fault at h
  refine kv_ofW (by decide) (fun A ad p e s m args below meth c S hr hlocks hargs E hJ => ?_)
  have hx := S.1
  have hb := S.2.1
  have hown := S.2.2.2.1
  have hT := S.2.2.2.2
  subst hargs
  have hl := lv_entry ([.ref (kad g 0), .int a1]) (n := 2) (Nat.le_of_ble_eq_true rfl)
  rw [lg_entry_eq]
  generalize (lg_sl ([.ref (kad g 0), .int a1]) ++ List.replicate (2 - (lg_sl ([.ref (kad g 0), .int a1])).length) Slot.unset).toArray = ls at hl ⊢
  have hl : lv_has ls 2 [(0, .ref (kad g 0)), (1, .int a1)] := hl
  refine lv_iload_n hx hb d_Ker_fault_0 rfl (lv_at hl 1 rfl) ?_
  refine lv_if_ne (tgt := 12) hx hb d_Ker_fault_1 (by decide) (fun c1 => ?_) (fun c1 => ?_)
  · replace h := Eq.trans (if_neg c1).symm h
    refine lv_iload_n hx hb d_Ker_fault_12 rfl (lv_at hl 1 rfl) ?_
    refine lv_iconst (v := 1) hx hb d_Ker_fault_13 (by decide) ?_
    refine lv_icmp_ne (tgt := 27) hx hb d_Ker_fault_14 (by decide) (fun c2 => ?_) (fun c2 => ?_)
    · replace h := Eq.trans (if_neg c2).symm h
      refine lv_iconst (v := (-1)) hx hb d_Ker_fault_27 (by decide) ?_
      exact kv_iret (w := (-1)) hx hb hr rfl hlocks h d_Ker_fault_28
    · replace h := Eq.trans (if_pos c2).symm h
      refine lv_aload_n hx hb d_Ker_fault_17 rfl (lv_at hl 0 rfl) ?_
      refine kf_Ker_meter S E hJ vt_17 d_Ker_fault_18 ?_
      refine kg_p (As := []) (rest := []) (k_Meter_place (l := l) (g := g) (α := α) ) S E hJ kw_Ker_330 ⟨Nat.le_of_ble_eq_true rfl, Nat.le_of_ble_eq_true rfl⟩ ⟨Nat.le_refl _, Nat.le_refl _⟩ (kv_Meter E hJ) rfl hl.1 rfl (Nat.le_of_ble_eq_true rfl) d_Ker_fault_21 rfl ?_
      refine lv_goto (tgt := 28) hx hb d_Ker_fault_24 (by decide) ?_
      exact kv_iret (w := (f_Meter_place α)) hx hb hr rfl hlocks h d_Ker_fault_28
  · replace h := Eq.trans (if_pos c1).symm h
    refine lv_aload_n hx hb d_Ker_fault_4 rfl (lv_at hl 0 rfl) ?_
    refine kf_Ker_meter S E hJ vt_17 d_Ker_fault_5 ?_
    refine kg_p (As := []) (rest := []) (k_Meter_code (l := l) (g := g) (α := α) ) S E hJ kw_Ker_327 ⟨Nat.le_of_ble_eq_true rfl, Nat.le_of_ble_eq_true rfl⟩ ⟨Nat.le_refl _, Nat.le_refl _⟩ (kv_Meter E hJ) rfl hl.1 rfl (Nat.le_of_ble_eq_true rfl) d_Ker_fault_8 rfl ?_
    exact kv_iret (w := (f_Meter_code α)) hx hb hr rfl hlocks h d_Ker_fault_11
theorem kw_Ker_333 : kWv "FamilyKernel" 333 "FamilyKernel$Environment" y_Env_clear b_Env_clear 1 none 0 := ⟨vt_1193, vt_1194, vt_1195, vt_26, vt_1196, by decide, by decide, by decide +kernel⟩
def f_Ker_reset (N : Nat)  (α : kS) : Option (kO × kS) := kBv (f_Terms_release N 0 (f_Env_clear α)) fun α1 => (some (some (some (f_Env_length α)), (kSi α1 0 0)))
set_option maxHeartbeats 4000000 in
set_option maxRecDepth 100000 in
theorem k_Ker_reset {l : Launch} {g : kG} {α : kS} (hfl : kFl l) (N : Nat)   : ∀ x, f_Ker_reset N α = some x → kC l g y_Ker_reset b_Ker_reset 2 (some .int) 14 384 [.ref (kad g 0)] α (kQr x) := by
  intro x h
  unfold f_Ker_reset at h
  refine kc_ofW (by decide) (fun A ad0 p e s m args below meth c S hr hlocks hno hadm hargs E hI => ?_)
  have hx := S.1
  have hb := S.2.1
  have hown := S.2.2.2.1
  have hT := S.2.2.2.2
  subst hargs
  have hl := lv_entry ([.ref (kad g 0)]) (n := 2) (Nat.le_of_ble_eq_true rfl)
  rw [lg_entry_eq]
  generalize (lg_sl ([.ref (kad g 0)]) ++ List.replicate (2 - (lg_sl ([.ref (kad g 0)])).length) Slot.unset).toArray = ls at hl ⊢
  have hl : lv_has ls 2 [(0, .ref (kad g 0))] := hl
  refine lv_aload_n hx hb d_Ker_reset_0 rfl (lv_at hl 0 rfl) ?_
  refine kf_Ker_environment S E hI.1 vt_31 d_Ker_reset_1 ?_
  refine kg_p (As := []) (rest := []) (k_Env_length (l := l) (g := g) (α := α) ) S E hI.1 kw_Ker_133 ⟨Nat.le_of_ble_eq_true rfl, Nat.le_of_ble_eq_true rfl⟩ hI.room (kv_Env E hI.1) rfl hl.1 rfl (Nat.le_of_ble_eq_true rfl) d_Ker_reset_4 rfl ?_
  refine lv_istore_n (lv' := [(1, .int (f_Env_length α)), (0, .ref (kad g 0))]) hx hb d_Ker_reset_7 rfl hl (by decide) rfl (fun ls hl => ?_)
  refine lv_aload_n hx hb d_Ker_reset_8 rfl (lv_at hl 1 rfl) ?_
  refine kf_Ker_environment S E hI.1 vt_31 d_Ker_reset_9 ?_
  refine kg_tV (As := []) (rest := []) (k_Env_clear (l := l) (g := g) (α := α) ) S hlocks hno E hI kw_Ker_333 ⟨Nat.le_of_ble_eq_true rfl, Nat.le_of_ble_eq_true rfl⟩ (kv_Env E hI.1) rfl hl.1 rfl (Nat.le_of_ble_eq_true rfl) d_Ker_reset_12 (fun ad H locs cells slots hRm hI => ?_)
  refine lv_aload_n hx hb d_Ker_reset_15 rfl (lv_at hl 1 rfl) ?_
  refine kf_Ker_terms S E hI.1 vt_24 d_Ker_reset_16 ?_
  refine lv_iconst (v := 0) hx hb d_Ker_reset_19 (by decide) ?_
  refine kg_cV (As := [.int 0]) (rest := []) h (k_Terms_release (l := l) (g := g) (α := (f_Env_clear α)) hfl N 0) S hlocks hno E hI kw_Ker_158 ⟨Nat.le_of_ble_eq_true rfl, Nat.le_of_ble_eq_true rfl⟩ (kv_Terms E hI.1) rfl hl.1 rfl (Nat.le_of_ble_eq_true rfl) d_Ker_reset_20 (fun α1 ad H locs cells slots e2 h hRm hI => ?_)
  refine lv_aload_n hx hb d_Ker_reset_23 rfl (lv_at hl 1 rfl) ?_
  refine lv_iconst (v := 0) hx hb d_Ker_reset_24 (by decide) ?_
  refine kp_Ker_declared S E hI vt_225 d_Ker_reset_25 (fun H locs hI => ?_)
  refine lv_iload_n hx hb d_Ker_reset_28 rfl (lv_at hl 0 rfl) ?_
  exact kc_iret (w := (f_Env_length α)) hx hb hr rfl hlocks E hI h d_Ker_reset_29
theorem kw_Ker_339 : kWv "FamilyKernel" 339 "FamilyKernel$Environment" y_Env_fact b_Env_fact 3 (some .int) 2 := ⟨vt_1235, vt_459, vt_460, vt_26, vt_461, by decide, by decide, by decide +kernel⟩
def f_Ker_constant_j61 (N : Nat)  (y3 : Int32) (γ : kS) : Option (kO × kS) := if y3 = (-1) then (some (some (some 0), γ)) else (some (some (some (f_Terms_size y3 γ)), γ))
def f_Ker_constant (N : Nat) (a1 : Int32) (a2 : Int32) (α : kS) : Option (kO × kS) := if a1 < 0 then (none) else (if a1 < (f_Env_length α) then (if a2 < 0 then (none) else (if a2 ≤ 7 then (if a2 = 1 then (f_Ker_constant_j61 N (f_Env_fact a1 a2 α) α) else (if a2 = 2 then (f_Ker_constant_j61 N (f_Env_fact a1 a2 α) α) else (some (some (some (f_Env_fact a1 a2 α)), α)))) else (none))) else (none))
set_option maxHeartbeats 4000000 in
set_option maxRecDepth 100000 in
theorem k_Ker_constant {l : Launch} {g : kG} {α : kS} (hfl : kFl l) (N : Nat) (a1 : Int32) (a2 : Int32)  : ∀ x, f_Ker_constant N a1 a2 α = some x → kC l g y_Ker_constant b_Ker_constant 4 (some .int) 12 343 [.ref (kad g 0), .int a1, .int a2] α (kQr x) := by
  intro x h
  unfold f_Ker_constant at h
  refine kc_ofW (by decide) (fun A ad0 p e s m args below meth c S hr hlocks hno hadm hargs E hI => ?_)
  have htr : e.platform.stackTraces = false := Launch.traces_off hfl hadm
  have hx := S.1
  have hb := S.2.1
  have hown := S.2.2.2.1
  have hT := S.2.2.2.2
  subst hargs
  have hl := lv_entry ([.ref (kad g 0), .int a1, .int a2]) (n := 4) (Nat.le_of_ble_eq_true rfl)
  rw [lg_entry_eq]
  generalize (lg_sl ([.ref (kad g 0), .int a1, .int a2]) ++ List.replicate (4 - (lg_sl ([.ref (kad g 0), .int a1, .int a2])).length) Slot.unset).toArray = ls at hl ⊢
  have hl : lv_has ls 4 [(0, .ref (kad g 0)), (1, .int a1), (2, .int a2)] := hl
  have J61 : ∀ (y3 : Int32) (γ : kS) (ad : Nat → Nat) (H : Heap) (locs : List Loc) (cells slots : Nat) (ls : Array Slot), f_Ker_constant_j61 N y3 γ = some x → kI g A s α ad0 γ ad H locs cells slots → lv_has ls 4 [(3, .int y3), (0, .ref (kad g 0))] → W p l e (kR 12 343 α) s m ([.ref (kad g 0), .int a1, .int a2]).toArray below meth c H locs cells slots (vEQ below (kQ g A α ad0 (kQr x)) ([.ref (kad g 0), .int a1, .int a2]).toArray s A) (F0 m 61 ls []) := by
    intro y3 γ ad H locs cells slots ls h hI hl
    unfold f_Ker_constant_j61 at h
    refine lv_iload_n hx hb d_Ker_constant_61 rfl (lv_at hl 0 rfl) ?_
    refine lv_iconst (v := (-1)) hx hb d_Ker_constant_62 (by decide) ?_
    refine lv_icmp_ne (tgt := 70) hx hb d_Ker_constant_63 (by decide) (fun c6 => ?_) (fun c6 => ?_)
    · replace h := Eq.trans (if_neg c6).symm h
      refine lv_aload_n hx hb d_Ker_constant_70 rfl (lv_at hl 1 rfl) ?_
      refine kf_Ker_terms S E hI.1 vt_24 d_Ker_constant_71 ?_
      refine lv_iload_n hx hb d_Ker_constant_74 rfl (lv_at hl 0 rfl) ?_
      refine kg_p (As := [.int y3]) (rest := []) (k_Terms_size (l := l) (g := g) (α := γ) y3) S E hI.1 kw_Ker_313 ⟨Nat.le_of_ble_eq_true rfl, Nat.le_of_ble_eq_true rfl⟩ hI.room (kv_Terms E hI.1) rfl hl.1 rfl (Nat.le_of_ble_eq_true rfl) d_Ker_constant_75 rfl ?_
      exact kc_iret (w := (f_Terms_size y3 γ)) hx hb hr rfl hlocks E hI h d_Ker_constant_78
    · replace h := Eq.trans (if_pos c6).symm h
      refine lv_iconst (v := 0) hx hb d_Ker_constant_66 (by decide) ?_
      refine lv_goto (tgt := 78) hx hb d_Ker_constant_67 (by decide) ?_
      exact kc_iret (w := 0) hx hb hr rfl hlocks E hI h d_Ker_constant_78
  refine lv_iload_n hx hb d_Ker_constant_0 rfl (lv_at hl 1 rfl) ?_
  refine lv_if_lt (tgt := 15) hx hb d_Ker_constant_1 (by decide) (fun c1 => ?_) (fun c1 => ?_)
  · replace h := Eq.trans (if_pos c1).symm h
    cases h
  · replace h := Eq.trans (if_neg c1).symm h
    refine lv_iload_n hx hb d_Ker_constant_4 rfl (lv_at hl 1 rfl) ?_
    refine lv_aload_n hx hb d_Ker_constant_5 rfl (lv_at hl 0 rfl) ?_
    refine kf_Ker_environment S E hI.1 vt_31 d_Ker_constant_6 ?_
    refine kg_p (As := []) (rest := [.int a1]) (k_Env_length (l := l) (g := g) (α := α) ) S E hI.1 kw_Ker_133 ⟨Nat.le_of_ble_eq_true rfl, Nat.le_of_ble_eq_true rfl⟩ hI.room (kv_Env E hI.1) rfl hl.1 rfl (Nat.le_of_ble_eq_true rfl) d_Ker_constant_9 rfl ?_
    refine lv_icmp_lt (tgt := 23) hx hb d_Ker_constant_12 (by decide) (fun c2 => ?_) (fun c2 => ?_)
    · replace h := Eq.trans (if_pos c2).symm h
      refine lv_iload_n hx hb d_Ker_constant_23 rfl (lv_at hl 2 rfl) ?_
      refine lv_if_lt (tgt := 33) hx hb d_Ker_constant_24 (by decide) (fun c3 => ?_) (fun c3 => ?_)
      · replace h := Eq.trans (if_pos c3).symm h
        cases h
      · replace h := Eq.trans (if_neg c3).symm h
        refine lv_iload_n hx hb d_Ker_constant_27 rfl (lv_at hl 2 rfl) ?_
        refine lv_bipush (v := 7) hx hb d_Ker_constant_28 (by decide) ?_
        refine lv_icmp_le (tgt := 41) hx hb d_Ker_constant_30 (by decide) (fun c4 => ?_) (fun c4 => ?_)
        · replace h := Eq.trans (if_pos c4).symm h
          refine lv_aload_n hx hb d_Ker_constant_41 rfl (lv_at hl 0 rfl) ?_
          refine kf_Ker_environment S E hI.1 vt_31 d_Ker_constant_42 ?_
          refine lv_iload_n hx hb d_Ker_constant_45 rfl (lv_at hl 1 rfl) ?_
          refine lv_iload_n hx hb d_Ker_constant_46 rfl (lv_at hl 2 rfl) ?_
          refine kg_p (As := [.int a1, .int a2]) (rest := []) (k_Env_fact (l := l) (g := g) (α := α) a1 a2) S E hI.1 kw_Ker_339 ⟨Nat.le_of_ble_eq_true rfl, Nat.le_of_ble_eq_true rfl⟩ hI.room (kv_Env E hI.1) rfl hl.1 rfl (Nat.le_of_ble_eq_true rfl) d_Ker_constant_47 rfl ?_
          refine lv_istore_n (lv' := [(3, .int (f_Env_fact a1 a2 α)), (0, .ref (kad g 0)), (1, .int a1), (2, .int a2)]) hx hb d_Ker_constant_50 rfl hl (by decide) rfl (fun ls hl => ?_)
          refine lv_iload_n hx hb d_Ker_constant_51 rfl (lv_at hl 3 rfl) ?_
          refine lv_iconst (v := 1) hx hb d_Ker_constant_52 (by decide) ?_
          refine lv_icmp_eq (tgt := 61) hx hb d_Ker_constant_53 (by decide) (fun c5 => ?_) (fun c5 => ?_)
          · replace h := Eq.trans (if_pos c5).symm h
            exact J61 (f_Env_fact a1 a2 α) _ _ _ _ _ _ _ h hI (lv_sub hl [0, 1] rfl)
          · replace h := Eq.trans (if_neg c5).symm h
            refine lv_iload_n hx hb d_Ker_constant_56 rfl (lv_at hl 3 rfl) ?_
            refine lv_iconst (v := 2) hx hb d_Ker_constant_57 (by decide) ?_
            refine lv_icmp_ne (tgt := 79) hx hb d_Ker_constant_58 (by decide) (fun c7 => ?_) (fun c7 => ?_)
            · replace h := Eq.trans (if_neg c7).symm h
              refine lv_iload_n hx hb d_Ker_constant_79 rfl (lv_at hl 0 rfl) ?_
              exact kc_iret (w := (f_Env_fact a1 a2 α)) hx hb hr rfl hlocks E hI h d_Ker_constant_80
            · replace h := Eq.trans (if_pos c7).symm h
              exact J61 (f_Env_fact a1 a2 α) _ _ _ _ _ _ _ h hI (lv_sub hl [0, 1] rfl)
        · replace h := Eq.trans (if_neg c4).symm h
          cases h
    · replace h := Eq.trans (if_neg c2).symm h
      cases h
theorem kw_Ker_343 : kWv "FamilyKernel" 343 "FamilyKernel$Printer" y_Pri_printName b_Pri_printName 2 none 1 := ⟨vt_1241, vt_1242, vt_1243, vt_75, vt_1244, by decide, by decide, by decide +kernel⟩
def f_Ker_show_j49 (N : Nat)  (y1 : Int32) (y2 : Int32) (γ : kS) : Option (kO × kS) := if y2 < 0 then (none) else (if y2 ≤ 2 then (if y2 = 0 then (kBv (f_Pri_printName N y1 γ) fun α9 => (some (some (some (fR_size α9 1)), α9))) else (kBv (f_Pri_print N (f_Env_fact y1 y2 γ) 0 γ) fun α7 => (some (some (some (fR_size α7 1)), α7)))) else (none))
def f_Ker_show (N : Nat) (a1 : Int32) (a2 : Int32) (α : kS) : Option (kO × kS) := if a1 < 0 then (none) else (if a1 < (f_Env_length α) then (if a2 = 2 then (if (f_Env_fact a1 2 α) = (-1) then (none) else (f_Ker_show_j49 N a1 a2 α)) else (f_Ker_show_j49 N a1 a2 α)) else (none))
set_option maxHeartbeats 4000000 in
set_option maxRecDepth 100000 in
theorem k_Ker_show {l : Launch} {g : kG} {α : kS} (hfl : kFl l) (N : Nat) (a1 : Int32) (a2 : Int32)  : ∀ x, f_Ker_show N a1 a2 α = some x → kC l g y_Ker_show b_Ker_show 3 (some .int) 35 1022 [.ref (kad g 0), .int a1, .int a2] α (kQr x) := by
  intro x h
  unfold f_Ker_show at h
  refine kc_ofW (by decide) (fun A ad0 p e s m args below meth c S hr hlocks hno hadm hargs E hI => ?_)
  have htr : e.platform.stackTraces = false := Launch.traces_off hfl hadm
  have hx := S.1
  have hb := S.2.1
  have hown := S.2.2.2.1
  have hT := S.2.2.2.2
  subst hargs
  have hl := lv_entry ([.ref (kad g 0), .int a1, .int a2]) (n := 3) (Nat.le_of_ble_eq_true rfl)
  rw [lg_entry_eq]
  generalize (lg_sl ([.ref (kad g 0), .int a1, .int a2]) ++ List.replicate (3 - (lg_sl ([.ref (kad g 0), .int a1, .int a2])).length) Slot.unset).toArray = ls at hl ⊢
  have hl : lv_has ls 3 [(0, .ref (kad g 0)), (1, .int a1), (2, .int a2)] := hl
  have J49 : ∀ (y1 : Int32) (y2 : Int32) (γ : kS) (ad : Nat → Nat) (H : Heap) (locs : List Loc) (cells slots : Nat) (ls : Array Slot), f_Ker_show_j49 N y1 y2 γ = some x → kI g A s α ad0 γ ad H locs cells slots → lv_has ls 3 [(0, .ref (kad g 0)), (1, .int y1), (2, .int y2)] → W p l e (kR 35 1022 α) s m ([.ref (kad g 0), .int a1, .int a2]).toArray below meth c H locs cells slots (vEQ below (kQ g A α ad0 (kQr x)) ([.ref (kad g 0), .int a1, .int a2]).toArray s A) (F0 m 49 ls []) := by
    intro y1 y2 γ ad H locs cells slots ls h hI hl
    unfold f_Ker_show_j49 at h
    refine lv_iload_n hx hb d_Ker_show_49 rfl (lv_at hl 2 rfl) ?_
    refine lv_if_lt (tgt := 58) hx hb d_Ker_show_50 (by decide) (fun c4 => ?_) (fun c4 => ?_)
    · replace h := Eq.trans (if_pos c4).symm h
      cases h
    · replace h := Eq.trans (if_neg c4).symm h
      refine lv_iload_n hx hb d_Ker_show_53 rfl (lv_at hl 2 rfl) ?_
      refine lv_iconst (v := 2) hx hb d_Ker_show_54 (by decide) ?_
      refine lv_icmp_le (tgt := 66) hx hb d_Ker_show_55 (by decide) (fun c5 => ?_) (fun c5 => ?_)
      · replace h := Eq.trans (if_pos c5).symm h
        refine lv_iload_n hx hb d_Ker_show_66 rfl (lv_at hl 2 rfl) ?_
        refine lv_if_ne (tgt := 81) hx hb d_Ker_show_67 (by decide) (fun c6 => ?_) (fun c6 => ?_)
        · replace h := Eq.trans (if_neg c6).symm h
          refine lv_aload_n hx hb d_Ker_show_81 rfl (lv_at hl 0 rfl) ?_
          refine kf_Ker_printer S E hI.1 vt_80 d_Ker_show_82 ?_
          refine lv_aload_n hx hb d_Ker_show_85 rfl (lv_at hl 0 rfl) ?_
          refine kf_Ker_environment S E hI.1 vt_31 d_Ker_show_86 ?_
          refine lv_iload_n hx hb d_Ker_show_89 rfl (lv_at hl 1 rfl) ?_
          refine lv_iload_n hx hb d_Ker_show_90 rfl (lv_at hl 2 rfl) ?_
          refine kg_p (As := [.int y1, .int y2]) (rest := [.ref (kad g 10)]) (k_Env_fact (l := l) (g := g) (α := γ) y1 y2) S E hI.1 kw_Ker_339 ⟨Nat.le_of_ble_eq_true rfl, Nat.le_of_ble_eq_true rfl⟩ hI.room (kv_Env E hI.1) rfl hl.1 rfl (Nat.le_of_ble_eq_true rfl) d_Ker_show_91 rfl ?_
          refine lv_iconst (v := 0) hx hb d_Ker_show_94 (by decide) ?_
          refine kg_cV (As := [.int (f_Env_fact y1 y2 γ), .int 0]) (rest := []) h (k_Pri_print (l := l) (g := g) (α := γ) hfl N (f_Env_fact y1 y2 γ) 0) S hlocks hno E hI kw_Ker_305 ⟨Nat.le_of_ble_eq_true rfl, Nat.le_of_ble_eq_true rfl⟩ (kv_Pri E hI.1) rfl hl.1 rfl (Nat.le_of_ble_eq_true rfl) d_Ker_show_95 (fun α7 ad H locs cells slots e8 h hRm hI => ?_)
          refine lv_aload_n hx hb d_Ker_show_98 rfl (lv_at hl 0 rfl) ?_
          refine kf_Ker_shown S E hI.1 vt_11 d_Ker_show_99 ?_
          refine kg_p (As := []) (rest := []) (k_Row_size (l := l) (g := g) (α := α7) (r := 1) (by decide)) S E hI.1 kw_Ker_104 ⟨Nat.le_of_ble_eq_true rfl, Nat.le_of_ble_eq_true rfl⟩ hI.room (kv_Row (r := 1) (by decide) E hI.1) rfl hl.1 rfl (Nat.le_of_ble_eq_true rfl) d_Ker_show_102 rfl ?_
          exact kc_iret (w := (fR_size α7 1)) hx hb hr rfl hlocks E hI h d_Ker_show_105
        · replace h := Eq.trans (if_pos c6).symm h
          refine lv_aload_n hx hb d_Ker_show_70 rfl (lv_at hl 0 rfl) ?_
          refine kf_Ker_printer S E hI.1 vt_80 d_Ker_show_71 ?_
          refine lv_iload_n hx hb d_Ker_show_74 rfl (lv_at hl 1 rfl) ?_
          refine kg_cV (As := [.int y1]) (rest := []) h (k_Pri_printName (l := l) (g := g) (α := γ) hfl N y1) S hlocks hno E hI kw_Ker_343 ⟨Nat.le_of_ble_eq_true rfl, Nat.le_of_ble_eq_true rfl⟩ (kv_Pri E hI.1) rfl hl.1 rfl (Nat.le_of_ble_eq_true rfl) d_Ker_show_75 (fun α9 ad H locs cells slots e10 h hRm hI => ?_)
          refine lv_goto (tgt := 98) hx hb d_Ker_show_78 (by decide) ?_
          refine lv_aload_n hx hb d_Ker_show_98 rfl (lv_at hl 0 rfl) ?_
          refine kf_Ker_shown S E hI.1 vt_11 d_Ker_show_99 ?_
          refine kg_p (As := []) (rest := []) (k_Row_size (l := l) (g := g) (α := α9) (r := 1) (by decide)) S E hI.1 kw_Ker_104 ⟨Nat.le_of_ble_eq_true rfl, Nat.le_of_ble_eq_true rfl⟩ hI.room (kv_Row (r := 1) (by decide) E hI.1) rfl hl.1 rfl (Nat.le_of_ble_eq_true rfl) d_Ker_show_102 rfl ?_
          exact kc_iret (w := (fR_size α9 1)) hx hb hr rfl hlocks E hI h d_Ker_show_105
      · replace h := Eq.trans (if_neg c5).symm h
        cases h
  refine lv_iload_n hx hb d_Ker_show_0 rfl (lv_at hl 1 rfl) ?_
  refine lv_if_lt (tgt := 15) hx hb d_Ker_show_1 (by decide) (fun c1 => ?_) (fun c1 => ?_)
  · replace h := Eq.trans (if_pos c1).symm h
    cases h
  · replace h := Eq.trans (if_neg c1).symm h
    refine lv_iload_n hx hb d_Ker_show_4 rfl (lv_at hl 1 rfl) ?_
    refine lv_aload_n hx hb d_Ker_show_5 rfl (lv_at hl 0 rfl) ?_
    refine kf_Ker_environment S E hI.1 vt_31 d_Ker_show_6 ?_
    refine kg_p (As := []) (rest := [.int a1]) (k_Env_length (l := l) (g := g) (α := α) ) S E hI.1 kw_Ker_133 ⟨Nat.le_of_ble_eq_true rfl, Nat.le_of_ble_eq_true rfl⟩ hI.room (kv_Env E hI.1) rfl hl.1 rfl (Nat.le_of_ble_eq_true rfl) d_Ker_show_9 rfl ?_
    refine lv_icmp_lt (tgt := 23) hx hb d_Ker_show_12 (by decide) (fun c2 => ?_) (fun c2 => ?_)
    · replace h := Eq.trans (if_pos c2).symm h
      refine lv_iload_n hx hb d_Ker_show_23 rfl (lv_at hl 2 rfl) ?_
      refine lv_iconst (v := 2) hx hb d_Ker_show_24 (by decide) ?_
      refine lv_icmp_ne (tgt := 49) hx hb d_Ker_show_25 (by decide) (fun c3 => ?_) (fun c3 => ?_)
      · replace h := Eq.trans (if_neg c3).symm h
        exact J49 a1 a2 _ _ _ _ _ _ _ h hI (lv_sub hl [0, 1, 2] rfl)
      · replace h := Eq.trans (if_pos c3).symm h
        refine lv_aload_n hx hb d_Ker_show_28 rfl (lv_at hl 0 rfl) ?_
        refine kf_Ker_environment S E hI.1 vt_31 d_Ker_show_29 ?_
        refine lv_iload_n hx hb d_Ker_show_32 rfl (lv_at hl 1 rfl) ?_
        refine lv_iconst (v := 2) hx hb d_Ker_show_33 (by decide) ?_
        refine kg_p (As := [.int a1, .int 2]) (rest := []) (k_Env_fact (l := l) (g := g) (α := α) a1 2) S E hI.1 kw_Ker_339 ⟨Nat.le_of_ble_eq_true rfl, Nat.le_of_ble_eq_true rfl⟩ hI.room (kv_Env E hI.1) rfl hl.1 rfl (Nat.le_of_ble_eq_true rfl) d_Ker_show_34 rfl ?_
        refine lv_iconst (v := (-1)) hx hb d_Ker_show_37 (by decide) ?_
        refine lv_icmp_ne (tgt := 49) hx hb d_Ker_show_38 (by decide) (fun c11 => ?_) (fun c11 => ?_)
        · replace h := Eq.trans (if_neg c11).symm h
          exact J49 a1 a2 _ _ _ _ _ _ _ h hI (lv_sub hl [0, 1, 2] rfl)
        · replace h := Eq.trans (if_pos c11).symm h
          cases h
    · replace h := Eq.trans (if_neg c2).symm h
      cases h
theorem kw_Ker_346 : kWv "FamilyKernel" 346 "FamilyKernel$Environment" y_Env_allows b_Env_allows 3 (some .boolean) 2 := ⟨vt_1250, vt_941, vt_942, vt_26, vt_943, by decide, by decide, by decide +kernel⟩
def f_Ker_showRec_j33 (N : Nat)  (y1 : Int32) (y2 : Int32) (t0 : Int32) (γ : kS) : Option (kO × kS) := if t0 = 0 then (none) else (if y2 < 0 then (none) else (if 100 < y2 then (none) else (if (f_Env_allows y1 y2 γ) = 0 then (none) else (kBv (f_Pri_print N (f_Env_fact y1 10 γ) y2 γ) fun α6 => (some (some (some (fR_size α6 1)), α6))))))
def f_Ker_showRec_j32 (N : Nat)  (y1 : Int32) (y2 : Int32) (γ : kS) : Option (kO × kS) := f_Ker_showRec_j33 N y1 y2 0 γ
def f_Ker_showRec (N : Nat) (a1 : Int32) (a2 : Int32) (α : kS) : Option (kO × kS) := if a1 < 0 then (f_Ker_showRec_j32 N a1 a2 α) else (if (f_Env_length α) ≤ a1 then (f_Ker_showRec_j32 N a1 a2 α) else (if (f_Env_fact a1 0 α) = 3 then (f_Ker_showRec_j33 N a1 a2 1 α) else (f_Ker_showRec_j32 N a1 a2 α)))
set_option maxHeartbeats 4000000 in
set_option maxRecDepth 100000 in
theorem k_Ker_showRec {l : Launch} {g : kG} {α : kS} (hfl : kFl l) (N : Nat) (a1 : Int32) (a2 : Int32)  : ∀ x, f_Ker_showRec N a1 a2 α = some x → kC l g y_Ker_showRec b_Ker_showRec 4 (some .int) 35 1022 [.ref (kad g 0), .int a1, .int a2] α (kQr x) := by
  intro x h
  unfold f_Ker_showRec at h
  refine kc_ofW (by decide) (fun A ad0 p e s m args below meth c S hr hlocks hno hadm hargs E hI => ?_)
  have htr : e.platform.stackTraces = false := Launch.traces_off hfl hadm
  have hx := S.1
  have hb := S.2.1
  have hown := S.2.2.2.1
  have hT := S.2.2.2.2
  subst hargs
  have hl := lv_entry ([.ref (kad g 0), .int a1, .int a2]) (n := 4) (Nat.le_of_ble_eq_true rfl)
  rw [lg_entry_eq]
  generalize (lg_sl ([.ref (kad g 0), .int a1, .int a2]) ++ List.replicate (4 - (lg_sl ([.ref (kad g 0), .int a1, .int a2])).length) Slot.unset).toArray = ls at hl ⊢
  have hl : lv_has ls 4 [(0, .ref (kad g 0)), (1, .int a1), (2, .int a2)] := hl
  have J33 : ∀ (y1 : Int32) (y2 : Int32) (t0 : Int32) (γ : kS) (ad : Nat → Nat) (H : Heap) (locs : List Loc) (cells slots : Nat) (ls : Array Slot), f_Ker_showRec_j33 N y1 y2 t0 γ = some x → kI g A s α ad0 γ ad H locs cells slots → lv_has ls 4 [(0, .ref (kad g 0)), (1, .int y1), (2, .int y2)] → W p l e (kR 35 1022 α) s m ([.ref (kad g 0), .int a1, .int a2]).toArray below meth c H locs cells slots (vEQ below (kQ g A α ad0 (kQr x)) ([.ref (kad g 0), .int a1, .int a2]).toArray s A) (F0 m 33 ls [.int t0]) := by
    intro y1 y2 t0 γ ad H locs cells slots ls h hI hl
    unfold f_Ker_showRec_j33 at h
    refine lv_istore_n (lv' := [(3, .int t0), (0, .ref (kad g 0)), (1, .int y1), (2, .int y2)]) hx hb d_Ker_showRec_33 rfl hl (by decide) rfl (fun ls hl => ?_)
    refine lv_iload_n hx hb d_Ker_showRec_34 rfl (lv_at hl 0 rfl) ?_
    refine lv_if_eq (tgt := 60) hx hb d_Ker_showRec_35 (by decide) (fun c2 => ?_) (fun c2 => ?_)
    · replace h := Eq.trans (if_pos c2).symm h
      cases h
    · replace h := Eq.trans (if_neg c2).symm h
      refine lv_iload_n hx hb d_Ker_showRec_38 rfl (lv_at hl 3 rfl) ?_
      refine lv_if_lt (tgt := 60) hx hb d_Ker_showRec_39 (by decide) (fun c3 => ?_) (fun c3 => ?_)
      · replace h := Eq.trans (if_pos c3).symm h
        cases h
      · replace h := Eq.trans (if_neg c3).symm h
        refine lv_iload_n hx hb d_Ker_showRec_42 rfl (lv_at hl 3 rfl) ?_
        refine lv_bipush (v := 100) hx hb d_Ker_showRec_43 (by decide) ?_
        refine lv_icmp_gt (tgt := 60) hx hb d_Ker_showRec_45 (by decide) (fun c4 => ?_) (fun c4 => ?_)
        · replace h := Eq.trans (if_pos c4).symm h
          cases h
        · replace h := Eq.trans (if_neg c4).symm h
          refine lv_aload_n hx hb d_Ker_showRec_48 rfl (lv_at hl 1 rfl) ?_
          refine kf_Ker_environment S E hI.1 vt_31 d_Ker_showRec_49 ?_
          refine lv_iload_n hx hb d_Ker_showRec_52 rfl (lv_at hl 2 rfl) ?_
          refine lv_iload_n hx hb d_Ker_showRec_53 rfl (lv_at hl 3 rfl) ?_
          refine kg_p (As := [.int y1, .int y2]) (rest := []) (k_Env_allows (l := l) (g := g) (α := γ) y1 y2) S E hI.1 kw_Ker_346 ⟨Nat.le_of_ble_eq_true rfl, Nat.le_of_ble_eq_true rfl⟩ hI.room (kv_Env E hI.1) rfl hl.1 rfl (Nat.le_of_ble_eq_true rfl) d_Ker_showRec_54 rfl ?_
          refine lv_if_ne (tgt := 68) hx hb d_Ker_showRec_57 (by decide) (fun c5 => ?_) (fun c5 => ?_)
          · replace h := Eq.trans (if_neg c5).symm h
            refine lv_aload_n hx hb d_Ker_showRec_68 rfl (lv_at hl 1 rfl) ?_
            refine kf_Ker_printer S E hI.1 vt_80 d_Ker_showRec_69 ?_
            refine lv_aload_n hx hb d_Ker_showRec_72 rfl (lv_at hl 1 rfl) ?_
            refine kf_Ker_environment S E hI.1 vt_31 d_Ker_showRec_73 ?_
            refine lv_iload_n hx hb d_Ker_showRec_76 rfl (lv_at hl 2 rfl) ?_
            refine lv_bipush (v := 10) hx hb d_Ker_showRec_77 (by decide) ?_
            refine kg_p (As := [.int y1, .int 10]) (rest := [.ref (kad g 10)]) (k_Env_fact (l := l) (g := g) (α := γ) y1 10) S E hI.1 kw_Ker_339 ⟨Nat.le_of_ble_eq_true rfl, Nat.le_of_ble_eq_true rfl⟩ hI.room (kv_Env E hI.1) rfl hl.1 rfl (Nat.le_of_ble_eq_true rfl) d_Ker_showRec_79 rfl ?_
            refine lv_iload_n hx hb d_Ker_showRec_82 rfl (lv_at hl 3 rfl) ?_
            refine kg_cV (As := [.int (f_Env_fact y1 10 γ), .int y2]) (rest := []) h (k_Pri_print (l := l) (g := g) (α := γ) hfl N (f_Env_fact y1 10 γ) y2) S hlocks hno E hI kw_Ker_305 ⟨Nat.le_of_ble_eq_true rfl, Nat.le_of_ble_eq_true rfl⟩ (kv_Pri E hI.1) rfl hl.1 rfl (Nat.le_of_ble_eq_true rfl) d_Ker_showRec_83 (fun α6 ad H locs cells slots e7 h hRm hI => ?_)
            refine lv_aload_n hx hb d_Ker_showRec_86 rfl (lv_at hl 1 rfl) ?_
            refine kf_Ker_shown S E hI.1 vt_11 d_Ker_showRec_87 ?_
            refine kg_p (As := []) (rest := []) (k_Row_size (l := l) (g := g) (α := α6) (r := 1) (by decide)) S E hI.1 kw_Ker_104 ⟨Nat.le_of_ble_eq_true rfl, Nat.le_of_ble_eq_true rfl⟩ hI.room (kv_Row (r := 1) (by decide) E hI.1) rfl hl.1 rfl (Nat.le_of_ble_eq_true rfl) d_Ker_showRec_90 rfl ?_
            exact kc_iret (w := (fR_size α6 1)) hx hb hr rfl hlocks E hI h d_Ker_showRec_93
          · replace h := Eq.trans (if_pos c5).symm h
            cases h
  have J32 : ∀ (y1 : Int32) (y2 : Int32) (γ : kS) (ad : Nat → Nat) (H : Heap) (locs : List Loc) (cells slots : Nat) (ls : Array Slot), f_Ker_showRec_j32 N y1 y2 γ = some x → kI g A s α ad0 γ ad H locs cells slots → lv_has ls 4 [(0, .ref (kad g 0)), (1, .int y1), (2, .int y2)] → W p l e (kR 35 1022 α) s m ([.ref (kad g 0), .int a1, .int a2]).toArray below meth c H locs cells slots (vEQ below (kQ g A α ad0 (kQr x)) ([.ref (kad g 0), .int a1, .int a2]).toArray s A) (F0 m 32 ls []) := by
    intro y1 y2 γ ad H locs cells slots ls h hI hl
    unfold f_Ker_showRec_j32 at h
    refine lv_iconst (v := 0) hx hb d_Ker_showRec_32 (by decide) ?_
    exact J33 y1 y2 0 _ _ _ _ _ _ _ h hI (lv_sub hl [0, 1, 2] rfl)
  refine lv_iload_n hx hb d_Ker_showRec_0 rfl (lv_at hl 1 rfl) ?_
  refine lv_if_lt (tgt := 32) hx hb d_Ker_showRec_1 (by decide) (fun c1 => ?_) (fun c1 => ?_)
  · replace h := Eq.trans (if_pos c1).symm h
    exact J32 a1 a2 _ _ _ _ _ _ _ h hI (lv_sub hl [0, 1, 2] rfl)
  · replace h := Eq.trans (if_neg c1).symm h
    refine lv_iload_n hx hb d_Ker_showRec_4 rfl (lv_at hl 1 rfl) ?_
    refine lv_aload_n hx hb d_Ker_showRec_5 rfl (lv_at hl 0 rfl) ?_
    refine kf_Ker_environment S E hI.1 vt_31 d_Ker_showRec_6 ?_
    refine kg_p (As := []) (rest := [.int a1]) (k_Env_length (l := l) (g := g) (α := α) ) S E hI.1 kw_Ker_133 ⟨Nat.le_of_ble_eq_true rfl, Nat.le_of_ble_eq_true rfl⟩ hI.room (kv_Env E hI.1) rfl hl.1 rfl (Nat.le_of_ble_eq_true rfl) d_Ker_showRec_9 rfl ?_
    refine lv_icmp_ge (tgt := 32) hx hb d_Ker_showRec_12 (by decide) (fun c8 => ?_) (fun c8 => ?_)
    · replace h := Eq.trans (if_pos c8).symm h
      exact J32 a1 a2 _ _ _ _ _ _ _ h hI (lv_sub hl [0, 1, 2] rfl)
    · replace h := Eq.trans (if_neg c8).symm h
      refine lv_aload_n hx hb d_Ker_showRec_15 rfl (lv_at hl 0 rfl) ?_
      refine kf_Ker_environment S E hI.1 vt_31 d_Ker_showRec_16 ?_
      refine lv_iload_n hx hb d_Ker_showRec_19 rfl (lv_at hl 1 rfl) ?_
      refine lv_iconst (v := 0) hx hb d_Ker_showRec_20 (by decide) ?_
      refine kg_p (As := [.int a1, .int 0]) (rest := []) (k_Env_fact (l := l) (g := g) (α := α) a1 0) S E hI.1 kw_Ker_339 ⟨Nat.le_of_ble_eq_true rfl, Nat.le_of_ble_eq_true rfl⟩ hI.room (kv_Env E hI.1) rfl hl.1 rfl (Nat.le_of_ble_eq_true rfl) d_Ker_showRec_21 rfl ?_
      refine lv_iconst (v := 3) hx hb d_Ker_showRec_24 (by decide) ?_
      refine lv_icmp_ne (tgt := 32) hx hb d_Ker_showRec_25 (by decide) (fun c9 => ?_) (fun c9 => ?_)
      · replace h := Eq.trans (if_neg c9).symm h
        exact J32 a1 a2 _ _ _ _ _ _ _ h hI (lv_sub hl [0, 1, 2] rfl)
      · replace h := Eq.trans (if_pos c9).symm h
        refine lv_iconst (v := 1) hx hb d_Ker_showRec_28 (by decide) ?_
        refine lv_goto (tgt := 33) hx hb d_Ker_showRec_29 (by decide) ?_
        exact J33 a1 a2 1 _ _ _ _ _ _ _ h hI (lv_sub hl [0, 1, 2] rfl)
theorem kw_Ker_353 : kWv "FamilyKernel" 353 "FamilyKernel$Row" y_Row_at b_Row_at 2 (some .int) 1 := ⟨vt_1262, vt_266, vt_267, vt_4, vt_268, by decide, by decide, by decide +kernel⟩
def f_Ker_out (N : Nat) (a1 : Int32) (α : kS) : Option (kO × kS) := if a1 < 0 then (none) else (if a1 < (fR_size α 1) then (some (some (some (fR_at α 1 a1)), α)) else (none))
set_option maxHeartbeats 4000000 in
set_option maxRecDepth 100000 in
theorem k_Ker_out {l : Launch} {g : kG} {α : kS} (hfl : kFl l) (N : Nat) (a1 : Int32)  : ∀ x, f_Ker_out N a1 α = some x → kC l g y_Ker_out b_Ker_out 2 (some .int) 11 321 [.ref (kad g 0), .int a1] α (kQr x) := by
  intro x h
  unfold f_Ker_out at h
  refine kc_ofW (by decide) (fun A ad0 p e s m args below meth c S hr hlocks hno hadm hargs E hI => ?_)
  have htr : e.platform.stackTraces = false := Launch.traces_off hfl hadm
  have hx := S.1
  have hb := S.2.1
  have hown := S.2.2.2.1
  have hT := S.2.2.2.2
  subst hargs
  have hl := lv_entry ([.ref (kad g 0), .int a1]) (n := 2) (Nat.le_of_ble_eq_true rfl)
  rw [lg_entry_eq]
  generalize (lg_sl ([.ref (kad g 0), .int a1]) ++ List.replicate (2 - (lg_sl ([.ref (kad g 0), .int a1])).length) Slot.unset).toArray = ls at hl ⊢
  have hl : lv_has ls 2 [(0, .ref (kad g 0)), (1, .int a1)] := hl
  refine lv_iload_n hx hb d_Ker_out_0 rfl (lv_at hl 1 rfl) ?_
  refine lv_if_lt (tgt := 15) hx hb d_Ker_out_1 (by decide) (fun c1 => ?_) (fun c1 => ?_)
  · replace h := Eq.trans (if_pos c1).symm h
    cases h
  · replace h := Eq.trans (if_neg c1).symm h
    refine lv_iload_n hx hb d_Ker_out_4 rfl (lv_at hl 1 rfl) ?_
    refine lv_aload_n hx hb d_Ker_out_5 rfl (lv_at hl 0 rfl) ?_
    refine kf_Ker_shown S E hI.1 vt_11 d_Ker_out_6 ?_
    refine kg_p (As := []) (rest := [.int a1]) (k_Row_size (l := l) (g := g) (α := α) (r := 1) (by decide)) S E hI.1 kw_Ker_104 ⟨Nat.le_of_ble_eq_true rfl, Nat.le_of_ble_eq_true rfl⟩ hI.room (kv_Row (r := 1) (by decide) E hI.1) rfl hl.1 rfl (Nat.le_of_ble_eq_true rfl) d_Ker_out_9 rfl ?_
    refine lv_icmp_lt (tgt := 23) hx hb d_Ker_out_12 (by decide) (fun c2 => ?_) (fun c2 => ?_)
    · replace h := Eq.trans (if_pos c2).symm h
      refine lv_aload_n hx hb d_Ker_out_23 rfl (lv_at hl 0 rfl) ?_
      refine kf_Ker_shown S E hI.1 vt_11 d_Ker_out_24 ?_
      refine lv_iload_n hx hb d_Ker_out_27 rfl (lv_at hl 1 rfl) ?_
      refine kg_p (As := [.int a1]) (rest := []) (k_Row_at (l := l) (g := g) (α := α) (r := 1) (by decide) a1) S E hI.1 kw_Ker_353 ⟨Nat.le_of_ble_eq_true rfl, Nat.le_of_ble_eq_true rfl⟩ hI.room (kv_Row (r := 1) (by decide) E hI.1) rfl hl.1 rfl (Nat.le_of_ble_eq_true rfl) d_Ker_out_28 rfl ?_
      exact kc_iret (w := (fR_at α 1 a1)) hx hb hr rfl hlocks E hI h d_Ker_out_31
    · replace h := Eq.trans (if_neg c2).symm h
      cases h
def f_Ker_count (a1 : Int32) (α : kS) : Int32 := if a1 = 0 then ((f_Env_length α)) else (if a1 = 1 then ((α.1 0)) else (if a1 = 2 then ((α.1 1)) else (if a1 = 3 then ((f_Env_sizes α)) else (if a1 = 4 then ((fR_size α 0)) else (if a1 = 5 then ((fR_size α 1)) else ((-1)))))))
set_option maxHeartbeats 4000000 in
set_option maxRecDepth 100000 in
theorem k_Ker_count {l : Launch} {g : kG} {α : kS} (a1 : Int32)  : kV l g y_Ker_count b_Ker_count 2 (some .int) 12 340 [.ref (kad g 0), .int a1] α (f_Ker_count a1 α) := by
  generalize h : f_Ker_count a1 α = x
  unfold f_Ker_count at h
  refine kv_ofW (by decide) (fun A ad p e s m args below meth c S hr hlocks hargs E hJ => ?_)
  have hx := S.1
  have hb := S.2.1
  have hown := S.2.2.2.1
  have hT := S.2.2.2.2
  subst hargs
  have hl := lv_entry ([.ref (kad g 0), .int a1]) (n := 2) (Nat.le_of_ble_eq_true rfl)
  rw [lg_entry_eq]
  generalize (lg_sl ([.ref (kad g 0), .int a1]) ++ List.replicate (2 - (lg_sl ([.ref (kad g 0), .int a1])).length) Slot.unset).toArray = ls at hl ⊢
  have hl : lv_has ls 2 [(0, .ref (kad g 0)), (1, .int a1)] := hl
  refine lv_iload_n hx hb d_Ker_count_0 rfl (lv_at hl 1 rfl) ?_
  by_cases c1 : a1 = 0
  · replace h := Eq.trans (if_pos c1).symm h
    refine lv_tableIn (off := 39) (tgt := 40) hx hb d_Ker_count_1 (by rw [c1]; decide) (by rw [c1]; decide) (by rw [c1]; rfl) (by decide) ?_
    refine lv_aload_n hx hb d_Ker_count_40 rfl (lv_at hl 0 rfl) ?_
    refine kf_Ker_environment S E hJ vt_31 d_Ker_count_41 ?_
    refine kg_p (As := []) (rest := []) (k_Env_length (l := l) (g := g) (α := α) ) S E hJ kw_Ker_133 ⟨Nat.le_of_ble_eq_true rfl, Nat.le_of_ble_eq_true rfl⟩ ⟨Nat.le_refl _, Nat.le_refl _⟩ (kv_Env E hJ) rfl hl.1 rfl (Nat.le_of_ble_eq_true rfl) d_Ker_count_44 rfl ?_
    exact kv_iret (w := (f_Env_length α)) hx hb hr rfl hlocks h d_Ker_count_47
  · replace h := Eq.trans (if_neg c1).symm h
    have nc1 := ksw (z := 0) rfl c1
    by_cases c2 : a1 = 1
    · replace h := Eq.trans (if_pos c2).symm h
      refine lv_tableIn (off := 47) (tgt := 48) hx hb d_Ker_count_1 (by rw [c2]; decide) (by rw [c2]; decide) (by rw [c2]; rfl) (by decide) ?_
      refine lv_aload_n hx hb d_Ker_count_48 rfl (lv_at hl 0 rfl) ?_
      refine kf_Ker_declared S E hJ vt_225 d_Ker_count_49 ?_
      exact kv_iret (w := (α.1 0)) hx hb hr rfl hlocks h d_Ker_count_52
    · replace h := Eq.trans (if_neg c2).symm h
      have nc2 := ksw (z := 1) rfl c2
      by_cases c3 : a1 = 2
      · replace h := Eq.trans (if_pos c3).symm h
        refine lv_tableIn (off := 52) (tgt := 53) hx hb d_Ker_count_1 (by rw [c3]; decide) (by rw [c3]; decide) (by rw [c3]; rfl) (by decide) ?_
        refine lv_aload_n hx hb d_Ker_count_53 rfl (lv_at hl 0 rfl) ?_
        refine kf_Ker_latestWork S E hJ vt_230 d_Ker_count_54 ?_
        exact kv_iret (w := (α.1 1)) hx hb hr rfl hlocks h d_Ker_count_57
      · replace h := Eq.trans (if_neg c3).symm h
        have nc3 := ksw (z := 2) rfl c3
        by_cases c4 : a1 = 3
        · replace h := Eq.trans (if_pos c4).symm h
          refine lv_tableIn (off := 57) (tgt := 58) hx hb d_Ker_count_1 (by rw [c4]; decide) (by rw [c4]; decide) (by rw [c4]; rfl) (by decide) ?_
          refine lv_aload_n hx hb d_Ker_count_58 rfl (lv_at hl 0 rfl) ?_
          refine kf_Ker_environment S E hJ vt_31 d_Ker_count_59 ?_
          refine kg_p (As := []) (rest := []) (k_Env_sizes (l := l) (g := g) (α := α) ) S E hJ kw_Ker_315 ⟨Nat.le_of_ble_eq_true rfl, Nat.le_of_ble_eq_true rfl⟩ ⟨Nat.le_refl _, Nat.le_refl _⟩ (kv_Env E hJ) rfl hl.1 rfl (Nat.le_of_ble_eq_true rfl) d_Ker_count_62 rfl ?_
          exact kv_iret (w := (f_Env_sizes α)) hx hb hr rfl hlocks h d_Ker_count_65
        · replace h := Eq.trans (if_neg c4).symm h
          have nc4 := ksw (z := 3) rfl c4
          by_cases c5 : a1 = 4
          · replace h := Eq.trans (if_pos c5).symm h
            refine lv_tableIn (off := 65) (tgt := 66) hx hb d_Ker_count_1 (by rw [c5]; decide) (by rw [c5]; decide) (by rw [c5]; rfl) (by decide) ?_
            refine lv_aload_n hx hb d_Ker_count_66 rfl (lv_at hl 0 rfl) ?_
            refine kf_Ker_tape S E hJ vt_10 d_Ker_count_67 ?_
            refine kg_p (As := []) (rest := []) (k_Row_size (l := l) (g := g) (α := α) (r := 0) (by decide)) S E hJ kw_Ker_104 ⟨Nat.le_of_ble_eq_true rfl, Nat.le_of_ble_eq_true rfl⟩ ⟨Nat.le_refl _, Nat.le_refl _⟩ (kv_Row (r := 0) (by decide) E hJ) rfl hl.1 rfl (Nat.le_of_ble_eq_true rfl) d_Ker_count_70 rfl ?_
            exact kv_iret (w := (fR_size α 0)) hx hb hr rfl hlocks h d_Ker_count_73
          · replace h := Eq.trans (if_neg c5).symm h
            have nc5 := ksw (z := 4) rfl c5
            by_cases c6 : a1 = 5
            · replace h := Eq.trans (if_pos c6).symm h
              refine lv_tableIn (off := 73) (tgt := 74) hx hb d_Ker_count_1 (by rw [c6]; decide) (by rw [c6]; decide) (by rw [c6]; rfl) (by decide) ?_
              refine lv_aload_n hx hb d_Ker_count_74 rfl (lv_at hl 0 rfl) ?_
              refine kf_Ker_shown S E hJ vt_11 d_Ker_count_75 ?_
              refine kg_p (As := []) (rest := []) (k_Row_size (l := l) (g := g) (α := α) (r := 1) (by decide)) S E hJ kw_Ker_104 ⟨Nat.le_of_ble_eq_true rfl, Nat.le_of_ble_eq_true rfl⟩ ⟨Nat.le_refl _, Nat.le_refl _⟩ (kv_Row (r := 1) (by decide) E hJ) rfl hl.1 rfl (Nat.le_of_ble_eq_true rfl) d_Ker_count_78 rfl ?_
              exact kv_iret (w := (fR_size α 1)) hx hb hr rfl hlocks h d_Ker_count_81
            · replace h := Eq.trans (if_neg c6).symm h
              have nc6 := ksw (z := 5) rfl c6
              refine lv_tableOut (tgt := 82) hx hb d_Ker_count_1 (by omega) (by decide) ?_
              refine lv_iconst (v := (-1)) hx hb d_Ker_count_82 (by decide) ?_
              exact kv_iret (w := (-1)) hx hb hr rfl hlocks h d_Ker_count_83
set_option maxRecDepth 100000 in
theorem atx_Ker_120 : (Bundle.ownAtoms0 "FamilyKernel" 120 "java/lang/IllegalArgumentException" vx_names).all (fun a => decide (a ∈ vT) || decide (a ∈ [Cond.castable "java/lang/IllegalArgumentException" "java/lang/IllegalArgumentException", vx_l1, vx_l2, vx_r1, vx_r2, vx_d1, vx_d2, vx_d3])) = true := by decide +kernel
/-- which exception it throws, if one -/
def fx_Ker_end (a1 : Int32) (α : kS) : Int32 := if a1 < 0 then (2) else (if a1 ≤ (fR_size α 0) then (0) else (2))
set_option maxHeartbeats 4000000 in
set_option maxRecDepth 100000 in
theorem kt_Ker_end_2 {l : Launch} {g : kG} {α : kS} (hfl : kFl l) (a1 : Int32) (h : fx_Ker_end a1 α = 2) (A : Nat → Prop) (ad : Nat → Nat) : vx_MetT l y_Ker_end (Cond.code y_Ker_end b_Ker_end 2 (some .int) :: vT) { frames := 11, cells := 1, slots := 6, locals := 321 } (fun a U => va_Pc [.ref (kad g 0), .int a1] (kB g A α ad) a U ∧ vx_X "java/lang/IllegalArgumentException" U) "java/lang/IllegalArgumentException" 1 6 := by
  unfold fx_Ker_end at h
  refine vx_ofW (cc := b_Ker_end) (maxL := 2) (ret := (some .int)) (by decide) rfl ?_
  intro p e s m args below meth c s₁ B hml hv
  obtain ⟨⟨hargs, hHp, hOk, E⟩, hX⟩ := hv
  have S : CallFix p m c b_Ker_end 2 s args vT "FamilyKernel" := ⟨B.exec, B.bytes, hml, findClass_of_methodNamed B.named, fun w h => atoms_spec (ws := Cond.code y_Ker_end b_Ker_end 2 (some .int) :: vT) B.pre w (List.mem_cons_of_mem _ h)⟩
  have hJ : kJ g A s α ad s.heap [] := ⟨hHp, hOk, va_S.rf⟩
  have hlocks := B.notSynchronized
  have hno : c.exceptionTable.isEmpty = true := B.noHandlers (atoms_spec (ws := Cond.code y_Ker_end b_Ker_end 2 (some .int) :: vT) B.pre _ List.mem_cons_self)
  have htr : e.platform.stackTraces = false := Launch.traces_off hfl (Stand.of_body B).admits
  have hx := S.1
  have hb := S.2.1
  have hown := S.2.2.2.1
  have hT := S.2.2.2.2
  subst hargs
  have hl := lv_entry ([.ref (kad g 0), .int a1]) (n := 2) (Nat.le_of_ble_eq_true rfl)
  rw [lg_entry_eq]
  generalize (lg_sl ([.ref (kad g 0), .int a1]) ++ List.replicate (2 - (lg_sl ([.ref (kad g 0), .int a1])).length) Slot.unset).toArray = ls at hl ⊢
  have hl : lv_has ls 2 [(0, .ref (kad g 0)), (1, .int a1)] := hl
  refine lv_iload_n hx hb d_Ker_end_0 rfl (lv_at hl 1 rfl) ?_
  refine lv_if_lt (tgt := 15) hx hb d_Ker_end_1 (by decide) (fun c1 => ?_) (fun c1 => ?_)
  · replace h := Eq.trans (if_pos c1).symm h
    exact vx_throw (nL := 2) (E := "java/lang/IllegalArgumentException") (ic := 120) hx hb S.2.2.1 htr hown (by decide) (hT _ vt_1218) (hT _ vt_1219) (vx_atoms atx_Ker_120 hT hX) hno hl.1 d_Ker_end_15 d_Ker_end_18 d_Ker_end_19 d_Ker_end_22 (by decide) (by decide) (by decide) (by decide) hlocks
  · replace h := Eq.trans (if_neg c1).symm h
    refine lv_iload_n hx hb d_Ker_end_4 rfl (lv_at hl 1 rfl) ?_
    refine lv_aload_n hx hb d_Ker_end_5 rfl (lv_at hl 0 rfl) ?_
    refine kf_Ker_tape S E hJ vt_10 d_Ker_end_6 ?_
    refine kg_p (As := []) (rest := [.int a1]) (k_Row_size (l := l) (g := g) (α := α) (r := 0) (by decide)) S E hJ kw_Ker_104 ⟨Nat.le_of_ble_eq_true rfl, Nat.le_of_ble_eq_true rfl⟩ ⟨Nat.zero_le _, Nat.zero_le _⟩ (kv_Row (r := 0) (by decide) E hJ) rfl hl.1 rfl (Nat.le_of_ble_eq_true rfl) d_Ker_end_9 rfl ?_
    refine lv_icmp_le (tgt := 23) hx hb d_Ker_end_12 (by decide) (fun c2 => ?_) (fun c2 => ?_)
    · replace h := Eq.trans (if_pos c2).symm h
      refine lv_aload_n hx hb d_Ker_end_23 rfl (lv_at hl 0 rfl) ?_
      refine kf_Ker_tape S E hJ vt_10 d_Ker_end_24 ?_
      refine lv_iload_n hx hb d_Ker_end_27 rfl (lv_at hl 1 rfl) ?_
      exact absurd h (by decide)
    · replace h := Eq.trans (if_neg c2).symm h
      exact vx_throw (nL := 2) (E := "java/lang/IllegalArgumentException") (ic := 120) hx hb S.2.2.1 htr hown (by decide) (hT _ vt_1218) (hT _ vt_1219) (vx_atoms atx_Ker_120 hT hX) hno hl.1 d_Ker_end_15 d_Ker_end_18 d_Ker_end_19 d_Ker_end_22 (by decide) (by decide) (by decide) (by decide) hlocks
set_option maxRecDepth 100000 in
theorem atx_Ker_338 : (Bundle.ownAtoms0 "FamilyKernel" 338 "java/util/NoSuchElementException" vx_names).all (fun a => decide (a ∈ vT) || decide (a ∈ [Cond.castable "java/util/NoSuchElementException" "java/util/NoSuchElementException", vx_l1, vx_l2, vx_r1, vx_r2, vx_d1, vx_d2, vx_d3])) = true := by decide +kernel
/-- which exception it throws, if one -/
def fx_Ker_constant (a1 : Int32) (a2 : Int32) (α : kS) : Int32 := if a1 < 0 then (1) else (if a1 < (f_Env_length α) then (if a2 < 0 then (2) else (if a2 ≤ 7 then (if a2 = 1 then (if (f_Env_fact a1 a2 α) = (-1) then (0) else (0)) else (if a2 = 2 then (if (f_Env_fact a1 a2 α) = (-1) then (0) else (0)) else (0))) else (2))) else (1))
set_option maxHeartbeats 4000000 in
set_option maxRecDepth 100000 in
theorem kt_Ker_constant_1 {l : Launch} {g : kG} {α : kS} (hfl : kFl l) (a1 : Int32) (a2 : Int32) (h : fx_Ker_constant a1 a2 α = 1) (A : Nat → Prop) (ad : Nat → Nat) : vx_MetT l y_Ker_constant (Cond.code y_Ker_constant b_Ker_constant 4 (some .int) :: vT) { frames := 12, cells := 1, slots := 6, locals := 343 } (fun a U => va_Pc [.ref (kad g 0), .int a1, .int a2] (kB g A α ad) a U ∧ vx_X "java/util/NoSuchElementException" U) "java/util/NoSuchElementException" 1 6 := by
  unfold fx_Ker_constant at h
  refine vx_ofW (cc := b_Ker_constant) (maxL := 4) (ret := (some .int)) (by decide) rfl ?_
  intro p e s m args below meth c s₁ B hml hv
  obtain ⟨⟨hargs, hHp, hOk, E⟩, hX⟩ := hv
  have S : CallFix p m c b_Ker_constant 4 s args vT "FamilyKernel" := ⟨B.exec, B.bytes, hml, findClass_of_methodNamed B.named, fun w h => atoms_spec (ws := Cond.code y_Ker_constant b_Ker_constant 4 (some .int) :: vT) B.pre w (List.mem_cons_of_mem _ h)⟩
  have hJ : kJ g A s α ad s.heap [] := ⟨hHp, hOk, va_S.rf⟩
  have hlocks := B.notSynchronized
  have hno : c.exceptionTable.isEmpty = true := B.noHandlers (atoms_spec (ws := Cond.code y_Ker_constant b_Ker_constant 4 (some .int) :: vT) B.pre _ List.mem_cons_self)
  have htr : e.platform.stackTraces = false := Launch.traces_off hfl (Stand.of_body B).admits
  have hx := S.1
  have hb := S.2.1
  have hown := S.2.2.2.1
  have hT := S.2.2.2.2
  subst hargs
  have hl := lv_entry ([.ref (kad g 0), .int a1, .int a2]) (n := 4) (Nat.le_of_ble_eq_true rfl)
  rw [lg_entry_eq]
  generalize (lg_sl ([.ref (kad g 0), .int a1, .int a2]) ++ List.replicate (4 - (lg_sl ([.ref (kad g 0), .int a1, .int a2])).length) Slot.unset).toArray = ls at hl ⊢
  have hl : lv_has ls 4 [(0, .ref (kad g 0)), (1, .int a1), (2, .int a2)] := hl
  refine lv_iload_n hx hb d_Ker_constant_0 rfl (lv_at hl 1 rfl) ?_
  refine lv_if_lt (tgt := 15) hx hb d_Ker_constant_1 (by decide) (fun c1 => ?_) (fun c1 => ?_)
  · replace h := Eq.trans (if_pos c1).symm h
    exact vx_throw (nL := 4) (E := "java/util/NoSuchElementException") (ic := 338) hx hb S.2.2.1 htr hown (by decide) (hT _ vt_1229) (hT _ vt_1230) (vx_atoms atx_Ker_338 hT hX) hno hl.1 d_Ker_constant_15 d_Ker_constant_18 d_Ker_constant_19 d_Ker_constant_22 (by decide) (by decide) (by decide) (by decide) hlocks
  · replace h := Eq.trans (if_neg c1).symm h
    refine lv_iload_n hx hb d_Ker_constant_4 rfl (lv_at hl 1 rfl) ?_
    refine lv_aload_n hx hb d_Ker_constant_5 rfl (lv_at hl 0 rfl) ?_
    refine kf_Ker_environment S E hJ vt_31 d_Ker_constant_6 ?_
    refine kg_p (As := []) (rest := [.int a1]) (k_Env_length (l := l) (g := g) (α := α) ) S E hJ kw_Ker_133 ⟨Nat.le_of_ble_eq_true rfl, Nat.le_of_ble_eq_true rfl⟩ ⟨Nat.zero_le _, Nat.zero_le _⟩ (kv_Env E hJ) rfl hl.1 rfl (Nat.le_of_ble_eq_true rfl) d_Ker_constant_9 rfl ?_
    refine lv_icmp_lt (tgt := 23) hx hb d_Ker_constant_12 (by decide) (fun c2 => ?_) (fun c2 => ?_)
    · replace h := Eq.trans (if_pos c2).symm h
      refine lv_iload_n hx hb d_Ker_constant_23 rfl (lv_at hl 2 rfl) ?_
      refine lv_if_lt (tgt := 33) hx hb d_Ker_constant_24 (by decide) (fun c3 => ?_) (fun c3 => ?_)
      · replace h := Eq.trans (if_pos c3).symm h
        exact absurd h (by decide)
      · replace h := Eq.trans (if_neg c3).symm h
        refine lv_iload_n hx hb d_Ker_constant_27 rfl (lv_at hl 2 rfl) ?_
        refine lv_bipush (v := 7) hx hb d_Ker_constant_28 (by decide) ?_
        refine lv_icmp_le (tgt := 41) hx hb d_Ker_constant_30 (by decide) (fun c4 => ?_) (fun c4 => ?_)
        · replace h := Eq.trans (if_pos c4).symm h
          refine lv_aload_n hx hb d_Ker_constant_41 rfl (lv_at hl 0 rfl) ?_
          refine kf_Ker_environment S E hJ vt_31 d_Ker_constant_42 ?_
          refine lv_iload_n hx hb d_Ker_constant_45 rfl (lv_at hl 1 rfl) ?_
          refine lv_iload_n hx hb d_Ker_constant_46 rfl (lv_at hl 2 rfl) ?_
          refine kg_p (As := [.int a1, .int a2]) (rest := []) (k_Env_fact (l := l) (g := g) (α := α) a1 a2) S E hJ kw_Ker_339 ⟨Nat.le_of_ble_eq_true rfl, Nat.le_of_ble_eq_true rfl⟩ ⟨Nat.zero_le _, Nat.zero_le _⟩ (kv_Env E hJ) rfl hl.1 rfl (Nat.le_of_ble_eq_true rfl) d_Ker_constant_47 rfl ?_
          refine lv_istore_n (lv' := [(3, .int (f_Env_fact a1 a2 α)), (0, .ref (kad g 0)), (1, .int a1), (2, .int a2)]) hx hb d_Ker_constant_50 rfl hl (by decide) rfl (fun ls hl => ?_)
          refine lv_iload_n hx hb d_Ker_constant_51 rfl (lv_at hl 3 rfl) ?_
          refine lv_iconst (v := 1) hx hb d_Ker_constant_52 (by decide) ?_
          refine lv_icmp_eq (tgt := 61) hx hb d_Ker_constant_53 (by decide) (fun c5 => ?_) (fun c5 => ?_)
          · replace h := Eq.trans (if_pos c5).symm h
            refine lv_iload_n hx hb d_Ker_constant_61 rfl (lv_at hl 0 rfl) ?_
            refine lv_iconst (v := (-1)) hx hb d_Ker_constant_62 (by decide) ?_
            refine lv_icmp_ne (tgt := 70) hx hb d_Ker_constant_63 (by decide) (fun c6 => ?_) (fun c6 => ?_)
            · replace h := Eq.trans (if_neg c6).symm h
              refine lv_aload_n hx hb d_Ker_constant_70 rfl (lv_at hl 1 rfl) ?_
              refine kf_Ker_terms S E hJ vt_24 d_Ker_constant_71 ?_
              refine lv_iload_n hx hb d_Ker_constant_74 rfl (lv_at hl 0 rfl) ?_
              refine kg_p (As := [.int (f_Env_fact a1 a2 α)]) (rest := []) (k_Terms_size (l := l) (g := g) (α := α) (f_Env_fact a1 a2 α)) S E hJ kw_Ker_313 ⟨Nat.le_of_ble_eq_true rfl, Nat.le_of_ble_eq_true rfl⟩ ⟨Nat.zero_le _, Nat.zero_le _⟩ (kv_Terms E hJ) rfl hl.1 rfl (Nat.le_of_ble_eq_true rfl) d_Ker_constant_75 rfl ?_
              exact absurd h (by decide)
            · replace h := Eq.trans (if_pos c6).symm h
              refine lv_iconst (v := 0) hx hb d_Ker_constant_66 (by decide) ?_
              refine lv_goto (tgt := 78) hx hb d_Ker_constant_67 (by decide) ?_
              exact absurd h (by decide)
          · replace h := Eq.trans (if_neg c5).symm h
            refine lv_iload_n hx hb d_Ker_constant_56 rfl (lv_at hl 3 rfl) ?_
            refine lv_iconst (v := 2) hx hb d_Ker_constant_57 (by decide) ?_
            refine lv_icmp_ne (tgt := 79) hx hb d_Ker_constant_58 (by decide) (fun c7 => ?_) (fun c7 => ?_)
            · replace h := Eq.trans (if_neg c7).symm h
              refine lv_iload_n hx hb d_Ker_constant_79 rfl (lv_at hl 0 rfl) ?_
              exact absurd h (by decide)
            · replace h := Eq.trans (if_pos c7).symm h
              refine lv_iload_n hx hb d_Ker_constant_61 rfl (lv_at hl 0 rfl) ?_
              refine lv_iconst (v := (-1)) hx hb d_Ker_constant_62 (by decide) ?_
              refine lv_icmp_ne (tgt := 70) hx hb d_Ker_constant_63 (by decide) (fun c8 => ?_) (fun c8 => ?_)
              · replace h := Eq.trans (if_neg c8).symm h
                refine lv_aload_n hx hb d_Ker_constant_70 rfl (lv_at hl 1 rfl) ?_
                refine kf_Ker_terms S E hJ vt_24 d_Ker_constant_71 ?_
                refine lv_iload_n hx hb d_Ker_constant_74 rfl (lv_at hl 0 rfl) ?_
                refine kg_p (As := [.int (f_Env_fact a1 a2 α)]) (rest := []) (k_Terms_size (l := l) (g := g) (α := α) (f_Env_fact a1 a2 α)) S E hJ kw_Ker_313 ⟨Nat.le_of_ble_eq_true rfl, Nat.le_of_ble_eq_true rfl⟩ ⟨Nat.zero_le _, Nat.zero_le _⟩ (kv_Terms E hJ) rfl hl.1 rfl (Nat.le_of_ble_eq_true rfl) d_Ker_constant_75 rfl ?_
                exact absurd h (by decide)
              · replace h := Eq.trans (if_pos c8).symm h
                refine lv_iconst (v := 0) hx hb d_Ker_constant_66 (by decide) ?_
                refine lv_goto (tgt := 78) hx hb d_Ker_constant_67 (by decide) ?_
                exact absurd h (by decide)
        · replace h := Eq.trans (if_neg c4).symm h
          exact absurd h (by decide)
    · replace h := Eq.trans (if_neg c2).symm h
      exact vx_throw (nL := 4) (E := "java/util/NoSuchElementException") (ic := 338) hx hb S.2.2.1 htr hown (by decide) (hT _ vt_1229) (hT _ vt_1230) (vx_atoms atx_Ker_338 hT hX) hno hl.1 d_Ker_constant_15 d_Ker_constant_18 d_Ker_constant_19 d_Ker_constant_22 (by decide) (by decide) (by decide) (by decide) hlocks
set_option maxHeartbeats 4000000 in
set_option maxRecDepth 100000 in
theorem kt_Ker_constant_2 {l : Launch} {g : kG} {α : kS} (hfl : kFl l) (a1 : Int32) (a2 : Int32) (h : fx_Ker_constant a1 a2 α = 2) (A : Nat → Prop) (ad : Nat → Nat) : vx_MetT l y_Ker_constant (Cond.code y_Ker_constant b_Ker_constant 4 (some .int) :: vT) { frames := 12, cells := 1, slots := 6, locals := 343 } (fun a U => va_Pc [.ref (kad g 0), .int a1, .int a2] (kB g A α ad) a U ∧ vx_X "java/lang/IllegalArgumentException" U) "java/lang/IllegalArgumentException" 1 6 := by
  unfold fx_Ker_constant at h
  refine vx_ofW (cc := b_Ker_constant) (maxL := 4) (ret := (some .int)) (by decide) rfl ?_
  intro p e s m args below meth c s₁ B hml hv
  obtain ⟨⟨hargs, hHp, hOk, E⟩, hX⟩ := hv
  have S : CallFix p m c b_Ker_constant 4 s args vT "FamilyKernel" := ⟨B.exec, B.bytes, hml, findClass_of_methodNamed B.named, fun w h => atoms_spec (ws := Cond.code y_Ker_constant b_Ker_constant 4 (some .int) :: vT) B.pre w (List.mem_cons_of_mem _ h)⟩
  have hJ : kJ g A s α ad s.heap [] := ⟨hHp, hOk, va_S.rf⟩
  have hlocks := B.notSynchronized
  have hno : c.exceptionTable.isEmpty = true := B.noHandlers (atoms_spec (ws := Cond.code y_Ker_constant b_Ker_constant 4 (some .int) :: vT) B.pre _ List.mem_cons_self)
  have htr : e.platform.stackTraces = false := Launch.traces_off hfl (Stand.of_body B).admits
  have hx := S.1
  have hb := S.2.1
  have hown := S.2.2.2.1
  have hT := S.2.2.2.2
  subst hargs
  have hl := lv_entry ([.ref (kad g 0), .int a1, .int a2]) (n := 4) (Nat.le_of_ble_eq_true rfl)
  rw [lg_entry_eq]
  generalize (lg_sl ([.ref (kad g 0), .int a1, .int a2]) ++ List.replicate (4 - (lg_sl ([.ref (kad g 0), .int a1, .int a2])).length) Slot.unset).toArray = ls at hl ⊢
  have hl : lv_has ls 4 [(0, .ref (kad g 0)), (1, .int a1), (2, .int a2)] := hl
  refine lv_iload_n hx hb d_Ker_constant_0 rfl (lv_at hl 1 rfl) ?_
  refine lv_if_lt (tgt := 15) hx hb d_Ker_constant_1 (by decide) (fun c1 => ?_) (fun c1 => ?_)
  · replace h := Eq.trans (if_pos c1).symm h
    exact absurd h (by decide)
  · replace h := Eq.trans (if_neg c1).symm h
    refine lv_iload_n hx hb d_Ker_constant_4 rfl (lv_at hl 1 rfl) ?_
    refine lv_aload_n hx hb d_Ker_constant_5 rfl (lv_at hl 0 rfl) ?_
    refine kf_Ker_environment S E hJ vt_31 d_Ker_constant_6 ?_
    refine kg_p (As := []) (rest := [.int a1]) (k_Env_length (l := l) (g := g) (α := α) ) S E hJ kw_Ker_133 ⟨Nat.le_of_ble_eq_true rfl, Nat.le_of_ble_eq_true rfl⟩ ⟨Nat.zero_le _, Nat.zero_le _⟩ (kv_Env E hJ) rfl hl.1 rfl (Nat.le_of_ble_eq_true rfl) d_Ker_constant_9 rfl ?_
    refine lv_icmp_lt (tgt := 23) hx hb d_Ker_constant_12 (by decide) (fun c2 => ?_) (fun c2 => ?_)
    · replace h := Eq.trans (if_pos c2).symm h
      refine lv_iload_n hx hb d_Ker_constant_23 rfl (lv_at hl 2 rfl) ?_
      refine lv_if_lt (tgt := 33) hx hb d_Ker_constant_24 (by decide) (fun c3 => ?_) (fun c3 => ?_)
      · replace h := Eq.trans (if_pos c3).symm h
        exact vx_throw (nL := 4) (E := "java/lang/IllegalArgumentException") (ic := 120) hx hb S.2.2.1 htr hown (by decide) (hT _ vt_1218) (hT _ vt_1219) (vx_atoms atx_Ker_120 hT hX) hno hl.1 d_Ker_constant_33 d_Ker_constant_36 d_Ker_constant_37 d_Ker_constant_40 (by decide) (by decide) (by decide) (by decide) hlocks
      · replace h := Eq.trans (if_neg c3).symm h
        refine lv_iload_n hx hb d_Ker_constant_27 rfl (lv_at hl 2 rfl) ?_
        refine lv_bipush (v := 7) hx hb d_Ker_constant_28 (by decide) ?_
        refine lv_icmp_le (tgt := 41) hx hb d_Ker_constant_30 (by decide) (fun c4 => ?_) (fun c4 => ?_)
        · replace h := Eq.trans (if_pos c4).symm h
          refine lv_aload_n hx hb d_Ker_constant_41 rfl (lv_at hl 0 rfl) ?_
          refine kf_Ker_environment S E hJ vt_31 d_Ker_constant_42 ?_
          refine lv_iload_n hx hb d_Ker_constant_45 rfl (lv_at hl 1 rfl) ?_
          refine lv_iload_n hx hb d_Ker_constant_46 rfl (lv_at hl 2 rfl) ?_
          refine kg_p (As := [.int a1, .int a2]) (rest := []) (k_Env_fact (l := l) (g := g) (α := α) a1 a2) S E hJ kw_Ker_339 ⟨Nat.le_of_ble_eq_true rfl, Nat.le_of_ble_eq_true rfl⟩ ⟨Nat.zero_le _, Nat.zero_le _⟩ (kv_Env E hJ) rfl hl.1 rfl (Nat.le_of_ble_eq_true rfl) d_Ker_constant_47 rfl ?_
          refine lv_istore_n (lv' := [(3, .int (f_Env_fact a1 a2 α)), (0, .ref (kad g 0)), (1, .int a1), (2, .int a2)]) hx hb d_Ker_constant_50 rfl hl (by decide) rfl (fun ls hl => ?_)
          refine lv_iload_n hx hb d_Ker_constant_51 rfl (lv_at hl 3 rfl) ?_
          refine lv_iconst (v := 1) hx hb d_Ker_constant_52 (by decide) ?_
          refine lv_icmp_eq (tgt := 61) hx hb d_Ker_constant_53 (by decide) (fun c5 => ?_) (fun c5 => ?_)
          · replace h := Eq.trans (if_pos c5).symm h
            refine lv_iload_n hx hb d_Ker_constant_61 rfl (lv_at hl 0 rfl) ?_
            refine lv_iconst (v := (-1)) hx hb d_Ker_constant_62 (by decide) ?_
            refine lv_icmp_ne (tgt := 70) hx hb d_Ker_constant_63 (by decide) (fun c6 => ?_) (fun c6 => ?_)
            · replace h := Eq.trans (if_neg c6).symm h
              refine lv_aload_n hx hb d_Ker_constant_70 rfl (lv_at hl 1 rfl) ?_
              refine kf_Ker_terms S E hJ vt_24 d_Ker_constant_71 ?_
              refine lv_iload_n hx hb d_Ker_constant_74 rfl (lv_at hl 0 rfl) ?_
              refine kg_p (As := [.int (f_Env_fact a1 a2 α)]) (rest := []) (k_Terms_size (l := l) (g := g) (α := α) (f_Env_fact a1 a2 α)) S E hJ kw_Ker_313 ⟨Nat.le_of_ble_eq_true rfl, Nat.le_of_ble_eq_true rfl⟩ ⟨Nat.zero_le _, Nat.zero_le _⟩ (kv_Terms E hJ) rfl hl.1 rfl (Nat.le_of_ble_eq_true rfl) d_Ker_constant_75 rfl ?_
              exact absurd h (by decide)
            · replace h := Eq.trans (if_pos c6).symm h
              refine lv_iconst (v := 0) hx hb d_Ker_constant_66 (by decide) ?_
              refine lv_goto (tgt := 78) hx hb d_Ker_constant_67 (by decide) ?_
              exact absurd h (by decide)
          · replace h := Eq.trans (if_neg c5).symm h
            refine lv_iload_n hx hb d_Ker_constant_56 rfl (lv_at hl 3 rfl) ?_
            refine lv_iconst (v := 2) hx hb d_Ker_constant_57 (by decide) ?_
            refine lv_icmp_ne (tgt := 79) hx hb d_Ker_constant_58 (by decide) (fun c7 => ?_) (fun c7 => ?_)
            · replace h := Eq.trans (if_neg c7).symm h
              refine lv_iload_n hx hb d_Ker_constant_79 rfl (lv_at hl 0 rfl) ?_
              exact absurd h (by decide)
            · replace h := Eq.trans (if_pos c7).symm h
              refine lv_iload_n hx hb d_Ker_constant_61 rfl (lv_at hl 0 rfl) ?_
              refine lv_iconst (v := (-1)) hx hb d_Ker_constant_62 (by decide) ?_
              refine lv_icmp_ne (tgt := 70) hx hb d_Ker_constant_63 (by decide) (fun c8 => ?_) (fun c8 => ?_)
              · replace h := Eq.trans (if_neg c8).symm h
                refine lv_aload_n hx hb d_Ker_constant_70 rfl (lv_at hl 1 rfl) ?_
                refine kf_Ker_terms S E hJ vt_24 d_Ker_constant_71 ?_
                refine lv_iload_n hx hb d_Ker_constant_74 rfl (lv_at hl 0 rfl) ?_
                refine kg_p (As := [.int (f_Env_fact a1 a2 α)]) (rest := []) (k_Terms_size (l := l) (g := g) (α := α) (f_Env_fact a1 a2 α)) S E hJ kw_Ker_313 ⟨Nat.le_of_ble_eq_true rfl, Nat.le_of_ble_eq_true rfl⟩ ⟨Nat.zero_le _, Nat.zero_le _⟩ (kv_Terms E hJ) rfl hl.1 rfl (Nat.le_of_ble_eq_true rfl) d_Ker_constant_75 rfl ?_
                exact absurd h (by decide)
              · replace h := Eq.trans (if_pos c8).symm h
                refine lv_iconst (v := 0) hx hb d_Ker_constant_66 (by decide) ?_
                refine lv_goto (tgt := 78) hx hb d_Ker_constant_67 (by decide) ?_
                exact absurd h (by decide)
        · replace h := Eq.trans (if_neg c4).symm h
          exact vx_throw (nL := 4) (E := "java/lang/IllegalArgumentException") (ic := 120) hx hb S.2.2.1 htr hown (by decide) (hT _ vt_1218) (hT _ vt_1219) (vx_atoms atx_Ker_120 hT hX) hno hl.1 d_Ker_constant_33 d_Ker_constant_36 d_Ker_constant_37 d_Ker_constant_40 (by decide) (by decide) (by decide) (by decide) hlocks
    · replace h := Eq.trans (if_neg c2).symm h
      exact absurd h (by decide)
/-- which exception it throws, if one -/
def fx_Ker_show (a1 : Int32) (a2 : Int32) (α : kS) : Int32 := if a1 < 0 then (1) else (if a1 < (f_Env_length α) then (if a2 = 2 then (if (f_Env_fact a1 2 α) = (-1) then (1) else (if a2 < 0 then (2) else (if a2 ≤ 2 then (if a2 = 0 then (0) else (0)) else (2)))) else (if a2 < 0 then (2) else (if a2 ≤ 2 then (if a2 = 0 then (0) else (0)) else (2)))) else (1))
set_option maxHeartbeats 4000000 in
set_option maxRecDepth 100000 in
theorem kt_Ker_show_1 {l : Launch} {g : kG} {α : kS} (hfl : kFl l) (a1 : Int32) (a2 : Int32) (h : fx_Ker_show a1 a2 α = 1) (A : Nat → Prop) (ad : Nat → Nat) : vx_MetT l y_Ker_show (Cond.code y_Ker_show b_Ker_show 3 (some .int) :: vT) { frames := 35, cells := 1, slots := 6, locals := 1022 } (fun a U => va_Pc [.ref (kad g 0), .int a1, .int a2] (kB g A α ad) a U ∧ vx_X "java/util/NoSuchElementException" U) "java/util/NoSuchElementException" 1 6 := by
  unfold fx_Ker_show at h
  refine vx_ofW (cc := b_Ker_show) (maxL := 3) (ret := (some .int)) (by decide) rfl ?_
  intro p e s m args below meth c s₁ B hml hv
  obtain ⟨⟨hargs, hHp, hOk, E⟩, hX⟩ := hv
  have S : CallFix p m c b_Ker_show 3 s args vT "FamilyKernel" := ⟨B.exec, B.bytes, hml, findClass_of_methodNamed B.named, fun w h => atoms_spec (ws := Cond.code y_Ker_show b_Ker_show 3 (some .int) :: vT) B.pre w (List.mem_cons_of_mem _ h)⟩
  have hJ : kJ g A s α ad s.heap [] := ⟨hHp, hOk, va_S.rf⟩
  have hlocks := B.notSynchronized
  have hno : c.exceptionTable.isEmpty = true := B.noHandlers (atoms_spec (ws := Cond.code y_Ker_show b_Ker_show 3 (some .int) :: vT) B.pre _ List.mem_cons_self)
  have htr : e.platform.stackTraces = false := Launch.traces_off hfl (Stand.of_body B).admits
  have hx := S.1
  have hb := S.2.1
  have hown := S.2.2.2.1
  have hT := S.2.2.2.2
  subst hargs
  have hl := lv_entry ([.ref (kad g 0), .int a1, .int a2]) (n := 3) (Nat.le_of_ble_eq_true rfl)
  rw [lg_entry_eq]
  generalize (lg_sl ([.ref (kad g 0), .int a1, .int a2]) ++ List.replicate (3 - (lg_sl ([.ref (kad g 0), .int a1, .int a2])).length) Slot.unset).toArray = ls at hl ⊢
  have hl : lv_has ls 3 [(0, .ref (kad g 0)), (1, .int a1), (2, .int a2)] := hl
  refine lv_iload_n hx hb d_Ker_show_0 rfl (lv_at hl 1 rfl) ?_
  refine lv_if_lt (tgt := 15) hx hb d_Ker_show_1 (by decide) (fun c1 => ?_) (fun c1 => ?_)
  · replace h := Eq.trans (if_pos c1).symm h
    exact vx_throw (nL := 3) (E := "java/util/NoSuchElementException") (ic := 338) hx hb S.2.2.1 htr hown (by decide) (hT _ vt_1229) (hT _ vt_1230) (vx_atoms atx_Ker_338 hT hX) hno hl.1 d_Ker_show_15 d_Ker_show_18 d_Ker_show_19 d_Ker_show_22 (by decide) (by decide) (by decide) (by decide) hlocks
  · replace h := Eq.trans (if_neg c1).symm h
    refine lv_iload_n hx hb d_Ker_show_4 rfl (lv_at hl 1 rfl) ?_
    refine lv_aload_n hx hb d_Ker_show_5 rfl (lv_at hl 0 rfl) ?_
    refine kf_Ker_environment S E hJ vt_31 d_Ker_show_6 ?_
    refine kg_p (As := []) (rest := [.int a1]) (k_Env_length (l := l) (g := g) (α := α) ) S E hJ kw_Ker_133 ⟨Nat.le_of_ble_eq_true rfl, Nat.le_of_ble_eq_true rfl⟩ ⟨Nat.zero_le _, Nat.zero_le _⟩ (kv_Env E hJ) rfl hl.1 rfl (Nat.le_of_ble_eq_true rfl) d_Ker_show_9 rfl ?_
    refine lv_icmp_lt (tgt := 23) hx hb d_Ker_show_12 (by decide) (fun c2 => ?_) (fun c2 => ?_)
    · replace h := Eq.trans (if_pos c2).symm h
      refine lv_iload_n hx hb d_Ker_show_23 rfl (lv_at hl 2 rfl) ?_
      refine lv_iconst (v := 2) hx hb d_Ker_show_24 (by decide) ?_
      refine lv_icmp_ne (tgt := 49) hx hb d_Ker_show_25 (by decide) (fun c3 => ?_) (fun c3 => ?_)
      · replace h := Eq.trans (if_neg c3).symm h
        refine lv_iload_n hx hb d_Ker_show_49 rfl (lv_at hl 2 rfl) ?_
        refine lv_if_lt (tgt := 58) hx hb d_Ker_show_50 (by decide) (fun c4 => ?_) (fun c4 => ?_)
        · replace h := Eq.trans (if_pos c4).symm h
          exact absurd h (by decide)
        · replace h := Eq.trans (if_neg c4).symm h
          refine lv_iload_n hx hb d_Ker_show_53 rfl (lv_at hl 2 rfl) ?_
          refine lv_iconst (v := 2) hx hb d_Ker_show_54 (by decide) ?_
          refine lv_icmp_le (tgt := 66) hx hb d_Ker_show_55 (by decide) (fun c5 => ?_) (fun c5 => ?_)
          · replace h := Eq.trans (if_pos c5).symm h
            refine lv_iload_n hx hb d_Ker_show_66 rfl (lv_at hl 2 rfl) ?_
            refine lv_if_ne (tgt := 81) hx hb d_Ker_show_67 (by decide) (fun c6 => ?_) (fun c6 => ?_)
            · replace h := Eq.trans (if_neg c6).symm h
              refine lv_aload_n hx hb d_Ker_show_81 rfl (lv_at hl 0 rfl) ?_
              refine kf_Ker_printer S E hJ vt_80 d_Ker_show_82 ?_
              refine lv_aload_n hx hb d_Ker_show_85 rfl (lv_at hl 0 rfl) ?_
              refine kf_Ker_environment S E hJ vt_31 d_Ker_show_86 ?_
              refine lv_iload_n hx hb d_Ker_show_89 rfl (lv_at hl 1 rfl) ?_
              refine lv_iload_n hx hb d_Ker_show_90 rfl (lv_at hl 2 rfl) ?_
              refine kg_p (As := [.int a1, .int a2]) (rest := [.ref (kad g 10)]) (k_Env_fact (l := l) (g := g) (α := α) a1 a2) S E hJ kw_Ker_339 ⟨Nat.le_of_ble_eq_true rfl, Nat.le_of_ble_eq_true rfl⟩ ⟨Nat.zero_le _, Nat.zero_le _⟩ (kv_Env E hJ) rfl hl.1 rfl (Nat.le_of_ble_eq_true rfl) d_Ker_show_91 rfl ?_
              refine lv_iconst (v := 0) hx hb d_Ker_show_94 (by decide) ?_
              exact absurd h (by decide)
            · replace h := Eq.trans (if_pos c6).symm h
              refine lv_aload_n hx hb d_Ker_show_70 rfl (lv_at hl 0 rfl) ?_
              refine kf_Ker_printer S E hJ vt_80 d_Ker_show_71 ?_
              refine lv_iload_n hx hb d_Ker_show_74 rfl (lv_at hl 1 rfl) ?_
              exact absurd h (by decide)
          · replace h := Eq.trans (if_neg c5).symm h
            exact absurd h (by decide)
      · replace h := Eq.trans (if_pos c3).symm h
        refine lv_aload_n hx hb d_Ker_show_28 rfl (lv_at hl 0 rfl) ?_
        refine kf_Ker_environment S E hJ vt_31 d_Ker_show_29 ?_
        refine lv_iload_n hx hb d_Ker_show_32 rfl (lv_at hl 1 rfl) ?_
        refine lv_iconst (v := 2) hx hb d_Ker_show_33 (by decide) ?_
        refine kg_p (As := [.int a1, .int 2]) (rest := []) (k_Env_fact (l := l) (g := g) (α := α) a1 2) S E hJ kw_Ker_339 ⟨Nat.le_of_ble_eq_true rfl, Nat.le_of_ble_eq_true rfl⟩ ⟨Nat.zero_le _, Nat.zero_le _⟩ (kv_Env E hJ) rfl hl.1 rfl (Nat.le_of_ble_eq_true rfl) d_Ker_show_34 rfl ?_
        refine lv_iconst (v := (-1)) hx hb d_Ker_show_37 (by decide) ?_
        refine lv_icmp_ne (tgt := 49) hx hb d_Ker_show_38 (by decide) (fun c7 => ?_) (fun c7 => ?_)
        · replace h := Eq.trans (if_neg c7).symm h
          refine lv_iload_n hx hb d_Ker_show_49 rfl (lv_at hl 2 rfl) ?_
          refine lv_if_lt (tgt := 58) hx hb d_Ker_show_50 (by decide) (fun c8 => ?_) (fun c8 => ?_)
          · replace h := Eq.trans (if_pos c8).symm h
            exact absurd h (by decide)
          · replace h := Eq.trans (if_neg c8).symm h
            refine lv_iload_n hx hb d_Ker_show_53 rfl (lv_at hl 2 rfl) ?_
            refine lv_iconst (v := 2) hx hb d_Ker_show_54 (by decide) ?_
            refine lv_icmp_le (tgt := 66) hx hb d_Ker_show_55 (by decide) (fun c9 => ?_) (fun c9 => ?_)
            · replace h := Eq.trans (if_pos c9).symm h
              refine lv_iload_n hx hb d_Ker_show_66 rfl (lv_at hl 2 rfl) ?_
              refine lv_if_ne (tgt := 81) hx hb d_Ker_show_67 (by decide) (fun c10 => ?_) (fun c10 => ?_)
              · replace h := Eq.trans (if_neg c10).symm h
                refine lv_aload_n hx hb d_Ker_show_81 rfl (lv_at hl 0 rfl) ?_
                refine kf_Ker_printer S E hJ vt_80 d_Ker_show_82 ?_
                refine lv_aload_n hx hb d_Ker_show_85 rfl (lv_at hl 0 rfl) ?_
                refine kf_Ker_environment S E hJ vt_31 d_Ker_show_86 ?_
                refine lv_iload_n hx hb d_Ker_show_89 rfl (lv_at hl 1 rfl) ?_
                refine lv_iload_n hx hb d_Ker_show_90 rfl (lv_at hl 2 rfl) ?_
                refine kg_p (As := [.int a1, .int a2]) (rest := [.ref (kad g 10)]) (k_Env_fact (l := l) (g := g) (α := α) a1 a2) S E hJ kw_Ker_339 ⟨Nat.le_of_ble_eq_true rfl, Nat.le_of_ble_eq_true rfl⟩ ⟨Nat.zero_le _, Nat.zero_le _⟩ (kv_Env E hJ) rfl hl.1 rfl (Nat.le_of_ble_eq_true rfl) d_Ker_show_91 rfl ?_
                refine lv_iconst (v := 0) hx hb d_Ker_show_94 (by decide) ?_
                exact absurd h (by decide)
              · replace h := Eq.trans (if_pos c10).symm h
                refine lv_aload_n hx hb d_Ker_show_70 rfl (lv_at hl 0 rfl) ?_
                refine kf_Ker_printer S E hJ vt_80 d_Ker_show_71 ?_
                refine lv_iload_n hx hb d_Ker_show_74 rfl (lv_at hl 1 rfl) ?_
                exact absurd h (by decide)
            · replace h := Eq.trans (if_neg c9).symm h
              exact absurd h (by decide)
        · replace h := Eq.trans (if_pos c7).symm h
          exact vx_throw (nL := 3) (E := "java/util/NoSuchElementException") (ic := 338) hx hb S.2.2.1 htr hown (by decide) (hT _ vt_1229) (hT _ vt_1230) (vx_atoms atx_Ker_338 hT hX) hno hl.1 d_Ker_show_41 d_Ker_show_44 d_Ker_show_45 d_Ker_show_48 (by decide) (by decide) (by decide) (by decide) hlocks
    · replace h := Eq.trans (if_neg c2).symm h
      exact vx_throw (nL := 3) (E := "java/util/NoSuchElementException") (ic := 338) hx hb S.2.2.1 htr hown (by decide) (hT _ vt_1229) (hT _ vt_1230) (vx_atoms atx_Ker_338 hT hX) hno hl.1 d_Ker_show_15 d_Ker_show_18 d_Ker_show_19 d_Ker_show_22 (by decide) (by decide) (by decide) (by decide) hlocks
set_option maxHeartbeats 4000000 in
set_option maxRecDepth 100000 in
theorem kt_Ker_show_2 {l : Launch} {g : kG} {α : kS} (hfl : kFl l) (a1 : Int32) (a2 : Int32) (h : fx_Ker_show a1 a2 α = 2) (A : Nat → Prop) (ad : Nat → Nat) : vx_MetT l y_Ker_show (Cond.code y_Ker_show b_Ker_show 3 (some .int) :: vT) { frames := 35, cells := 1, slots := 6, locals := 1022 } (fun a U => va_Pc [.ref (kad g 0), .int a1, .int a2] (kB g A α ad) a U ∧ vx_X "java/lang/IllegalArgumentException" U) "java/lang/IllegalArgumentException" 1 6 := by
  unfold fx_Ker_show at h
  refine vx_ofW (cc := b_Ker_show) (maxL := 3) (ret := (some .int)) (by decide) rfl ?_
  intro p e s m args below meth c s₁ B hml hv
  obtain ⟨⟨hargs, hHp, hOk, E⟩, hX⟩ := hv
  have S : CallFix p m c b_Ker_show 3 s args vT "FamilyKernel" := ⟨B.exec, B.bytes, hml, findClass_of_methodNamed B.named, fun w h => atoms_spec (ws := Cond.code y_Ker_show b_Ker_show 3 (some .int) :: vT) B.pre w (List.mem_cons_of_mem _ h)⟩
  have hJ : kJ g A s α ad s.heap [] := ⟨hHp, hOk, va_S.rf⟩
  have hlocks := B.notSynchronized
  have hno : c.exceptionTable.isEmpty = true := B.noHandlers (atoms_spec (ws := Cond.code y_Ker_show b_Ker_show 3 (some .int) :: vT) B.pre _ List.mem_cons_self)
  have htr : e.platform.stackTraces = false := Launch.traces_off hfl (Stand.of_body B).admits
  have hx := S.1
  have hb := S.2.1
  have hown := S.2.2.2.1
  have hT := S.2.2.2.2
  subst hargs
  have hl := lv_entry ([.ref (kad g 0), .int a1, .int a2]) (n := 3) (Nat.le_of_ble_eq_true rfl)
  rw [lg_entry_eq]
  generalize (lg_sl ([.ref (kad g 0), .int a1, .int a2]) ++ List.replicate (3 - (lg_sl ([.ref (kad g 0), .int a1, .int a2])).length) Slot.unset).toArray = ls at hl ⊢
  have hl : lv_has ls 3 [(0, .ref (kad g 0)), (1, .int a1), (2, .int a2)] := hl
  refine lv_iload_n hx hb d_Ker_show_0 rfl (lv_at hl 1 rfl) ?_
  refine lv_if_lt (tgt := 15) hx hb d_Ker_show_1 (by decide) (fun c1 => ?_) (fun c1 => ?_)
  · replace h := Eq.trans (if_pos c1).symm h
    exact absurd h (by decide)
  · replace h := Eq.trans (if_neg c1).symm h
    refine lv_iload_n hx hb d_Ker_show_4 rfl (lv_at hl 1 rfl) ?_
    refine lv_aload_n hx hb d_Ker_show_5 rfl (lv_at hl 0 rfl) ?_
    refine kf_Ker_environment S E hJ vt_31 d_Ker_show_6 ?_
    refine kg_p (As := []) (rest := [.int a1]) (k_Env_length (l := l) (g := g) (α := α) ) S E hJ kw_Ker_133 ⟨Nat.le_of_ble_eq_true rfl, Nat.le_of_ble_eq_true rfl⟩ ⟨Nat.zero_le _, Nat.zero_le _⟩ (kv_Env E hJ) rfl hl.1 rfl (Nat.le_of_ble_eq_true rfl) d_Ker_show_9 rfl ?_
    refine lv_icmp_lt (tgt := 23) hx hb d_Ker_show_12 (by decide) (fun c2 => ?_) (fun c2 => ?_)
    · replace h := Eq.trans (if_pos c2).symm h
      refine lv_iload_n hx hb d_Ker_show_23 rfl (lv_at hl 2 rfl) ?_
      refine lv_iconst (v := 2) hx hb d_Ker_show_24 (by decide) ?_
      refine lv_icmp_ne (tgt := 49) hx hb d_Ker_show_25 (by decide) (fun c3 => ?_) (fun c3 => ?_)
      · replace h := Eq.trans (if_neg c3).symm h
        refine lv_iload_n hx hb d_Ker_show_49 rfl (lv_at hl 2 rfl) ?_
        refine lv_if_lt (tgt := 58) hx hb d_Ker_show_50 (by decide) (fun c4 => ?_) (fun c4 => ?_)
        · replace h := Eq.trans (if_pos c4).symm h
          exact vx_throw (nL := 3) (E := "java/lang/IllegalArgumentException") (ic := 120) hx hb S.2.2.1 htr hown (by decide) (hT _ vt_1218) (hT _ vt_1219) (vx_atoms atx_Ker_120 hT hX) hno hl.1 d_Ker_show_58 d_Ker_show_61 d_Ker_show_62 d_Ker_show_65 (by decide) (by decide) (by decide) (by decide) hlocks
        · replace h := Eq.trans (if_neg c4).symm h
          refine lv_iload_n hx hb d_Ker_show_53 rfl (lv_at hl 2 rfl) ?_
          refine lv_iconst (v := 2) hx hb d_Ker_show_54 (by decide) ?_
          refine lv_icmp_le (tgt := 66) hx hb d_Ker_show_55 (by decide) (fun c5 => ?_) (fun c5 => ?_)
          · replace h := Eq.trans (if_pos c5).symm h
            refine lv_iload_n hx hb d_Ker_show_66 rfl (lv_at hl 2 rfl) ?_
            refine lv_if_ne (tgt := 81) hx hb d_Ker_show_67 (by decide) (fun c6 => ?_) (fun c6 => ?_)
            · replace h := Eq.trans (if_neg c6).symm h
              refine lv_aload_n hx hb d_Ker_show_81 rfl (lv_at hl 0 rfl) ?_
              refine kf_Ker_printer S E hJ vt_80 d_Ker_show_82 ?_
              refine lv_aload_n hx hb d_Ker_show_85 rfl (lv_at hl 0 rfl) ?_
              refine kf_Ker_environment S E hJ vt_31 d_Ker_show_86 ?_
              refine lv_iload_n hx hb d_Ker_show_89 rfl (lv_at hl 1 rfl) ?_
              refine lv_iload_n hx hb d_Ker_show_90 rfl (lv_at hl 2 rfl) ?_
              refine kg_p (As := [.int a1, .int a2]) (rest := [.ref (kad g 10)]) (k_Env_fact (l := l) (g := g) (α := α) a1 a2) S E hJ kw_Ker_339 ⟨Nat.le_of_ble_eq_true rfl, Nat.le_of_ble_eq_true rfl⟩ ⟨Nat.zero_le _, Nat.zero_le _⟩ (kv_Env E hJ) rfl hl.1 rfl (Nat.le_of_ble_eq_true rfl) d_Ker_show_91 rfl ?_
              refine lv_iconst (v := 0) hx hb d_Ker_show_94 (by decide) ?_
              exact absurd h (by decide)
            · replace h := Eq.trans (if_pos c6).symm h
              refine lv_aload_n hx hb d_Ker_show_70 rfl (lv_at hl 0 rfl) ?_
              refine kf_Ker_printer S E hJ vt_80 d_Ker_show_71 ?_
              refine lv_iload_n hx hb d_Ker_show_74 rfl (lv_at hl 1 rfl) ?_
              exact absurd h (by decide)
          · replace h := Eq.trans (if_neg c5).symm h
            exact vx_throw (nL := 3) (E := "java/lang/IllegalArgumentException") (ic := 120) hx hb S.2.2.1 htr hown (by decide) (hT _ vt_1218) (hT _ vt_1219) (vx_atoms atx_Ker_120 hT hX) hno hl.1 d_Ker_show_58 d_Ker_show_61 d_Ker_show_62 d_Ker_show_65 (by decide) (by decide) (by decide) (by decide) hlocks
      · replace h := Eq.trans (if_pos c3).symm h
        refine lv_aload_n hx hb d_Ker_show_28 rfl (lv_at hl 0 rfl) ?_
        refine kf_Ker_environment S E hJ vt_31 d_Ker_show_29 ?_
        refine lv_iload_n hx hb d_Ker_show_32 rfl (lv_at hl 1 rfl) ?_
        refine lv_iconst (v := 2) hx hb d_Ker_show_33 (by decide) ?_
        refine kg_p (As := [.int a1, .int 2]) (rest := []) (k_Env_fact (l := l) (g := g) (α := α) a1 2) S E hJ kw_Ker_339 ⟨Nat.le_of_ble_eq_true rfl, Nat.le_of_ble_eq_true rfl⟩ ⟨Nat.zero_le _, Nat.zero_le _⟩ (kv_Env E hJ) rfl hl.1 rfl (Nat.le_of_ble_eq_true rfl) d_Ker_show_34 rfl ?_
        refine lv_iconst (v := (-1)) hx hb d_Ker_show_37 (by decide) ?_
        refine lv_icmp_ne (tgt := 49) hx hb d_Ker_show_38 (by decide) (fun c7 => ?_) (fun c7 => ?_)
        · replace h := Eq.trans (if_neg c7).symm h
          refine lv_iload_n hx hb d_Ker_show_49 rfl (lv_at hl 2 rfl) ?_
          refine lv_if_lt (tgt := 58) hx hb d_Ker_show_50 (by decide) (fun c8 => ?_) (fun c8 => ?_)
          · replace h := Eq.trans (if_pos c8).symm h
            exact vx_throw (nL := 3) (E := "java/lang/IllegalArgumentException") (ic := 120) hx hb S.2.2.1 htr hown (by decide) (hT _ vt_1218) (hT _ vt_1219) (vx_atoms atx_Ker_120 hT hX) hno hl.1 d_Ker_show_58 d_Ker_show_61 d_Ker_show_62 d_Ker_show_65 (by decide) (by decide) (by decide) (by decide) hlocks
          · replace h := Eq.trans (if_neg c8).symm h
            refine lv_iload_n hx hb d_Ker_show_53 rfl (lv_at hl 2 rfl) ?_
            refine lv_iconst (v := 2) hx hb d_Ker_show_54 (by decide) ?_
            refine lv_icmp_le (tgt := 66) hx hb d_Ker_show_55 (by decide) (fun c9 => ?_) (fun c9 => ?_)
            · replace h := Eq.trans (if_pos c9).symm h
              refine lv_iload_n hx hb d_Ker_show_66 rfl (lv_at hl 2 rfl) ?_
              refine lv_if_ne (tgt := 81) hx hb d_Ker_show_67 (by decide) (fun c10 => ?_) (fun c10 => ?_)
              · replace h := Eq.trans (if_neg c10).symm h
                refine lv_aload_n hx hb d_Ker_show_81 rfl (lv_at hl 0 rfl) ?_
                refine kf_Ker_printer S E hJ vt_80 d_Ker_show_82 ?_
                refine lv_aload_n hx hb d_Ker_show_85 rfl (lv_at hl 0 rfl) ?_
                refine kf_Ker_environment S E hJ vt_31 d_Ker_show_86 ?_
                refine lv_iload_n hx hb d_Ker_show_89 rfl (lv_at hl 1 rfl) ?_
                refine lv_iload_n hx hb d_Ker_show_90 rfl (lv_at hl 2 rfl) ?_
                refine kg_p (As := [.int a1, .int a2]) (rest := [.ref (kad g 10)]) (k_Env_fact (l := l) (g := g) (α := α) a1 a2) S E hJ kw_Ker_339 ⟨Nat.le_of_ble_eq_true rfl, Nat.le_of_ble_eq_true rfl⟩ ⟨Nat.zero_le _, Nat.zero_le _⟩ (kv_Env E hJ) rfl hl.1 rfl (Nat.le_of_ble_eq_true rfl) d_Ker_show_91 rfl ?_
                refine lv_iconst (v := 0) hx hb d_Ker_show_94 (by decide) ?_
                exact absurd h (by decide)
              · replace h := Eq.trans (if_pos c10).symm h
                refine lv_aload_n hx hb d_Ker_show_70 rfl (lv_at hl 0 rfl) ?_
                refine kf_Ker_printer S E hJ vt_80 d_Ker_show_71 ?_
                refine lv_iload_n hx hb d_Ker_show_74 rfl (lv_at hl 1 rfl) ?_
                exact absurd h (by decide)
            · replace h := Eq.trans (if_neg c9).symm h
              exact vx_throw (nL := 3) (E := "java/lang/IllegalArgumentException") (ic := 120) hx hb S.2.2.1 htr hown (by decide) (hT _ vt_1218) (hT _ vt_1219) (vx_atoms atx_Ker_120 hT hX) hno hl.1 d_Ker_show_58 d_Ker_show_61 d_Ker_show_62 d_Ker_show_65 (by decide) (by decide) (by decide) (by decide) hlocks
        · replace h := Eq.trans (if_pos c7).symm h
          exact absurd h (by decide)
    · replace h := Eq.trans (if_neg c2).symm h
      exact absurd h (by decide)
/-- which exception it throws, if one -/
def fx_Ker_showRec (a1 : Int32) (a2 : Int32) (α : kS) : Int32 := if a1 < 0 then (1) else (if (f_Env_length α) ≤ a1 then (1) else (if (f_Env_fact a1 0 α) = 3 then (if a2 < 0 then (1) else (if 100 < a2 then (1) else (if (f_Env_allows a1 a2 α) = 0 then (1) else (0)))) else (1)))
set_option maxHeartbeats 4000000 in
set_option maxRecDepth 100000 in
theorem kt_Ker_showRec_1 {l : Launch} {g : kG} {α : kS} (hfl : kFl l) (a1 : Int32) (a2 : Int32) (h : fx_Ker_showRec a1 a2 α = 1) (A : Nat → Prop) (ad : Nat → Nat) : vx_MetT l y_Ker_showRec (Cond.code y_Ker_showRec b_Ker_showRec 4 (some .int) :: vT) { frames := 35, cells := 1, slots := 6, locals := 1022 } (fun a U => va_Pc [.ref (kad g 0), .int a1, .int a2] (kB g A α ad) a U ∧ vx_X "java/util/NoSuchElementException" U) "java/util/NoSuchElementException" 1 6 := by
  unfold fx_Ker_showRec at h
  refine vx_ofW (cc := b_Ker_showRec) (maxL := 4) (ret := (some .int)) (by decide) rfl ?_
  intro p e s m args below meth c s₁ B hml hv
  obtain ⟨⟨hargs, hHp, hOk, E⟩, hX⟩ := hv
  have S : CallFix p m c b_Ker_showRec 4 s args vT "FamilyKernel" := ⟨B.exec, B.bytes, hml, findClass_of_methodNamed B.named, fun w h => atoms_spec (ws := Cond.code y_Ker_showRec b_Ker_showRec 4 (some .int) :: vT) B.pre w (List.mem_cons_of_mem _ h)⟩
  have hJ : kJ g A s α ad s.heap [] := ⟨hHp, hOk, va_S.rf⟩
  have hlocks := B.notSynchronized
  have hno : c.exceptionTable.isEmpty = true := B.noHandlers (atoms_spec (ws := Cond.code y_Ker_showRec b_Ker_showRec 4 (some .int) :: vT) B.pre _ List.mem_cons_self)
  have htr : e.platform.stackTraces = false := Launch.traces_off hfl (Stand.of_body B).admits
  have hx := S.1
  have hb := S.2.1
  have hown := S.2.2.2.1
  have hT := S.2.2.2.2
  subst hargs
  have hl := lv_entry ([.ref (kad g 0), .int a1, .int a2]) (n := 4) (Nat.le_of_ble_eq_true rfl)
  rw [lg_entry_eq]
  generalize (lg_sl ([.ref (kad g 0), .int a1, .int a2]) ++ List.replicate (4 - (lg_sl ([.ref (kad g 0), .int a1, .int a2])).length) Slot.unset).toArray = ls at hl ⊢
  have hl : lv_has ls 4 [(0, .ref (kad g 0)), (1, .int a1), (2, .int a2)] := hl
  refine lv_iload_n hx hb d_Ker_showRec_0 rfl (lv_at hl 1 rfl) ?_
  refine lv_if_lt (tgt := 32) hx hb d_Ker_showRec_1 (by decide) (fun c1 => ?_) (fun c1 => ?_)
  · replace h := Eq.trans (if_pos c1).symm h
    refine lv_iconst (v := 0) hx hb d_Ker_showRec_32 (by decide) ?_
    refine lv_istore_n (lv' := [(3, .int 0), (0, .ref (kad g 0)), (1, .int a1), (2, .int a2)]) hx hb d_Ker_showRec_33 rfl hl (by decide) rfl (fun ls hl => ?_)
    refine lv_iload_n hx hb d_Ker_showRec_34 rfl (lv_at hl 0 rfl) ?_
    refine lv_if_eq (tgt := 60) hx hb d_Ker_showRec_35 (by decide) (fun _ => ?_) (fun c2 => absurd c2 (by decide))
    exact vx_throw (nL := 4) (E := "java/util/NoSuchElementException") (ic := 338) hx hb S.2.2.1 htr hown (by decide) (hT _ vt_1229) (hT _ vt_1230) (vx_atoms atx_Ker_338 hT hX) hno hl.1 d_Ker_showRec_60 d_Ker_showRec_63 d_Ker_showRec_64 d_Ker_showRec_67 (by decide) (by decide) (by decide) (by decide) hlocks
  · replace h := Eq.trans (if_neg c1).symm h
    refine lv_iload_n hx hb d_Ker_showRec_4 rfl (lv_at hl 1 rfl) ?_
    refine lv_aload_n hx hb d_Ker_showRec_5 rfl (lv_at hl 0 rfl) ?_
    refine kf_Ker_environment S E hJ vt_31 d_Ker_showRec_6 ?_
    refine kg_p (As := []) (rest := [.int a1]) (k_Env_length (l := l) (g := g) (α := α) ) S E hJ kw_Ker_133 ⟨Nat.le_of_ble_eq_true rfl, Nat.le_of_ble_eq_true rfl⟩ ⟨Nat.zero_le _, Nat.zero_le _⟩ (kv_Env E hJ) rfl hl.1 rfl (Nat.le_of_ble_eq_true rfl) d_Ker_showRec_9 rfl ?_
    refine lv_icmp_ge (tgt := 32) hx hb d_Ker_showRec_12 (by decide) (fun c3 => ?_) (fun c3 => ?_)
    · replace h := Eq.trans (if_pos c3).symm h
      refine lv_iconst (v := 0) hx hb d_Ker_showRec_32 (by decide) ?_
      refine lv_istore_n (lv' := [(3, .int 0), (0, .ref (kad g 0)), (1, .int a1), (2, .int a2)]) hx hb d_Ker_showRec_33 rfl hl (by decide) rfl (fun ls hl => ?_)
      refine lv_iload_n hx hb d_Ker_showRec_34 rfl (lv_at hl 0 rfl) ?_
      refine lv_if_eq (tgt := 60) hx hb d_Ker_showRec_35 (by decide) (fun _ => ?_) (fun c4 => absurd c4 (by decide))
      exact vx_throw (nL := 4) (E := "java/util/NoSuchElementException") (ic := 338) hx hb S.2.2.1 htr hown (by decide) (hT _ vt_1229) (hT _ vt_1230) (vx_atoms atx_Ker_338 hT hX) hno hl.1 d_Ker_showRec_60 d_Ker_showRec_63 d_Ker_showRec_64 d_Ker_showRec_67 (by decide) (by decide) (by decide) (by decide) hlocks
    · replace h := Eq.trans (if_neg c3).symm h
      refine lv_aload_n hx hb d_Ker_showRec_15 rfl (lv_at hl 0 rfl) ?_
      refine kf_Ker_environment S E hJ vt_31 d_Ker_showRec_16 ?_
      refine lv_iload_n hx hb d_Ker_showRec_19 rfl (lv_at hl 1 rfl) ?_
      refine lv_iconst (v := 0) hx hb d_Ker_showRec_20 (by decide) ?_
      refine kg_p (As := [.int a1, .int 0]) (rest := []) (k_Env_fact (l := l) (g := g) (α := α) a1 0) S E hJ kw_Ker_339 ⟨Nat.le_of_ble_eq_true rfl, Nat.le_of_ble_eq_true rfl⟩ ⟨Nat.zero_le _, Nat.zero_le _⟩ (kv_Env E hJ) rfl hl.1 rfl (Nat.le_of_ble_eq_true rfl) d_Ker_showRec_21 rfl ?_
      refine lv_iconst (v := 3) hx hb d_Ker_showRec_24 (by decide) ?_
      refine lv_icmp_ne (tgt := 32) hx hb d_Ker_showRec_25 (by decide) (fun c5 => ?_) (fun c5 => ?_)
      · replace h := Eq.trans (if_neg c5).symm h
        refine lv_iconst (v := 0) hx hb d_Ker_showRec_32 (by decide) ?_
        refine lv_istore_n (lv' := [(3, .int 0), (0, .ref (kad g 0)), (1, .int a1), (2, .int a2)]) hx hb d_Ker_showRec_33 rfl hl (by decide) rfl (fun ls hl => ?_)
        refine lv_iload_n hx hb d_Ker_showRec_34 rfl (lv_at hl 0 rfl) ?_
        refine lv_if_eq (tgt := 60) hx hb d_Ker_showRec_35 (by decide) (fun _ => ?_) (fun c6 => absurd c6 (by decide))
        exact vx_throw (nL := 4) (E := "java/util/NoSuchElementException") (ic := 338) hx hb S.2.2.1 htr hown (by decide) (hT _ vt_1229) (hT _ vt_1230) (vx_atoms atx_Ker_338 hT hX) hno hl.1 d_Ker_showRec_60 d_Ker_showRec_63 d_Ker_showRec_64 d_Ker_showRec_67 (by decide) (by decide) (by decide) (by decide) hlocks
      · replace h := Eq.trans (if_pos c5).symm h
        refine lv_iconst (v := 1) hx hb d_Ker_showRec_28 (by decide) ?_
        refine lv_goto (tgt := 33) hx hb d_Ker_showRec_29 (by decide) ?_
        refine lv_istore_n (lv' := [(3, .int 1), (0, .ref (kad g 0)), (1, .int a1), (2, .int a2)]) hx hb d_Ker_showRec_33 rfl hl (by decide) rfl (fun ls hl => ?_)
        refine lv_iload_n hx hb d_Ker_showRec_34 rfl (lv_at hl 0 rfl) ?_
        refine lv_if_eq (tgt := 60) hx hb d_Ker_showRec_35 (by decide) (fun c7 => absurd c7 (by decide)) (fun _ => ?_)
        refine lv_iload_n hx hb d_Ker_showRec_38 rfl (lv_at hl 3 rfl) ?_
        refine lv_if_lt (tgt := 60) hx hb d_Ker_showRec_39 (by decide) (fun c8 => ?_) (fun c8 => ?_)
        · replace h := Eq.trans (if_pos c8).symm h
          exact vx_throw (nL := 4) (E := "java/util/NoSuchElementException") (ic := 338) hx hb S.2.2.1 htr hown (by decide) (hT _ vt_1229) (hT _ vt_1230) (vx_atoms atx_Ker_338 hT hX) hno hl.1 d_Ker_showRec_60 d_Ker_showRec_63 d_Ker_showRec_64 d_Ker_showRec_67 (by decide) (by decide) (by decide) (by decide) hlocks
        · replace h := Eq.trans (if_neg c8).symm h
          refine lv_iload_n hx hb d_Ker_showRec_42 rfl (lv_at hl 3 rfl) ?_
          refine lv_bipush (v := 100) hx hb d_Ker_showRec_43 (by decide) ?_
          refine lv_icmp_gt (tgt := 60) hx hb d_Ker_showRec_45 (by decide) (fun c9 => ?_) (fun c9 => ?_)
          · replace h := Eq.trans (if_pos c9).symm h
            exact vx_throw (nL := 4) (E := "java/util/NoSuchElementException") (ic := 338) hx hb S.2.2.1 htr hown (by decide) (hT _ vt_1229) (hT _ vt_1230) (vx_atoms atx_Ker_338 hT hX) hno hl.1 d_Ker_showRec_60 d_Ker_showRec_63 d_Ker_showRec_64 d_Ker_showRec_67 (by decide) (by decide) (by decide) (by decide) hlocks
          · replace h := Eq.trans (if_neg c9).symm h
            refine lv_aload_n hx hb d_Ker_showRec_48 rfl (lv_at hl 1 rfl) ?_
            refine kf_Ker_environment S E hJ vt_31 d_Ker_showRec_49 ?_
            refine lv_iload_n hx hb d_Ker_showRec_52 rfl (lv_at hl 2 rfl) ?_
            refine lv_iload_n hx hb d_Ker_showRec_53 rfl (lv_at hl 3 rfl) ?_
            refine kg_p (As := [.int a1, .int a2]) (rest := []) (k_Env_allows (l := l) (g := g) (α := α) a1 a2) S E hJ kw_Ker_346 ⟨Nat.le_of_ble_eq_true rfl, Nat.le_of_ble_eq_true rfl⟩ ⟨Nat.zero_le _, Nat.zero_le _⟩ (kv_Env E hJ) rfl hl.1 rfl (Nat.le_of_ble_eq_true rfl) d_Ker_showRec_54 rfl ?_
            refine lv_if_ne (tgt := 68) hx hb d_Ker_showRec_57 (by decide) (fun c10 => ?_) (fun c10 => ?_)
            · replace h := Eq.trans (if_neg c10).symm h
              refine lv_aload_n hx hb d_Ker_showRec_68 rfl (lv_at hl 1 rfl) ?_
              refine kf_Ker_printer S E hJ vt_80 d_Ker_showRec_69 ?_
              refine lv_aload_n hx hb d_Ker_showRec_72 rfl (lv_at hl 1 rfl) ?_
              refine kf_Ker_environment S E hJ vt_31 d_Ker_showRec_73 ?_
              refine lv_iload_n hx hb d_Ker_showRec_76 rfl (lv_at hl 2 rfl) ?_
              refine lv_bipush (v := 10) hx hb d_Ker_showRec_77 (by decide) ?_
              refine kg_p (As := [.int a1, .int 10]) (rest := [.ref (kad g 10)]) (k_Env_fact (l := l) (g := g) (α := α) a1 10) S E hJ kw_Ker_339 ⟨Nat.le_of_ble_eq_true rfl, Nat.le_of_ble_eq_true rfl⟩ ⟨Nat.zero_le _, Nat.zero_le _⟩ (kv_Env E hJ) rfl hl.1 rfl (Nat.le_of_ble_eq_true rfl) d_Ker_showRec_79 rfl ?_
              refine lv_iload_n hx hb d_Ker_showRec_82 rfl (lv_at hl 3 rfl) ?_
              exact absurd h (by decide)
            · replace h := Eq.trans (if_pos c10).symm h
              exact vx_throw (nL := 4) (E := "java/util/NoSuchElementException") (ic := 338) hx hb S.2.2.1 htr hown (by decide) (hT _ vt_1229) (hT _ vt_1230) (vx_atoms atx_Ker_338 hT hX) hno hl.1 d_Ker_showRec_60 d_Ker_showRec_63 d_Ker_showRec_64 d_Ker_showRec_67 (by decide) (by decide) (by decide) (by decide) hlocks
set_option maxRecDepth 100000 in
theorem atx_Ker_352 : (Bundle.ownAtoms0 "FamilyKernel" 352 "java/lang/IndexOutOfBoundsException" vx_names).all (fun a => decide (a ∈ vT) || decide (a ∈ [Cond.castable "java/lang/IndexOutOfBoundsException" "java/lang/IndexOutOfBoundsException", vx_l1, vx_l2, vx_r1, vx_r2, vx_d1, vx_d2, vx_d3])) = true := by decide +kernel
/-- which exception it throws, if one -/
def fx_Ker_out (a1 : Int32) (α : kS) : Int32 := if a1 < 0 then (3) else (if a1 < (fR_size α 1) then (0) else (3))
set_option maxHeartbeats 4000000 in
set_option maxRecDepth 100000 in
theorem kt_Ker_out_3 {l : Launch} {g : kG} {α : kS} (hfl : kFl l) (a1 : Int32) (h : fx_Ker_out a1 α = 3) (A : Nat → Prop) (ad : Nat → Nat) : vx_MetT l y_Ker_out (Cond.code y_Ker_out b_Ker_out 2 (some .int) :: vT) { frames := 11, cells := 1, slots := 6, locals := 321 } (fun a U => va_Pc [.ref (kad g 0), .int a1] (kB g A α ad) a U ∧ vx_X "java/lang/IndexOutOfBoundsException" U) "java/lang/IndexOutOfBoundsException" 1 6 := by
  unfold fx_Ker_out at h
  refine vx_ofW (cc := b_Ker_out) (maxL := 2) (ret := (some .int)) (by decide) rfl ?_
  intro p e s m args below meth c s₁ B hml hv
  obtain ⟨⟨hargs, hHp, hOk, E⟩, hX⟩ := hv
  have S : CallFix p m c b_Ker_out 2 s args vT "FamilyKernel" := ⟨B.exec, B.bytes, hml, findClass_of_methodNamed B.named, fun w h => atoms_spec (ws := Cond.code y_Ker_out b_Ker_out 2 (some .int) :: vT) B.pre w (List.mem_cons_of_mem _ h)⟩
  have hJ : kJ g A s α ad s.heap [] := ⟨hHp, hOk, va_S.rf⟩
  have hlocks := B.notSynchronized
  have hno : c.exceptionTable.isEmpty = true := B.noHandlers (atoms_spec (ws := Cond.code y_Ker_out b_Ker_out 2 (some .int) :: vT) B.pre _ List.mem_cons_self)
  have htr : e.platform.stackTraces = false := Launch.traces_off hfl (Stand.of_body B).admits
  have hx := S.1
  have hb := S.2.1
  have hown := S.2.2.2.1
  have hT := S.2.2.2.2
  subst hargs
  have hl := lv_entry ([.ref (kad g 0), .int a1]) (n := 2) (Nat.le_of_ble_eq_true rfl)
  rw [lg_entry_eq]
  generalize (lg_sl ([.ref (kad g 0), .int a1]) ++ List.replicate (2 - (lg_sl ([.ref (kad g 0), .int a1])).length) Slot.unset).toArray = ls at hl ⊢
  have hl : lv_has ls 2 [(0, .ref (kad g 0)), (1, .int a1)] := hl
  refine lv_iload_n hx hb d_Ker_out_0 rfl (lv_at hl 1 rfl) ?_
  refine lv_if_lt (tgt := 15) hx hb d_Ker_out_1 (by decide) (fun c1 => ?_) (fun c1 => ?_)
  · replace h := Eq.trans (if_pos c1).symm h
    exact vx_throw (nL := 2) (E := "java/lang/IndexOutOfBoundsException") (ic := 352) hx hb S.2.2.1 htr hown (by decide) (hT _ vt_1256) (hT _ vt_1257) (vx_atoms atx_Ker_352 hT hX) hno hl.1 d_Ker_out_15 d_Ker_out_18 d_Ker_out_19 d_Ker_out_22 (by decide) (by decide) (by decide) (by decide) hlocks
  · replace h := Eq.trans (if_neg c1).symm h
    refine lv_iload_n hx hb d_Ker_out_4 rfl (lv_at hl 1 rfl) ?_
    refine lv_aload_n hx hb d_Ker_out_5 rfl (lv_at hl 0 rfl) ?_
    refine kf_Ker_shown S E hJ vt_11 d_Ker_out_6 ?_
    refine kg_p (As := []) (rest := [.int a1]) (k_Row_size (l := l) (g := g) (α := α) (r := 1) (by decide)) S E hJ kw_Ker_104 ⟨Nat.le_of_ble_eq_true rfl, Nat.le_of_ble_eq_true rfl⟩ ⟨Nat.zero_le _, Nat.zero_le _⟩ (kv_Row (r := 1) (by decide) E hJ) rfl hl.1 rfl (Nat.le_of_ble_eq_true rfl) d_Ker_out_9 rfl ?_
    refine lv_icmp_lt (tgt := 23) hx hb d_Ker_out_12 (by decide) (fun c2 => ?_) (fun c2 => ?_)
    · replace h := Eq.trans (if_pos c2).symm h
      refine lv_aload_n hx hb d_Ker_out_23 rfl (lv_at hl 0 rfl) ?_
      refine kf_Ker_shown S E hJ vt_11 d_Ker_out_24 ?_
      refine lv_iload_n hx hb d_Ker_out_27 rfl (lv_at hl 1 rfl) ?_
      refine kg_p (As := [.int a1]) (rest := []) (k_Row_at (l := l) (g := g) (α := α) (r := 1) (by decide) a1) S E hJ kw_Ker_353 ⟨Nat.le_of_ble_eq_true rfl, Nat.le_of_ble_eq_true rfl⟩ ⟨Nat.zero_le _, Nat.zero_le _⟩ (kv_Row (r := 1) (by decide) E hJ) rfl hl.1 rfl (Nat.le_of_ble_eq_true rfl) d_Ker_out_28 rfl ?_
      exact absurd h (by decide)
    · replace h := Eq.trans (if_neg c2).symm h
      exact vx_throw (nL := 2) (E := "java/lang/IndexOutOfBoundsException") (ic := 352) hx hb S.2.2.1 htr hown (by decide) (hT _ vt_1256) (hT _ vt_1257) (vx_atoms atx_Ker_352 hT hX) hno hl.1 d_Ker_out_15 d_Ker_out_18 d_Ker_out_19 d_Ker_out_22 (by decide) (by decide) (by decide) (by decide) hlocks
