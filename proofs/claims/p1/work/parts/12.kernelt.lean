set_option maxHeartbeats 4000000 in
set_option maxRecDepth 100000 in
/-- end of a number that is not 0 -/
theorem t_Ker_end (l : Launch) (dC : Nat → ClassId) (dI : Nat → Nat → Nat) (hfl : l.flags = flags0) (h0 tp ta sh sa me te t1 t2 t3 t4 t5 t6 t7 t8 en fc fa nn lx tk ka pa fr re ty fm pr : Nat) (cT cK : ClassId) (k : Int32) (hk : ¬ k = 0) : vx_MetT l y_Ker_end w_Ker_end ({ frames := 30, cells := 1, slots := 6, locals := 900 }) (PpX dC dI [.ref h0, .int k] [(h0, .inr (11, [.ref tp, .ref sh, .ref me, .ref te, .ref en, .ref lx, .ref pa, .ref fr, .ref re, .ref ty, .ref fm, .ref pr, .int 0, .int 0])), (tp, .inr (0, [.int 65536, .ref ta, .int 0]))] [] "java/lang/IllegalArgumentException") "java/lang/IllegalArgumentException" 1 6 := by
  refine vx_ofW (cc := b_Ker_end) (maxL := 2) (ret := (some .int)) (by decide) rfl ?_
  intro p e s m args below meth c s₁ B hml hv
  obtain ⟨⟨rfl, hP, hK⟩, hX⟩ := hv
  have hx := B.exec
  have hb := B.bytes
  have hr := B.returns
  have hT : ∀ w ∈ vT, w.before _ s = true := fun w h => atoms_spec (ws := w_Ker_end) B.pre w (List.mem_cons_of_mem _ h)
  have hown : s.vm.findClass R_Ker = some m.cls := findClass_of_methodNamed B.named
  have hlocks := B.notSynchronized
  have hno : c.exceptionTable.isEmpty = true := B.noHandlers (atoms_spec (ws := w_Ker_end) B.pre _ List.mem_cons_self)
  have htr : e.platform.stackTraces = false := Launch.traces_off hfl (Stand.of_body B).admits
  have hl := lv_entry ([.ref h0, .int k]) (n := 2) (Nat.le_of_ble_eq_true rfl)
  rw [lg_entry_eq]
  generalize (lg_sl ([.ref h0, .int k]) ++ List.replicate (2 - (lg_sl ([.ref h0, .int k])).length) Slot.unset).toArray = ls at hl ⊢
  have hl : lv_has ls 2 [(0, .ref h0), (1, .int k)] := hl
  by_cases hneg : k < 0
  · skip
    refine lv_iload_n hx hb d_Ker_end_0 rfl (lv_at hl 1 rfl) ?_
    refine lv_if_lt (tgt := 15) hx hb d_Ker_end_1 (by decide) (fun c_1 => ?_) (fun c_1 => absurd (hneg) c_1)
    exact vx_throw hx hb hml htr hown (by decide) (hT _ vt_343) (hT _ vt_344) (vx_atoms at_IAE hT hX) hno hl.1 d_Ker_end_15 d_Ker_end_18 d_Ker_end_19 d_Ker_end_22 (Nat.le_of_ble_eq_true rfl) (Nat.le_of_ble_eq_true rfl) (Nat.le_of_ble_eq_true rfl) (Nat.le_of_ble_eq_true rfl) hlocks
  · skip
    refine lv_iload_n hx hb d_Ker_end_0 rfl (lv_at hl 1 rfl) ?_
    refine lv_if_lt (tgt := 15) hx hb d_Ker_end_1 (by decide) (fun c_1 => absurd c_1 (hneg)) (fun c_1 => ?_)
    refine lv_iload_n hx hb d_Ker_end_4 rfl (lv_at hl 1 rfl) ?_
    refine lv_aload_n hx hb d_Ker_end_5 rfl (lv_at hl 0 rfl) ?_
    refine va_get (D := (dC, dI)) (ci := 11) (v := .ref tp) (C := R_Ker) (T := T_Ker) (N := 14) hx hb hT in_Ker hown hK hP 0 rfl rfl 0 (by decide) (hT _ vt_97) (fun _ h9 => h9) rfl d_Ker_end_6 ?_
    refine W.callR (W.runV (As := []) (rest := [.int k]) ⟨hx, hb, hml, hown, hT⟩ (c_Row_size l dC dI tp ta 65536 0) (cwV 0 hT (gV vt_314 vt_253 vt_254 vt_11 vt_255) rfl rfl rfl (by decide +kernel) ⟨Nat.le_of_ble_eq_true rfl, Nat.le_of_ble_eq_true rfl⟩) ⟨Pp_blind, va_recv hK hP (ci := 0) (q0 := 1) rfl rfl, Pp_of (hP.sub (ws' := [(tp, .inr (0, [.int 65536, .ref ta, .int 0]))]) [1] rfl) (hK.sub (tys' := []) [] rfl)⟩ rfl rfl hl.1 rfl (lv_room (Nat.le_of_ble_eq_true rfl)) d_Ker_end_9 ⟨Nat.le_of_ble_eq_true rfl, Nat.le_of_ble_eq_true rfl⟩) ?_
    refine W.eq (g2 := F0 m 12 ls [.int 0, .int k]) rfl ?_
    refine lv_icmp_le (tgt := 23) hx hb d_Ker_end_12 (by decide) (fun c_2 => absurd c_2 (fun h => hk (Int32.le_antisymm h (Int32.not_lt.mp hneg)))) (fun c_2 => ?_)
    exact vx_throw hx hb hml htr hown (by decide) (hT _ vt_343) (hT _ vt_344) (vx_atoms at_IAE hT hX) hno hl.1 d_Ker_end_15 d_Ker_end_18 d_Ker_end_19 d_Ker_end_22 (Nat.le_of_ble_eq_true rfl) (Nat.le_of_ble_eq_true rfl) (Nat.le_of_ble_eq_true rfl) (Nat.le_of_ble_eq_true rfl) hlocks
set_option maxHeartbeats 4000000 in
set_option maxRecDepth 100000 in
/-- constant -/
theorem t_Ker_constant (l : Launch) (dC : Nat → ClassId) (dI : Nat → Nat → Nat) (hfl : l.flags = flags0) (h0 tp ta sh sa me te t1 t2 t3 t4 t5 t6 t7 t8 en fc fa nn lx tk ka pa fr re ty fm pr : Nat) (cT cK : ClassId) (k w : Int32) : vx_MetT l y_Ker_constant w_Ker_constant ({ frames := 30, cells := 1, slots := 6, locals := 900 }) (PpX dC dI [.ref h0, .int k, .int w] [(h0, .inr (11, [.ref tp, .ref sh, .ref me, .ref te, .ref en, .ref lx, .ref pa, .ref fr, .ref re, .ref ty, .ref fm, .ref pr, .int 0, .int 0])), (en, .inr (3, [.ref fc, .ref nn, .int 0])), (fc, .inr (0, [.int 16777216, .ref fa, .int 0]))] [] "java/util/NoSuchElementException") "java/util/NoSuchElementException" 1 6 := by
  refine vx_ofW (cc := b_Ker_constant) (maxL := 4) (ret := (some .int)) (by decide) rfl ?_
  intro p e s m args below meth c s₁ B hml hv
  obtain ⟨⟨rfl, hP, hK⟩, hX⟩ := hv
  have hx := B.exec
  have hb := B.bytes
  have hr := B.returns
  have hT : ∀ w ∈ vT, w.before _ s = true := fun w h => atoms_spec (ws := w_Ker_constant) B.pre w (List.mem_cons_of_mem _ h)
  have hown : s.vm.findClass R_Ker = some m.cls := findClass_of_methodNamed B.named
  have hlocks := B.notSynchronized
  have hno : c.exceptionTable.isEmpty = true := B.noHandlers (atoms_spec (ws := w_Ker_constant) B.pre _ List.mem_cons_self)
  have htr : e.platform.stackTraces = false := Launch.traces_off hfl (Stand.of_body B).admits
  have hl := lv_entry ([.ref h0, .int k, .int w]) (n := 4) (Nat.le_of_ble_eq_true rfl)
  rw [lg_entry_eq]
  generalize (lg_sl ([.ref h0, .int k, .int w]) ++ List.replicate (4 - (lg_sl ([.ref h0, .int k, .int w])).length) Slot.unset).toArray = ls at hl ⊢
  have hl : lv_has ls 4 [(0, .ref h0), (1, .int k), (2, .int w)] := hl
  by_cases hneg : k < 0
  · skip
    refine lv_iload_n hx hb d_Ker_constant_0 rfl (lv_at hl 1 rfl) ?_
    refine lv_if_lt (tgt := 15) hx hb d_Ker_constant_1 (by decide) (fun c_1 => ?_) (fun c_1 => absurd (hneg) c_1)
    exact vx_throw hx hb hml htr hown (by decide) (hT _ vt_345) (hT _ vt_346) (vx_atoms at_NSE hT hX) hno hl.1 d_Ker_constant_15 d_Ker_constant_18 d_Ker_constant_19 d_Ker_constant_22 (Nat.le_of_ble_eq_true rfl) (Nat.le_of_ble_eq_true rfl) (Nat.le_of_ble_eq_true rfl) (Nat.le_of_ble_eq_true rfl) hlocks
  · skip
    refine lv_iload_n hx hb d_Ker_constant_0 rfl (lv_at hl 1 rfl) ?_
    refine lv_if_lt (tgt := 15) hx hb d_Ker_constant_1 (by decide) (fun c_1 => absurd c_1 (hneg)) (fun c_1 => ?_)
    refine lv_iload_n hx hb d_Ker_constant_4 rfl (lv_at hl 1 rfl) ?_
    refine lv_aload_n hx hb d_Ker_constant_5 rfl (lv_at hl 0 rfl) ?_
    refine va_get (D := (dC, dI)) (ci := 11) (v := .ref en) (C := R_Ker) (T := T_Ker) (N := 14) hx hb hT in_Ker hown hK hP 0 rfl rfl 4 (by decide) (hT _ vt_118) (fun _ h9 => h9) rfl d_Ker_constant_6 ?_
    refine W.callR (W.runV (As := []) (rest := [.int k]) ⟨hx, hb, hml, hown, hT⟩ (c_Env_length l dC dI en fc fa nn) (cwV 0 hT (gV vt_328 vt_258 vt_259 vt_114 vt_260) rfl rfl rfl (by decide +kernel) ⟨Nat.le_of_ble_eq_true rfl, Nat.le_of_ble_eq_true rfl⟩) ⟨Pp_blind, va_recv hK hP (ci := 3) (q0 := 1) rfl rfl, Pp_of (hP.sub (ws' := [(en, .inr (3, [.ref fc, .ref nn, .int 0])), (fc, .inr (0, [.int 16777216, .ref fa, .int 0]))]) [1, 2] rfl) (hK.sub (tys' := []) [] rfl)⟩ rfl rfl hl.1 rfl (lv_room (Nat.le_of_ble_eq_true rfl)) d_Ker_constant_9 ⟨Nat.le_of_ble_eq_true rfl, Nat.le_of_ble_eq_true rfl⟩) ?_
    refine W.eq (g2 := F0 m 12 ls [.int 0, .int k]) rfl ?_
    refine lv_icmp_lt (tgt := 23) hx hb d_Ker_constant_12 (by decide) (fun c_2 => absurd c_2 (hneg)) (fun c_2 => ?_)
    exact vx_throw hx hb hml htr hown (by decide) (hT _ vt_345) (hT _ vt_346) (vx_atoms at_NSE hT hX) hno hl.1 d_Ker_constant_15 d_Ker_constant_18 d_Ker_constant_19 d_Ker_constant_22 (Nat.le_of_ble_eq_true rfl) (Nat.le_of_ble_eq_true rfl) (Nat.le_of_ble_eq_true rfl) (Nat.le_of_ble_eq_true rfl) hlocks
set_option maxHeartbeats 4000000 in
set_option maxRecDepth 100000 in
/-- show -/
theorem t_Ker_show (l : Launch) (dC : Nat → ClassId) (dI : Nat → Nat → Nat) (hfl : l.flags = flags0) (h0 tp ta sh sa me te t1 t2 t3 t4 t5 t6 t7 t8 en fc fa nn lx tk ka pa fr re ty fm pr : Nat) (cT cK : ClassId) (k w : Int32) : vx_MetT l y_Ker_show w_Ker_show ({ frames := 30, cells := 1, slots := 6, locals := 900 }) (PpX dC dI [.ref h0, .int k, .int w] [(h0, .inr (11, [.ref tp, .ref sh, .ref me, .ref te, .ref en, .ref lx, .ref pa, .ref fr, .ref re, .ref ty, .ref fm, .ref pr, .int 0, .int 0])), (en, .inr (3, [.ref fc, .ref nn, .int 0])), (fc, .inr (0, [.int 16777216, .ref fa, .int 0]))] [] "java/util/NoSuchElementException") "java/util/NoSuchElementException" 1 6 := by
  refine vx_ofW (cc := b_Ker_show) (maxL := 3) (ret := (some .int)) (by decide) rfl ?_
  intro p e s m args below meth c s₁ B hml hv
  obtain ⟨⟨rfl, hP, hK⟩, hX⟩ := hv
  have hx := B.exec
  have hb := B.bytes
  have hr := B.returns
  have hT : ∀ w ∈ vT, w.before _ s = true := fun w h => atoms_spec (ws := w_Ker_show) B.pre w (List.mem_cons_of_mem _ h)
  have hown : s.vm.findClass R_Ker = some m.cls := findClass_of_methodNamed B.named
  have hlocks := B.notSynchronized
  have hno : c.exceptionTable.isEmpty = true := B.noHandlers (atoms_spec (ws := w_Ker_show) B.pre _ List.mem_cons_self)
  have htr : e.platform.stackTraces = false := Launch.traces_off hfl (Stand.of_body B).admits
  have hl := lv_entry ([.ref h0, .int k, .int w]) (n := 3) (Nat.le_of_ble_eq_true rfl)
  rw [lg_entry_eq]
  generalize (lg_sl ([.ref h0, .int k, .int w]) ++ List.replicate (3 - (lg_sl ([.ref h0, .int k, .int w])).length) Slot.unset).toArray = ls at hl ⊢
  have hl : lv_has ls 3 [(0, .ref h0), (1, .int k), (2, .int w)] := hl
  by_cases hneg : k < 0
  · skip
    refine lv_iload_n hx hb d_Ker_show_0 rfl (lv_at hl 1 rfl) ?_
    refine lv_if_lt (tgt := 15) hx hb d_Ker_show_1 (by decide) (fun c_1 => ?_) (fun c_1 => absurd (hneg) c_1)
    exact vx_throw hx hb hml htr hown (by decide) (hT _ vt_345) (hT _ vt_346) (vx_atoms at_NSE hT hX) hno hl.1 d_Ker_show_15 d_Ker_show_18 d_Ker_show_19 d_Ker_show_22 (Nat.le_of_ble_eq_true rfl) (Nat.le_of_ble_eq_true rfl) (Nat.le_of_ble_eq_true rfl) (Nat.le_of_ble_eq_true rfl) hlocks
  · skip
    refine lv_iload_n hx hb d_Ker_show_0 rfl (lv_at hl 1 rfl) ?_
    refine lv_if_lt (tgt := 15) hx hb d_Ker_show_1 (by decide) (fun c_1 => absurd c_1 (hneg)) (fun c_1 => ?_)
    refine lv_iload_n hx hb d_Ker_show_4 rfl (lv_at hl 1 rfl) ?_
    refine lv_aload_n hx hb d_Ker_show_5 rfl (lv_at hl 0 rfl) ?_
    refine va_get (D := (dC, dI)) (ci := 11) (v := .ref en) (C := R_Ker) (T := T_Ker) (N := 14) hx hb hT in_Ker hown hK hP 0 rfl rfl 4 (by decide) (hT _ vt_118) (fun _ h9 => h9) rfl d_Ker_show_6 ?_
    refine W.callR (W.runV (As := []) (rest := [.int k]) ⟨hx, hb, hml, hown, hT⟩ (c_Env_length l dC dI en fc fa nn) (cwV 0 hT (gV vt_328 vt_258 vt_259 vt_114 vt_260) rfl rfl rfl (by decide +kernel) ⟨Nat.le_of_ble_eq_true rfl, Nat.le_of_ble_eq_true rfl⟩) ⟨Pp_blind, va_recv hK hP (ci := 3) (q0 := 1) rfl rfl, Pp_of (hP.sub (ws' := [(en, .inr (3, [.ref fc, .ref nn, .int 0])), (fc, .inr (0, [.int 16777216, .ref fa, .int 0]))]) [1, 2] rfl) (hK.sub (tys' := []) [] rfl)⟩ rfl rfl hl.1 rfl (lv_room (Nat.le_of_ble_eq_true rfl)) d_Ker_show_9 ⟨Nat.le_of_ble_eq_true rfl, Nat.le_of_ble_eq_true rfl⟩) ?_
    refine W.eq (g2 := F0 m 12 ls [.int 0, .int k]) rfl ?_
    refine lv_icmp_lt (tgt := 23) hx hb d_Ker_show_12 (by decide) (fun c_2 => absurd c_2 (hneg)) (fun c_2 => ?_)
    exact vx_throw hx hb hml htr hown (by decide) (hT _ vt_345) (hT _ vt_346) (vx_atoms at_NSE hT hX) hno hl.1 d_Ker_show_15 d_Ker_show_18 d_Ker_show_19 d_Ker_show_22 (Nat.le_of_ble_eq_true rfl) (Nat.le_of_ble_eq_true rfl) (Nat.le_of_ble_eq_true rfl) (Nat.le_of_ble_eq_true rfl) hlocks
set_option maxHeartbeats 4000000 in
set_option maxRecDepth 100000 in
/-- out -/
theorem t_Ker_out (l : Launch) (dC : Nat → ClassId) (dI : Nat → Nat → Nat) (hfl : l.flags = flags0) (h0 tp ta sh sa me te t1 t2 t3 t4 t5 t6 t7 t8 en fc fa nn lx tk ka pa fr re ty fm pr : Nat) (cT cK : ClassId) (k : Int32) : vx_MetT l y_Ker_out w_Ker_out ({ frames := 30, cells := 1, slots := 6, locals := 900 }) (PpX dC dI [.ref h0, .int k] [(h0, .inr (11, [.ref tp, .ref sh, .ref me, .ref te, .ref en, .ref lx, .ref pa, .ref fr, .ref re, .ref ty, .ref fm, .ref pr, .int 0, .int 0])), (sh, .inr (0, [.int 65536, .ref sa, .int 0]))] [] "java/lang/IndexOutOfBoundsException") "java/lang/IndexOutOfBoundsException" 1 6 := by
  refine vx_ofW (cc := b_Ker_out) (maxL := 2) (ret := (some .int)) (by decide) rfl ?_
  intro p e s m args below meth c s₁ B hml hv
  obtain ⟨⟨rfl, hP, hK⟩, hX⟩ := hv
  have hx := B.exec
  have hb := B.bytes
  have hr := B.returns
  have hT : ∀ w ∈ vT, w.before _ s = true := fun w h => atoms_spec (ws := w_Ker_out) B.pre w (List.mem_cons_of_mem _ h)
  have hown : s.vm.findClass R_Ker = some m.cls := findClass_of_methodNamed B.named
  have hlocks := B.notSynchronized
  have hno : c.exceptionTable.isEmpty = true := B.noHandlers (atoms_spec (ws := w_Ker_out) B.pre _ List.mem_cons_self)
  have htr : e.platform.stackTraces = false := Launch.traces_off hfl (Stand.of_body B).admits
  have hl := lv_entry ([.ref h0, .int k]) (n := 2) (Nat.le_of_ble_eq_true rfl)
  rw [lg_entry_eq]
  generalize (lg_sl ([.ref h0, .int k]) ++ List.replicate (2 - (lg_sl ([.ref h0, .int k])).length) Slot.unset).toArray = ls at hl ⊢
  have hl : lv_has ls 2 [(0, .ref h0), (1, .int k)] := hl
  by_cases hneg : k < 0
  · skip
    refine lv_iload_n hx hb d_Ker_out_0 rfl (lv_at hl 1 rfl) ?_
    refine lv_if_lt (tgt := 15) hx hb d_Ker_out_1 (by decide) (fun c_1 => ?_) (fun c_1 => absurd (hneg) c_1)
    exact vx_throw hx hb hml htr hown (by decide) (hT _ vt_347) (hT _ vt_348) (vx_atoms at_IOB hT hX) hno hl.1 d_Ker_out_15 d_Ker_out_18 d_Ker_out_19 d_Ker_out_22 (Nat.le_of_ble_eq_true rfl) (Nat.le_of_ble_eq_true rfl) (Nat.le_of_ble_eq_true rfl) (Nat.le_of_ble_eq_true rfl) hlocks
  · skip
    refine lv_iload_n hx hb d_Ker_out_0 rfl (lv_at hl 1 rfl) ?_
    refine lv_if_lt (tgt := 15) hx hb d_Ker_out_1 (by decide) (fun c_1 => absurd c_1 (hneg)) (fun c_1 => ?_)
    refine lv_iload_n hx hb d_Ker_out_4 rfl (lv_at hl 1 rfl) ?_
    refine lv_aload_n hx hb d_Ker_out_5 rfl (lv_at hl 0 rfl) ?_
    refine va_get (D := (dC, dI)) (ci := 11) (v := .ref sh) (C := R_Ker) (T := T_Ker) (N := 14) hx hb hT in_Ker hown hK hP 0 rfl rfl 1 (by decide) (hT _ vt_98) (fun _ h9 => h9) rfl d_Ker_out_6 ?_
    refine W.callR (W.runV (As := []) (rest := [.int k]) ⟨hx, hb, hml, hown, hT⟩ (c_Row_size l dC dI sh sa 65536 0) (cwV 0 hT (gV vt_314 vt_253 vt_254 vt_11 vt_255) rfl rfl rfl (by decide +kernel) ⟨Nat.le_of_ble_eq_true rfl, Nat.le_of_ble_eq_true rfl⟩) ⟨Pp_blind, va_recv hK hP (ci := 0) (q0 := 1) rfl rfl, Pp_of (hP.sub (ws' := [(sh, .inr (0, [.int 65536, .ref sa, .int 0]))]) [1] rfl) (hK.sub (tys' := []) [] rfl)⟩ rfl rfl hl.1 rfl (lv_room (Nat.le_of_ble_eq_true rfl)) d_Ker_out_9 ⟨Nat.le_of_ble_eq_true rfl, Nat.le_of_ble_eq_true rfl⟩) ?_
    refine W.eq (g2 := F0 m 12 ls [.int 0, .int k]) rfl ?_
    refine lv_icmp_lt (tgt := 23) hx hb d_Ker_out_12 (by decide) (fun c_2 => absurd c_2 (hneg)) (fun c_2 => ?_)
    exact vx_throw hx hb hml htr hown (by decide) (hT _ vt_347) (hT _ vt_348) (vx_atoms at_IOB hT hX) hno hl.1 d_Ker_out_15 d_Ker_out_18 d_Ker_out_19 d_Ker_out_22 (Nat.le_of_ble_eq_true rfl) (Nat.le_of_ble_eq_true rfl) (Nat.le_of_ble_eq_true rfl) (Nat.le_of_ble_eq_true rfl) hlocks
set_option maxHeartbeats 4000000 in
set_option maxRecDepth 100000 in
/-- showRec -/
theorem t_Ker_showRec (l : Launch) (dC : Nat → ClassId) (dI : Nat → Nat → Nat) (hfl : l.flags = flags0) (h0 tp ta sh sa me te t1 t2 t3 t4 t5 t6 t7 t8 en fc fa nn lx tk ka pa fr re ty fm pr : Nat) (cT cK : ClassId) (k w : Int32) : vx_MetT l y_Ker_showRec w_Ker_showRec ({ frames := 30, cells := 1, slots := 6, locals := 900 }) (PpX dC dI [.ref h0, .int k, .int w] [(h0, .inr (11, [.ref tp, .ref sh, .ref me, .ref te, .ref en, .ref lx, .ref pa, .ref fr, .ref re, .ref ty, .ref fm, .ref pr, .int 0, .int 0])), (en, .inr (3, [.ref fc, .ref nn, .int 0])), (fc, .inr (0, [.int 16777216, .ref fa, .int 0]))] [] "java/util/NoSuchElementException") "java/util/NoSuchElementException" 1 6 := by
  refine vx_ofW (cc := b_Ker_showRec) (maxL := 4) (ret := (some .int)) (by decide) rfl ?_
  intro p e s m args below meth c s₁ B hml hv
  obtain ⟨⟨rfl, hP, hK⟩, hX⟩ := hv
  have hx := B.exec
  have hb := B.bytes
  have hr := B.returns
  have hT : ∀ w ∈ vT, w.before _ s = true := fun w h => atoms_spec (ws := w_Ker_showRec) B.pre w (List.mem_cons_of_mem _ h)
  have hown : s.vm.findClass R_Ker = some m.cls := findClass_of_methodNamed B.named
  have hlocks := B.notSynchronized
  have hno : c.exceptionTable.isEmpty = true := B.noHandlers (atoms_spec (ws := w_Ker_showRec) B.pre _ List.mem_cons_self)
  have htr : e.platform.stackTraces = false := Launch.traces_off hfl (Stand.of_body B).admits
  have hl := lv_entry ([.ref h0, .int k, .int w]) (n := 4) (Nat.le_of_ble_eq_true rfl)
  rw [lg_entry_eq]
  generalize (lg_sl ([.ref h0, .int k, .int w]) ++ List.replicate (4 - (lg_sl ([.ref h0, .int k, .int w])).length) Slot.unset).toArray = ls at hl ⊢
  have hl : lv_has ls 4 [(0, .ref h0), (1, .int k), (2, .int w)] := hl
  by_cases hneg : k < 0
  · skip
    refine lv_iload_n hx hb d_Ker_showRec_0 rfl (lv_at hl 1 rfl) ?_
    refine lv_if_lt (tgt := 32) hx hb d_Ker_showRec_1 (by decide) (fun c_1 => ?_) (fun c_1 => absurd (hneg) c_1)
    refine lv_iconst (v := 0) hx hb d_Ker_showRec_32 (by decide) ?_
    refine lv_istore_n (lv' := [(3, .int 0), (0, .ref h0), (1, .int k), (2, .int w)]) hx hb d_Ker_showRec_33 rfl hl (by decide) rfl (fun ls hl => ?_)
    refine lv_iload_n hx hb d_Ker_showRec_34 rfl (lv_at hl 0 rfl) ?_
    refine lv_if_eq (tgt := 60) hx hb d_Ker_showRec_35 (by decide) (fun c_2 => ?_) (fun c_2 => absurd (by decide) c_2)
    exact vx_throw hx hb hml htr hown (by decide) (hT _ vt_345) (hT _ vt_346) (vx_atoms at_NSE hT hX) hno hl.1 d_Ker_showRec_60 d_Ker_showRec_63 d_Ker_showRec_64 d_Ker_showRec_67 (Nat.le_of_ble_eq_true rfl) (Nat.le_of_ble_eq_true rfl) (Nat.le_of_ble_eq_true rfl) (Nat.le_of_ble_eq_true rfl) hlocks
  · skip
    refine lv_iload_n hx hb d_Ker_showRec_0 rfl (lv_at hl 1 rfl) ?_
    refine lv_if_lt (tgt := 32) hx hb d_Ker_showRec_1 (by decide) (fun c_1 => absurd c_1 (hneg)) (fun c_1 => ?_)
    refine lv_iload_n hx hb d_Ker_showRec_4 rfl (lv_at hl 1 rfl) ?_
    refine lv_aload_n hx hb d_Ker_showRec_5 rfl (lv_at hl 0 rfl) ?_
    refine va_get (D := (dC, dI)) (ci := 11) (v := .ref en) (C := R_Ker) (T := T_Ker) (N := 14) hx hb hT in_Ker hown hK hP 0 rfl rfl 4 (by decide) (hT _ vt_118) (fun _ h9 => h9) rfl d_Ker_showRec_6 ?_
    refine W.callR (W.runV (As := []) (rest := [.int k]) ⟨hx, hb, hml, hown, hT⟩ (c_Env_length l dC dI en fc fa nn) (cwV 0 hT (gV vt_328 vt_258 vt_259 vt_114 vt_260) rfl rfl rfl (by decide +kernel) ⟨Nat.le_of_ble_eq_true rfl, Nat.le_of_ble_eq_true rfl⟩) ⟨Pp_blind, va_recv hK hP (ci := 3) (q0 := 1) rfl rfl, Pp_of (hP.sub (ws' := [(en, .inr (3, [.ref fc, .ref nn, .int 0])), (fc, .inr (0, [.int 16777216, .ref fa, .int 0]))]) [1, 2] rfl) (hK.sub (tys' := []) [] rfl)⟩ rfl rfl hl.1 rfl (lv_room (Nat.le_of_ble_eq_true rfl)) d_Ker_showRec_9 ⟨Nat.le_of_ble_eq_true rfl, Nat.le_of_ble_eq_true rfl⟩) ?_
    refine W.eq (g2 := F0 m 12 ls [.int 0, .int k]) rfl ?_
    refine lv_icmp_ge (tgt := 32) hx hb d_Ker_showRec_12 (by decide) (fun c_2 => ?_) (fun c_2 => absurd (Int32.not_lt.mp hneg) c_2)
    refine lv_iconst (v := 0) hx hb d_Ker_showRec_32 (by decide) ?_
    refine lv_istore_n (lv' := [(3, .int 0), (0, .ref h0), (1, .int k), (2, .int w)]) hx hb d_Ker_showRec_33 rfl hl (by decide) rfl (fun ls hl => ?_)
    refine lv_iload_n hx hb d_Ker_showRec_34 rfl (lv_at hl 0 rfl) ?_
    refine lv_if_eq (tgt := 60) hx hb d_Ker_showRec_35 (by decide) (fun c_3 => ?_) (fun c_3 => absurd (by decide) c_3)
    exact vx_throw hx hb hml htr hown (by decide) (hT _ vt_345) (hT _ vt_346) (vx_atoms at_NSE hT hX) hno hl.1 d_Ker_showRec_60 d_Ker_showRec_63 d_Ker_showRec_64 d_Ker_showRec_67 (Nat.le_of_ble_eq_true rfl) (Nat.le_of_ble_eq_true rfl) (Nat.le_of_ble_eq_true rfl) (Nat.le_of_ble_eq_true rfl) hlocks
