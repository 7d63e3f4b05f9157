set_option maxHeartbeats 4000000 in
set_option maxRecDepth 100000 in
/-- Meter.forget -/
theorem c_Meter_forget (l : Launch) (dC : Nat → ClassId) (dI : Nat → Nat → Nat) (sz : Nat) (me : Nat) : Met l y_Meter_forget w_Meter_forget ({ frames := 10, cells := 0, slots := 0, locals := 300 }) (Pw dC dI [.ref me] sz [(me, .inr (1, [.int 0, .int 0, .int 0, .int 0]))] []) (va_Qv (fun _ : Unit => True) (fun _ t => va_P (dC, dI) classes [(me, .inr (1, [.int 0, .int 0, .int 0, .int 0]))] t.heap ∧ va_K (dC, dI) classes [] t ∧ va_D (va_A [(me, .inr (1, [.int 0, .int 0, .int 0, .int 0]))] sz) [(me, .inr (1, [.int 0, .int 0, .int 0, .int 0]))]) (va_A [(me, .inr (1, [.int 0, .int 0, .int 0, .int 0]))] sz)) 0 0 (va_A [(me, .inr (1, [.int 0, .int 0, .int 0, .int 0]))] sz) := by
  refine Met.ofW (cc := b_Meter_forget) (maxL := 1) (ret := none) (by decide) rfl ?_
  intro p e s m args below meth c s₁ B hml hv
  obtain ⟨rfl, hsz, hP, hK, hD0⟩ := hv
  have hx := B.exec
  have hb := B.bytes
  have hr := B.returns
  have hT : ∀ w ∈ vT, w.before _ s = true := fun w h => atoms_spec (ws := w_Meter_forget) B.pre w (List.mem_cons_of_mem _ h)
  have hown : s.vm.findClass R_Meter = some m.cls := findClass_of_methodNamed B.named
  have hlocks := B.notSynchronized
  subst hsz
  have hD := hD0.self (sz := s.heap.size)
  generalize hAe : va_A [(me, .inr (1, [.int 0, .int 0, .int 0, .int 0]))] s.heap.size = A at hD ⊢
  have hA : ∀ q : Nat, s.heap.size ≤ q → A q := fun q h => by rw [← hAe]; exact Or.inr h
  have hS : va_S A s.heap s.heap [] := va_S.rf
  have hP : va_P (dC, dI) classes [(me, .inr (1, [.int 0, .int 0, .int 0, .int 0]))] s.heap := hP
  have hl := lv_entry ([.ref me]) (n := 1) (Nat.le_of_ble_eq_true rfl)
  rw [lg_entry_eq]
  generalize (lg_sl ([.ref me]) ++ List.replicate (1 - (lg_sl ([.ref me])).length) Slot.unset).toArray = ls at hl ⊢
  have hl : lv_has ls 1 [(0, .ref me)] := hl
  refine lv_aload_n hx hb d_Meter_forget_0 rfl (lv_at hl 0 rfl) ?_
  refine lv_iconst (v := 0) hx hb d_Meter_forget_1 (by decide) ?_
  refine va_put (D := (dC, dI)) (ci := 1) (v := .int 0) (ty := .int) (C := R_Meter) (T := T_Meter) (N := 4) hx hb hT in_Meter ty_Meter tyo_Meter nm_Meter hown hK hP hD hS 0 rfl rfl 1 (by decide) (hT _ vt_250) (fun _ h9 => h9) rfl (by decide +kernel) rfl rfl (Nat.le_of_ble_eq_true rfl) d_Meter_forget_2 (fun H locs hP hD hS => ?_)
  have hP : va_P (dC, dI) classes [(me, .inr (1, [.int 0, .int 0, .int 0, .int 0]))] H := hP
  have hD : va_D A [(me, .inr (1, [.int 0, .int 0, .int 0, .int 0]))] := hD
  refine lv_aload_n hx hb d_Meter_forget_5 rfl (lv_at hl 0 rfl) ?_
  refine lv_iconst (v := 0) hx hb d_Meter_forget_6 (by decide) ?_
  refine va_put (D := (dC, dI)) (ci := 1) (v := .int 0) (ty := .int) (C := R_Meter) (T := T_Meter) (N := 4) hx hb hT in_Meter ty_Meter tyo_Meter nm_Meter hown hK hP hD hS 0 rfl rfl 2 (by decide) (hT _ vt_251) (fun _ h9 => h9) rfl (by decide +kernel) rfl rfl (Nat.le_of_ble_eq_true rfl) d_Meter_forget_7 (fun H locs hP hD hS => ?_)
  have hP : va_P (dC, dI) classes [(me, .inr (1, [.int 0, .int 0, .int 0, .int 0]))] H := hP
  have hD : va_D A [(me, .inr (1, [.int 0, .int 0, .int 0, .int 0]))] := hD
  refine W.widen (k := 0) (n := 0) (Nat.le_of_ble_eq_true rfl) (Nat.le_of_ble_eq_true rfl) ?_
  have hP9 := hP.sub (ws' := [(me, .inr (1, [.int 0, .int 0, .int 0, .int 0]))]) [0] rfl
  have hD9 := hD.sub (ws' := [(me, .inr (1, [.int 0, .int 0, .int 0, .int 0]))]) [0] (by decide) rfl
  have hK9 := hK.sub (tys' := []) [] rfl
  exact W.vret hx hb hr (fun t ht hW => ⟨⟨(), rfl, trivial, by rw [ht]; exact hP9, va_K.moved hW.alike hK9, hD9⟩, hS.F ht⟩) hS.2.2 d_Meter_forget_10
set_option maxHeartbeats 4000000 in
set_option maxRecDepth 100000 in
/-- Meter.code -/
theorem c_Meter_code (l : Launch) (dC : Nat → ClassId) (dI : Nat → Nat → Nat) (me : Nat) : Met l y_Meter_code w_Meter_code ({ frames := 10, cells := 0, slots := 0, locals := 300 }) (Pp dC dI [.ref me] [(me, .inr (1, [.int 0, .int 0, .int 0, .int 0]))] []) (QcRead 0) 0 0 (fun _ => False) := by
  refine Met.ofW (cc := b_Meter_code) (maxL := 1) (ret := (some .int)) (by decide) rfl ?_
  intro p e s m args below meth c s₁ B hml hv
  obtain ⟨rfl, hP, hK⟩ := hv
  have hx := B.exec
  have hb := B.bytes
  have hr := B.returns
  have hT : ∀ w ∈ vT, w.before _ s = true := fun w h => atoms_spec (ws := w_Meter_code) B.pre w (List.mem_cons_of_mem _ h)
  have hown : s.vm.findClass R_Meter = some m.cls := findClass_of_methodNamed B.named
  have hlocks := B.notSynchronized
  have hP : va_P (dC, dI) classes [(me, .inr (1, [.int 0, .int 0, .int 0, .int 0]))] s.heap := hP
  have hl := lv_entry ([.ref me]) (n := 1) (Nat.le_of_ble_eq_true rfl)
  rw [lg_entry_eq]
  generalize (lg_sl ([.ref me]) ++ List.replicate (1 - (lg_sl ([.ref me])).length) Slot.unset).toArray = ls at hl ⊢
  have hl : lv_has ls 1 [(0, .ref me)] := hl
  refine lv_aload_n hx hb d_Meter_code_0 rfl (lv_at hl 0 rfl) ?_
  refine va_get (D := (dC, dI)) (ci := 1) (v := .int 0) (C := R_Meter) (T := T_Meter) (N := 4) hx hb hT in_Meter hown hK hP 0 rfl rfl 1 (by decide) (hT _ vt_250) (fun _ h9 => h9) rfl d_Meter_code_1 ?_
  exact W.iret (v := 0) hx hb hr (fun t ht hW => ⟨rfl, ht⟩) (fun _ h => nomatch h) d_Meter_code_4
set_option maxHeartbeats 4000000 in
set_option maxRecDepth 100000 in
/-- Meter.place -/
theorem c_Meter_place (l : Launch) (dC : Nat → ClassId) (dI : Nat → Nat → Nat) (me : Nat) : Met l y_Meter_place w_Meter_place ({ frames := 10, cells := 0, slots := 0, locals := 300 }) (Pp dC dI [.ref me] [(me, .inr (1, [.int 0, .int 0, .int 0, .int 0]))] []) (QcRead 0) 0 0 (fun _ => False) := by
  refine Met.ofW (cc := b_Meter_place) (maxL := 1) (ret := (some .int)) (by decide) rfl ?_
  intro p e s m args below meth c s₁ B hml hv
  obtain ⟨rfl, hP, hK⟩ := hv
  have hx := B.exec
  have hb := B.bytes
  have hr := B.returns
  have hT : ∀ w ∈ vT, w.before _ s = true := fun w h => atoms_spec (ws := w_Meter_place) B.pre w (List.mem_cons_of_mem _ h)
  have hown : s.vm.findClass R_Meter = some m.cls := findClass_of_methodNamed B.named
  have hlocks := B.notSynchronized
  have hP : va_P (dC, dI) classes [(me, .inr (1, [.int 0, .int 0, .int 0, .int 0]))] s.heap := hP
  have hl := lv_entry ([.ref me]) (n := 1) (Nat.le_of_ble_eq_true rfl)
  rw [lg_entry_eq]
  generalize (lg_sl ([.ref me]) ++ List.replicate (1 - (lg_sl ([.ref me])).length) Slot.unset).toArray = ls at hl ⊢
  have hl : lv_has ls 1 [(0, .ref me)] := hl
  refine lv_aload_n hx hb d_Meter_place_0 rfl (lv_at hl 0 rfl) ?_
  refine va_get (D := (dC, dI)) (ci := 1) (v := .int 0) (C := R_Meter) (T := T_Meter) (N := 4) hx hb hT in_Meter hown hK hP 0 rfl rfl 2 (by decide) (hT _ vt_251) (fun _ h9 => h9) rfl d_Meter_place_1 ?_
  exact W.iret (v := 0) hx hb hr (fun t ht hW => ⟨rfl, ht⟩) (fun _ h => nomatch h) d_Meter_place_4
set_option maxHeartbeats 4000000 in
set_option maxRecDepth 100000 in
/-- Environment.length -/
theorem c_Env_length (l : Launch) (dC : Nat → ClassId) (dI : Nat → Nat → Nat) (en fc fa nn : Nat) : Met l y_Env_length w_Env_length ({ frames := 20, cells := 0, slots := 0, locals := 600 }) (Pp dC dI [.ref en] [(en, .inr (3, [.ref fc, .ref nn, .int 0])), (fc, .inr (0, [.int 16777216, .ref fa, .int 0]))] []) (QcRead 0) 0 0 (fun _ => False) := by
  refine Met.ofW (cc := b_Env_length) (maxL := 1) (ret := (some .int)) (by decide) rfl ?_
  intro p e s m args below meth c s₁ B hml hv
  obtain ⟨rfl, hP, hK⟩ := hv
  have hx := B.exec
  have hb := B.bytes
  have hr := B.returns
  have hT : ∀ w ∈ vT, w.before _ s = true := fun w h => atoms_spec (ws := w_Env_length) B.pre w (List.mem_cons_of_mem _ h)
  have hown : s.vm.findClass R_Env = some m.cls := findClass_of_methodNamed B.named
  have hlocks := B.notSynchronized
  have hP : va_P (dC, dI) classes [(en, .inr (3, [.ref fc, .ref nn, .int 0])), (fc, .inr (0, [.int 16777216, .ref fa, .int 0]))] s.heap := hP
  have hl := lv_entry ([.ref en]) (n := 1) (Nat.le_of_ble_eq_true rfl)
  rw [lg_entry_eq]
  generalize (lg_sl ([.ref en]) ++ List.replicate (1 - (lg_sl ([.ref en])).length) Slot.unset).toArray = ls at hl ⊢
  have hl : lv_has ls 1 [(0, .ref en)] := hl
  refine lv_aload_n hx hb d_Env_length_0 rfl (lv_at hl 0 rfl) ?_
  refine va_get (D := (dC, dI)) (ci := 3) (v := .ref fc) (C := R_Env) (T := T_Env) (N := 3) hx hb hT in_Env hown hK hP 0 rfl rfl 0 (by decide) (hT _ vt_16) (fun _ h9 => h9) rfl d_Env_length_1 ?_
  refine W.callR (W.runV (As := []) (rest := []) ⟨hx, hb, hml, hown, hT⟩ (c_Row_size l dC dI fc fa 16777216 0) (cwV 0 hT (gV vt_252 vt_253 vt_254 vt_11 vt_255) rfl rfl rfl (by decide +kernel) ⟨Nat.le_of_ble_eq_true rfl, Nat.le_of_ble_eq_true rfl⟩) ⟨Pp_blind, va_recv hK hP (ci := 0) (q0 := 1) rfl rfl, Pp_of (hP.sub (ws' := [(fc, .inr (0, [.int 16777216, .ref fa, .int 0]))]) [1] rfl) (hK.sub (tys' := []) [] rfl)⟩ rfl rfl hl.1 rfl (lv_room (Nat.le_of_ble_eq_true rfl)) d_Env_length_4 ⟨Nat.le_of_ble_eq_true rfl, Nat.le_of_ble_eq_true rfl⟩) ?_
  refine W.eq (g2 := F0 m 7 ls [.int 0]) rfl ?_
  refine lv_bipush (v := 12) hx hb d_Env_length_7 (by decide) ?_
  refine lv_idiv hx hb d_Env_length_9 (by decide) ?_
  refine lv_topi (fun x_1 ex_1 => ?_)
  obtain rfl : x_1 = 0 := by rw [ex_1]; decide
  exact W.iret (v := 0) hx hb hr (fun t ht hW => ⟨rfl, ht⟩) (fun _ h => nomatch h) d_Env_length_10
set_option maxHeartbeats 4000000 in
set_option maxRecDepth 100000 in
/-- Environment.sizes -/
theorem c_Env_sizes (l : Launch) (dC : Nat → ClassId) (dI : Nat → Nat → Nat) (en fc nn : Nat) : Met l y_Env_sizes w_Env_sizes ({ frames := 10, cells := 0, slots := 0, locals := 300 }) (Pp dC dI [.ref en] [(en, .inr (3, [.ref fc, .ref nn, .int 0]))] []) (QcRead 0) 0 0 (fun _ => False) := by
  refine Met.ofW (cc := b_Env_sizes) (maxL := 1) (ret := (some .int)) (by decide) rfl ?_
  intro p e s m args below meth c s₁ B hml hv
  obtain ⟨rfl, hP, hK⟩ := hv
  have hx := B.exec
  have hb := B.bytes
  have hr := B.returns
  have hT : ∀ w ∈ vT, w.before _ s = true := fun w h => atoms_spec (ws := w_Env_sizes) B.pre w (List.mem_cons_of_mem _ h)
  have hown : s.vm.findClass R_Env = some m.cls := findClass_of_methodNamed B.named
  have hlocks := B.notSynchronized
  have hP : va_P (dC, dI) classes [(en, .inr (3, [.ref fc, .ref nn, .int 0]))] s.heap := hP
  have hl := lv_entry ([.ref en]) (n := 1) (Nat.le_of_ble_eq_true rfl)
  rw [lg_entry_eq]
  generalize (lg_sl ([.ref en]) ++ List.replicate (1 - (lg_sl ([.ref en])).length) Slot.unset).toArray = ls at hl ⊢
  have hl : lv_has ls 1 [(0, .ref en)] := hl
  refine lv_aload_n hx hb d_Env_sizes_0 rfl (lv_at hl 0 rfl) ?_
  refine va_get (D := (dC, dI)) (ci := 3) (v := .int 0) (C := R_Env) (T := T_Env) (N := 3) hx hb hT in_Env hown hK hP 0 rfl rfl 2 (by decide) (hT _ vt_256) (fun _ h9 => h9) rfl d_Env_sizes_1 ?_
  exact W.iret (v := 0) hx hb hr (fun t ht hW => ⟨rfl, ht⟩) (fun _ h => nomatch h) d_Env_sizes_4
set_option maxHeartbeats 4000000 in
set_option maxRecDepth 100000 in
/-- Environment.cut(0) -/
theorem c_Env_cut (l : Launch) (dC : Nat → ClassId) (dI : Nat → Nat → Nat) (en fc fa nn : Nat) : Met l y_Env_cut w_Env_cut ({ frames := 30, cells := 0, slots := 0, locals := 900 }) (Pp dC dI [.ref en, .int 0] [(en, .inr (3, [.ref fc, .ref nn, .int 0])), (fc, .inr (0, [.int 16777216, .ref fa, .int 0]))] []) (vx_QU) 0 0 (fun _ => False) := by
  refine Met.ofW (cc := b_Env_cut) (maxL := 2) (ret := none) (by decide) rfl ?_
  intro p e s m args below meth c s₁ B hml hv
  obtain ⟨rfl, hP, hK⟩ := hv
  have hx := B.exec
  have hb := B.bytes
  have hr := B.returns
  have hT : ∀ w ∈ vT, w.before _ s = true := fun w h => atoms_spec (ws := w_Env_cut) B.pre w (List.mem_cons_of_mem _ h)
  have hown : s.vm.findClass R_Env = some m.cls := findClass_of_methodNamed B.named
  have hlocks := B.notSynchronized
  have hP : va_P (dC, dI) classes [(en, .inr (3, [.ref fc, .ref nn, .int 0])), (fc, .inr (0, [.int 16777216, .ref fa, .int 0]))] s.heap := hP
  have hl := lv_entry ([.ref en, .int 0]) (n := 2) (Nat.le_of_ble_eq_true rfl)
  rw [lg_entry_eq]
  generalize (lg_sl ([.ref en, .int 0]) ++ List.replicate (2 - (lg_sl ([.ref en, .int 0])).length) Slot.unset).toArray = ls at hl ⊢
  have hl : lv_has ls 2 [(0, .ref en), (1, .int 0)] := hl
  refine lv_iload_n hx hb d_Env_cut_0 rfl (lv_at hl 1 rfl) ?_
  refine lv_aload_n hx hb d_Env_cut_1 rfl (lv_at hl 0 rfl) ?_
  refine W.callR (W.runV (As := []) (rest := [.int 0]) ⟨hx, hb, hml, hown, hT⟩ (c_Env_length l dC dI en fc fa nn) (cwV 0 hT (gV vt_257 vt_258 vt_259 vt_114 vt_260) rfl rfl rfl (by decide +kernel) ⟨Nat.le_of_ble_eq_true rfl, Nat.le_of_ble_eq_true rfl⟩) ⟨Pp_blind, va_recv hK hP (ci := 3) (q0 := 0) rfl rfl, Pp_of (hP.sub (ws' := [(en, .inr (3, [.ref fc, .ref nn, .int 0])), (fc, .inr (0, [.int 16777216, .ref fa, .int 0]))]) [0, 1] rfl) (hK.sub (tys' := []) [] rfl)⟩ rfl rfl hl.1 rfl (lv_room (Nat.le_of_ble_eq_true rfl)) d_Env_cut_2 ⟨Nat.le_of_ble_eq_true rfl, Nat.le_of_ble_eq_true rfl⟩) ?_
  refine W.eq (g2 := F0 m 5 ls [.int 0, .int 0]) rfl ?_
  refine lv_icmp_ge (tgt := 36) hx hb d_Env_cut_5 (by decide) (fun c_1 => ?_) (fun c_1 => absurd (by decide) c_1)
  exact W.vret hx hb hr (fun t ht hW => ⟨rfl, ht⟩) (fun _ h => nomatch h) d_Env_cut_36
set_option maxHeartbeats 4000000 in
set_option maxRecDepth 100000 in
/-- Environment.clear -/
theorem c_Env_clear (l : Launch) (dC : Nat → ClassId) (dI : Nat → Nat → Nat) (sz : Nat) (en fc fa nn : Nat) : Met l y_Env_clear w_Env_clear ({ frames := 40, cells := 0, slots := 0, locals := 1200 }) (Pw dC dI [.ref en] sz [(en, .inr (3, [.ref fc, .ref nn, .int 0])), (fc, .inr (0, [.int 16777216, .ref fa, .int 0]))] []) (va_Qv (fun _ : Unit => True) (fun _ t => va_P (dC, dI) classes [(en, .inr (3, [.ref fc, .ref nn, .int 0])), (fc, .inr (0, [.int 16777216, .ref fa, .int 0]))] t.heap ∧ va_K (dC, dI) classes [] t ∧ va_D (va_A [(en, .inr (3, [.ref fc, .ref nn, .int 0])), (fc, .inr (0, [.int 16777216, .ref fa, .int 0]))] sz) [(en, .inr (3, [.ref fc, .ref nn, .int 0])), (fc, .inr (0, [.int 16777216, .ref fa, .int 0]))]) (va_A [(en, .inr (3, [.ref fc, .ref nn, .int 0])), (fc, .inr (0, [.int 16777216, .ref fa, .int 0]))] sz)) 0 0 (va_A [(en, .inr (3, [.ref fc, .ref nn, .int 0])), (fc, .inr (0, [.int 16777216, .ref fa, .int 0]))] sz) := by
  refine Met.ofW (cc := b_Env_clear) (maxL := 1) (ret := none) (by decide) rfl ?_
  intro p e s m args below meth c s₁ B hml hv
  obtain ⟨rfl, hsz, hP, hK, hD0⟩ := hv
  have hx := B.exec
  have hb := B.bytes
  have hr := B.returns
  have hT : ∀ w ∈ vT, w.before _ s = true := fun w h => atoms_spec (ws := w_Env_clear) B.pre w (List.mem_cons_of_mem _ h)
  have hown : s.vm.findClass R_Env = some m.cls := findClass_of_methodNamed B.named
  have hlocks := B.notSynchronized
  subst hsz
  have hD := hD0.self (sz := s.heap.size)
  generalize hAe : va_A [(en, .inr (3, [.ref fc, .ref nn, .int 0])), (fc, .inr (0, [.int 16777216, .ref fa, .int 0]))] s.heap.size = A at hD ⊢
  have hA : ∀ q : Nat, s.heap.size ≤ q → A q := fun q h => by rw [← hAe]; exact Or.inr h
  have hS : va_S A s.heap s.heap [] := va_S.rf
  have hP : va_P (dC, dI) classes [(en, .inr (3, [.ref fc, .ref nn, .int 0])), (fc, .inr (0, [.int 16777216, .ref fa, .int 0]))] s.heap := hP
  have hl := lv_entry ([.ref en]) (n := 1) (Nat.le_of_ble_eq_true rfl)
  rw [lg_entry_eq]
  generalize (lg_sl ([.ref en]) ++ List.replicate (1 - (lg_sl ([.ref en])).length) Slot.unset).toArray = ls at hl ⊢
  have hl : lv_has ls 1 [(0, .ref en)] := hl
  refine lv_aload_n hx hb d_Env_clear_0 rfl (lv_at hl 0 rfl) ?_
  refine lv_iconst (v := 0) hx hb d_Env_clear_1 (by decide) ?_
  refine vx_callU (W.runV (As := [.int 0]) (rest := []) ⟨hx, hb, hml, hown, hT⟩ (c_Env_cut l dC dI en fc fa nn) (cwV 1 hT (gV vt_261 vt_262 vt_263 vt_114 vt_264) rfl rfl rfl (by decide +kernel) ⟨Nat.le_of_ble_eq_true rfl, Nat.le_of_ble_eq_true rfl⟩) ⟨Pp_blind, va_recv hK hP (ci := 3) (q0 := 0) rfl rfl, Pp_of (hP.sub (ws' := [(en, .inr (3, [.ref fc, .ref nn, .int 0])), (fc, .inr (0, [.int 16777216, .ref fa, .int 0]))]) [0, 1] rfl) (hK.sub (tys' := []) [] rfl)⟩ rfl rfl hl.1 rfl (lv_room (Nat.le_of_ble_eq_true rfl)) d_Env_clear_2 ⟨Nat.le_of_ble_eq_true rfl, Nat.le_of_ble_eq_true rfl⟩) ?_
  refine W.eq (g2 := F0 m 5 ls []) rfl ?_
  refine lv_aload_n hx hb d_Env_clear_5 rfl (lv_at hl 0 rfl) ?_
  refine lv_iconst (v := 0) hx hb d_Env_clear_6 (by decide) ?_
  refine va_put (D := (dC, dI)) (ci := 3) (v := .int 0) (ty := .int) (C := R_Env) (T := T_Env) (N := 3) hx hb hT in_Env ty_Env tyo_Env nm_Env hown hK hP hD hS 0 rfl rfl 2 (by decide) (hT _ vt_256) (fun _ h9 => h9) rfl (by decide +kernel) rfl rfl (Nat.le_of_ble_eq_true rfl) d_Env_clear_7 (fun H locs hP hD hS => ?_)
  have hP : va_P (dC, dI) classes [(en, .inr (3, [.ref fc, .ref nn, .int 0])), (fc, .inr (0, [.int 16777216, .ref fa, .int 0]))] H := hP
  have hD : va_D A [(en, .inr (3, [.ref fc, .ref nn, .int 0])), (fc, .inr (0, [.int 16777216, .ref fa, .int 0]))] := hD
  refine W.widen (k := 0) (n := 0) (Nat.le_of_ble_eq_true rfl) (Nat.le_of_ble_eq_true rfl) ?_
  have hP9 := hP.sub (ws' := [(en, .inr (3, [.ref fc, .ref nn, .int 0])), (fc, .inr (0, [.int 16777216, .ref fa, .int 0]))]) [0, 1] rfl
  have hD9 := hD.sub (ws' := [(en, .inr (3, [.ref fc, .ref nn, .int 0])), (fc, .inr (0, [.int 16777216, .ref fa, .int 0]))]) [0, 1] (by decide) rfl
  have hK9 := hK.sub (tys' := []) [] rfl
  exact W.vret hx hb hr (fun t ht hW => ⟨⟨(), rfl, trivial, by rw [ht]; exact hP9, va_K.moved hW.alike hK9, hD9⟩, hS.F ht⟩) hS.2.2 d_Env_clear_10
set_option maxHeartbeats 4000000 in
set_option maxRecDepth 100000 in
/-- Terms.release(0) -/
theorem c_Terms_release (l : Launch) (dC : Nat → ClassId) (dI : Nat → Nat → Nat) (te me t1 t2 t3 t4 t5 t6 t7 t8 : Nat) : Met l y_Terms_release w_Terms_release ({ frames := 10, cells := 0, slots := 0, locals := 300 }) (Pp dC dI [.ref te, .int 0] [(te, .inr (2, [.ref me, .ref t1, .ref t2, .ref t3, .ref t4, .ref t5, .ref t6, .ref t7, .ref t8, .int 0]))] []) (vx_QU) 0 0 (fun _ => False) := by
  refine Met.ofW (cc := b_Terms_release) (maxL := 3) (ret := none) (by decide) rfl ?_
  intro p e s m args below meth c s₁ B hml hv
  obtain ⟨rfl, hP, hK⟩ := hv
  have hx := B.exec
  have hb := B.bytes
  have hr := B.returns
  have hT : ∀ w ∈ vT, w.before _ s = true := fun w h => atoms_spec (ws := w_Terms_release) B.pre w (List.mem_cons_of_mem _ h)
  have hown : s.vm.findClass R_Terms = some m.cls := findClass_of_methodNamed B.named
  have hlocks := B.notSynchronized
  have hP : va_P (dC, dI) classes [(te, .inr (2, [.ref me, .ref t1, .ref t2, .ref t3, .ref t4, .ref t5, .ref t6, .ref t7, .ref t8, .int 0]))] s.heap := hP
  have hl := lv_entry ([.ref te, .int 0]) (n := 3) (Nat.le_of_ble_eq_true rfl)
  rw [lg_entry_eq]
  generalize (lg_sl ([.ref te, .int 0]) ++ List.replicate (3 - (lg_sl ([.ref te, .int 0])).length) Slot.unset).toArray = ls at hl ⊢
  have hl : lv_has ls 3 [(0, .ref te), (1, .int 0)] := hl
  refine lv_aload_n hx hb d_Terms_release_0 rfl (lv_at hl 0 rfl) ?_
  refine va_get (D := (dC, dI)) (ci := 2) (v := .int 0) (C := R_Terms) (T := T_Terms) (N := 10) hx hb hT in_Terms hown hK hP 0 rfl rfl 9 (by decide) (hT _ vt_265) (fun _ h9 => h9) rfl d_Terms_release_1 ?_
  refine lv_iconst (v := 1) hx hb d_Terms_release_4 (by decide) ?_
  refine lv_isub hx hb d_Terms_release_5 ?_
  refine lv_topi (fun x_1 ex_1 => ?_)
  obtain rfl : x_1 = (-1) := by rw [ex_1]; decide
  refine lv_istore_n (lv' := [(2, .int (-1)), (0, .ref te), (1, .int 0)]) hx hb d_Terms_release_6 rfl hl (by decide) rfl (fun ls hl => ?_)
  refine lv_iload_n hx hb d_Terms_release_7 rfl (lv_at hl 0 rfl) ?_
  refine lv_iload_n hx hb d_Terms_release_8 rfl (lv_at hl 2 rfl) ?_
  refine lv_icmp_lt (tgt := 54) hx hb d_Terms_release_9 (by decide) (fun c_2 => ?_) (fun c_2 => absurd (by decide) c_2)
  refine lv_iload_n hx hb d_Terms_release_54 rfl (lv_at hl 2 rfl) ?_
  refine lv_if_lt (tgt := 71) hx hb d_Terms_release_55 (by decide) (fun c_3 => absurd c_3 (by decide)) (fun c_3 => ?_)
  refine lv_iload_n hx hb d_Terms_release_58 rfl (lv_at hl 2 rfl) ?_
  refine lv_aload_n hx hb d_Terms_release_59 rfl (lv_at hl 1 rfl) ?_
  refine va_get (D := (dC, dI)) (ci := 2) (v := .int 0) (C := R_Terms) (T := T_Terms) (N := 10) hx hb hT in_Terms hown hK hP 0 rfl rfl 9 (by decide) (hT _ vt_265) (fun _ h9 => h9) rfl d_Terms_release_60 ?_
  refine lv_icmp_ge (tgt := 71) hx hb d_Terms_release_63 (by decide) (fun c_4 => ?_) (fun c_4 => absurd (by decide) c_4)
  exact W.vret hx hb hr (fun t ht hW => ⟨rfl, ht⟩) (fun _ h => nomatch h) d_Terms_release_71
set_option maxHeartbeats 4000000 in
set_option maxRecDepth 100000 in
/-- Lexer.kind -/
theorem c_Lex_kind (l : Launch) (dC : Nat → ClassId) (dI : Nat → Nat → Nat) (lx tp tk : Nat) : Met l y_Lex_kind w_Lex_kind ({ frames := 10, cells := 0, slots := 0, locals := 300 }) (Pp dC dI [.ref lx] [(lx, .inr (4, [.ref tp, .ref tk, .int 0, .int 0, .int 0, .int 0, .int 0]))] []) (QcRead 0) 0 0 (fun _ => False) := by
  refine Met.ofW (cc := b_Lex_kind) (maxL := 1) (ret := (some .int)) (by decide) rfl ?_
  intro p e s m args below meth c s₁ B hml hv
  obtain ⟨rfl, hP, hK⟩ := hv
  have hx := B.exec
  have hb := B.bytes
  have hr := B.returns
  have hT : ∀ w ∈ vT, w.before _ s = true := fun w h => atoms_spec (ws := w_Lex_kind) B.pre w (List.mem_cons_of_mem _ h)
  have hown : s.vm.findClass R_Lex = some m.cls := findClass_of_methodNamed B.named
  have hlocks := B.notSynchronized
  have hP : va_P (dC, dI) classes [(lx, .inr (4, [.ref tp, .ref tk, .int 0, .int 0, .int 0, .int 0, .int 0]))] s.heap := hP
  have hl := lv_entry ([.ref lx]) (n := 1) (Nat.le_of_ble_eq_true rfl)
  rw [lg_entry_eq]
  generalize (lg_sl ([.ref lx]) ++ List.replicate (1 - (lg_sl ([.ref lx])).length) Slot.unset).toArray = ls at hl ⊢
  have hl : lv_has ls 1 [(0, .ref lx)] := hl
  refine lv_aload_n hx hb d_Lex_kind_0 rfl (lv_at hl 0 rfl) ?_
  refine va_get (D := (dC, dI)) (ci := 4) (v := .int 0) (C := R_Lex) (T := T_Lex) (N := 7) hx hb hT in_Lex hown hK hP 0 rfl rfl 4 (by decide) (hT _ vt_266) (fun _ h9 => h9) rfl d_Lex_kind_1 ?_
  exact W.iret (v := 0) hx hb hr (fun t ht hW => ⟨rfl, ht⟩) (fun _ h => nomatch h) d_Lex_kind_4
set_option maxHeartbeats 4000000 in
set_option maxRecDepth 100000 in
/-- Lexer.named -/
theorem c_Lex_named (l : Launch) (dC : Nat → ClassId) (dI : Nat → Nat → Nat)  : Met l y_Lex_named w_Lex_named ({ frames := 10, cells := 0, slots := 0, locals := 300 }) (Pp dC dI [.int 0, .int 0] [] []) (QcRead 0) 0 0 (fun _ => False) := by
  refine Met.ofW (cc := b_Lex_named) (maxL := 2) (ret := (some .int)) (by decide) rfl ?_
  intro p e s m args below meth c s₁ B hml hv
  obtain ⟨rfl, hP, hK⟩ := hv
  have hx := B.exec
  have hb := B.bytes
  have hr := B.returns
  have hT : ∀ w ∈ vT, w.before _ s = true := fun w h => atoms_spec (ws := w_Lex_named) B.pre w (List.mem_cons_of_mem _ h)
  have hown : s.vm.findClass R_Lex = some m.cls := findClass_of_methodNamed B.named
  have hlocks := B.notSynchronized
  have hP : va_P (dC, dI) classes [] s.heap := hP
  have hl := lv_entry ([.int 0, .int 0]) (n := 2) (Nat.le_of_ble_eq_true rfl)
  rw [lg_entry_eq]
  generalize (lg_sl ([.int 0, .int 0]) ++ List.replicate (2 - (lg_sl ([.int 0, .int 0])).length) Slot.unset).toArray = ls at hl ⊢
  have hl : lv_has ls 2 [(0, .int 0), (1, .int 0)] := hl
  refine lv_iload_n hx hb d_Lex_named_0 rfl (lv_at hl 0 rfl) ?_
  refine lv_bipush (v := 32) hx hb d_Lex_named_1 (by decide) ?_
  refine lv_imul hx hb d_Lex_named_3 ?_
  refine lv_topi (fun x_1 ex_1 => ?_)
  obtain rfl : x_1 = 0 := by rw [ex_1]; decide
  refine lv_iload_n hx hb d_Lex_named_4 rfl (lv_at hl 1 rfl) ?_
  refine lv_iadd hx hb d_Lex_named_5 ?_
  refine lv_topi (fun x_2 ex_2 => ?_)
  obtain rfl : x_2 = 0 := by rw [ex_2]; decide
  exact W.iret (v := 0) hx hb hr (fun t ht hW => ⟨rfl, ht⟩) (fun _ h => nomatch h) d_Lex_named_6
set_option maxHeartbeats 4000000 in
set_option maxRecDepth 100000 in
/-- Lexer.skip, no text -/
theorem c_Lex_skip (l : Launch) (dC : Nat → ClassId) (dI : Nat → Nat → Nat) (lx tp tk ta : Nat) : Met l y_Lex_skip w_Lex_skip ({ frames := 20, cells := 0, slots := 0, locals := 600 }) (Pp dC dI [.ref lx] [(lx, .inr (4, [.ref tp, .ref tk, .int 0, .int 0, .int 1, .int 0, .int 0])), (tp, .inr (0, [.int 65536, .ref ta, .int 0]))] []) (vx_QU) 0 0 (fun _ => False) := by
  refine Met.ofW (cc := b_Lex_skip) (maxL := 3) (ret := none) (by decide) rfl ?_
  intro p e s m args below meth c s₁ B hml hv
  obtain ⟨rfl, hP, hK⟩ := hv
  have hx := B.exec
  have hb := B.bytes
  have hr := B.returns
  have hT : ∀ w ∈ vT, w.before _ s = true := fun w h => atoms_spec (ws := w_Lex_skip) B.pre w (List.mem_cons_of_mem _ h)
  have hown : s.vm.findClass R_Lex = some m.cls := findClass_of_methodNamed B.named
  have hlocks := B.notSynchronized
  have hP : va_P (dC, dI) classes [(lx, .inr (4, [.ref tp, .ref tk, .int 0, .int 0, .int 1, .int 0, .int 0])), (tp, .inr (0, [.int 65536, .ref ta, .int 0]))] s.heap := hP
  have hl := lv_entry ([.ref lx]) (n := 3) (Nat.le_of_ble_eq_true rfl)
  rw [lg_entry_eq]
  generalize (lg_sl ([.ref lx]) ++ List.replicate (3 - (lg_sl ([.ref lx])).length) Slot.unset).toArray = ls at hl ⊢
  have hl : lv_has ls 3 [(0, .ref lx)] := hl
  refine lv_iconst (v := 0) hx hb d_Lex_skip_0 (by decide) ?_
  refine lv_istore_n (lv' := [(1, .int 0), (0, .ref lx)]) hx hb d_Lex_skip_1 rfl hl (by decide) rfl (fun ls hl => ?_)
  refine lv_aload_n hx hb d_Lex_skip_2 rfl (lv_at hl 1 rfl) ?_
  refine va_get (D := (dC, dI)) (ci := 4) (v := .int 0) (C := R_Lex) (T := T_Lex) (N := 7) hx hb hT in_Lex hown hK hP 0 rfl rfl 2 (by decide) (hT _ vt_267) (fun _ h9 => h9) rfl d_Lex_skip_3 ?_
  refine lv_aload_n hx hb d_Lex_skip_6 rfl (lv_at hl 1 rfl) ?_
  refine va_get (D := (dC, dI)) (ci := 4) (v := .ref tp) (C := R_Lex) (T := T_Lex) (N := 7) hx hb hT in_Lex hown hK hP 0 rfl rfl 0 (by decide) (hT _ vt_19) (fun _ h9 => h9) rfl d_Lex_skip_7 ?_
  refine W.callR (W.runV (As := []) (rest := [.int 0]) ⟨hx, hb, hml, hown, hT⟩ (c_Row_size l dC dI tp ta 65536 0) (cwV 0 hT (gV vt_268 vt_253 vt_254 vt_11 vt_255) rfl rfl rfl (by decide +kernel) ⟨Nat.le_of_ble_eq_true rfl, Nat.le_of_ble_eq_true rfl⟩) ⟨Pp_blind, va_recv hK hP (ci := 0) (q0 := 1) rfl rfl, Pp_of (hP.sub (ws' := [(tp, .inr (0, [.int 65536, .ref ta, .int 0]))]) [1] rfl) (hK.sub (tys' := []) [] rfl)⟩ rfl rfl hl.1 rfl (lv_room (Nat.le_of_ble_eq_true rfl)) d_Lex_skip_10 ⟨Nat.le_of_ble_eq_true rfl, Nat.le_of_ble_eq_true rfl⟩) ?_
  refine W.eq (g2 := F0 m 13 ls [.int 0, .int 0]) rfl ?_
  refine lv_icmp_ge (tgt := 86) hx hb d_Lex_skip_13 (by decide) (fun c_1 => ?_) (fun c_1 => absurd (by decide) c_1)
  exact W.vret hx hb hr (fun t ht hW => ⟨rfl, ht⟩) (fun _ h => nomatch h) d_Lex_skip_86
set_option maxHeartbeats 4000000 in
set_option maxRecDepth 100000 in
/-- Lexer.scan, no text -/
theorem c_Lex_scan (l : Launch) (dC : Nat → ClassId) (dI : Nat → Nat → Nat) (sz : Nat) (lx tp tk ta : Nat) : Met l y_Lex_scan w_Lex_scan ({ frames := 30, cells := 0, slots := 0, locals := 900 }) (Pw dC dI [.ref lx] sz [(lx, .inr (4, [.ref tp, .ref tk, .int 0, .int 0, .int 1, .int 0, .int 0])), (tp, .inr (0, [.int 65536, .ref ta, .int 0]))] []) (va_Qv (fun _ : Unit => True) (fun _ t => va_P (dC, dI) classes [(lx, .inr (4, [.ref tp, .ref tk, .int 0, .int 0, .int 0, .int 0, .int 0])), (tp, .inr (0, [.int 65536, .ref ta, .int 0]))] t.heap ∧ va_K (dC, dI) classes [] t ∧ va_D (va_A [(lx, .inr (4, [.ref tp, .ref tk, .int 0, .int 0, .int 1, .int 0, .int 0])), (tp, .inr (0, [.int 65536, .ref ta, .int 0]))] sz) [(lx, .inr (4, [.ref tp, .ref tk, .int 0, .int 0, .int 0, .int 0, .int 0])), (tp, .inr (0, [.int 65536, .ref ta, .int 0]))]) (va_A [(lx, .inr (4, [.ref tp, .ref tk, .int 0, .int 0, .int 1, .int 0, .int 0])), (tp, .inr (0, [.int 65536, .ref ta, .int 0]))] sz)) 0 0 (va_A [(lx, .inr (4, [.ref tp, .ref tk, .int 0, .int 0, .int 1, .int 0, .int 0])), (tp, .inr (0, [.int 65536, .ref ta, .int 0]))] sz) := by
  refine Met.ofW (cc := b_Lex_scan) (maxL := 2) (ret := none) (by decide) rfl ?_
  intro p e s m args below meth c s₁ B hml hv
  obtain ⟨rfl, hsz, hP, hK, hD0⟩ := hv
  have hx := B.exec
  have hb := B.bytes
  have hr := B.returns
  have hT : ∀ w ∈ vT, w.before _ s = true := fun w h => atoms_spec (ws := w_Lex_scan) B.pre w (List.mem_cons_of_mem _ h)
  have hown : s.vm.findClass R_Lex = some m.cls := findClass_of_methodNamed B.named
  have hlocks := B.notSynchronized
  subst hsz
  have hD := hD0.self (sz := s.heap.size)
  generalize hAe : va_A [(lx, .inr (4, [.ref tp, .ref tk, .int 0, .int 0, .int 1, .int 0, .int 0])), (tp, .inr (0, [.int 65536, .ref ta, .int 0]))] s.heap.size = A at hD ⊢
  have hA : ∀ q : Nat, s.heap.size ≤ q → A q := fun q h => by rw [← hAe]; exact Or.inr h
  have hS : va_S A s.heap s.heap [] := va_S.rf
  have hP : va_P (dC, dI) classes [(lx, .inr (4, [.ref tp, .ref tk, .int 0, .int 0, .int 1, .int 0, .int 0])), (tp, .inr (0, [.int 65536, .ref ta, .int 0]))] s.heap := hP
  have hl := lv_entry ([.ref lx]) (n := 2) (Nat.le_of_ble_eq_true rfl)
  rw [lg_entry_eq]
  generalize (lg_sl ([.ref lx]) ++ List.replicate (2 - (lg_sl ([.ref lx])).length) Slot.unset).toArray = ls at hl ⊢
  have hl : lv_has ls 2 [(0, .ref lx)] := hl
  refine lv_aload_n hx hb d_Lex_scan_0 rfl (lv_at hl 0 rfl) ?_
  refine vx_callU (W.runV (As := []) (rest := []) ⟨hx, hb, hml, hown, hT⟩ (c_Lex_skip l dC dI lx tp tk ta) (cwV 0 hT (gV vt_269 vt_270 vt_271 vt_121 vt_272) rfl rfl rfl (by decide +kernel) ⟨Nat.le_of_ble_eq_true rfl, Nat.le_of_ble_eq_true rfl⟩) ⟨Pp_blind, va_recv hK hP (ci := 4) (q0 := 0) rfl rfl, Pp_of (hP.sub (ws' := [(lx, .inr (4, [.ref tp, .ref tk, .int 0, .int 0, .int 1, .int 0, .int 0])), (tp, .inr (0, [.int 65536, .ref ta, .int 0]))]) [0, 1] rfl) (hK.sub (tys' := []) [] rfl)⟩ rfl rfl hl.1 rfl (lv_room (Nat.le_of_ble_eq_true rfl)) d_Lex_scan_1 ⟨Nat.le_of_ble_eq_true rfl, Nat.le_of_ble_eq_true rfl⟩) ?_
  refine W.eq (g2 := F0 m 4 ls []) rfl ?_
  refine lv_aload_n hx hb d_Lex_scan_4 rfl (lv_at hl 0 rfl) ?_
  refine lv_aload_n hx hb d_Lex_scan_5 rfl (lv_at hl 0 rfl) ?_
  refine va_get (D := (dC, dI)) (ci := 4) (v := .int 0) (C := R_Lex) (T := T_Lex) (N := 7) hx hb hT in_Lex hown hK hP 0 rfl rfl 2 (by decide) (hT _ vt_267) (fun _ h9 => h9) rfl d_Lex_scan_6 ?_
  refine va_put (D := (dC, dI)) (ci := 4) (v := .int 0) (ty := .int) (C := R_Lex) (T := T_Lex) (N := 7) hx hb hT in_Lex ty_Lex tyo_Lex nm_Lex hown hK hP hD hS 0 rfl rfl 5 (by decide) (hT _ vt_273) (fun _ h9 => h9) rfl (by decide +kernel) rfl rfl (Nat.le_of_ble_eq_true rfl) d_Lex_scan_9 (fun H locs hP hD hS => ?_)
  have hP : va_P (dC, dI) classes [(lx, .inr (4, [.ref tp, .ref tk, .int 0, .int 0, .int 1, .int 0, .int 0])), (tp, .inr (0, [.int 65536, .ref ta, .int 0]))] H := hP
  have hD : va_D A [(lx, .inr (4, [.ref tp, .ref tk, .int 0, .int 0, .int 1, .int 0, .int 0])), (tp, .inr (0, [.int 65536, .ref ta, .int 0]))] := hD
  refine lv_aload_n hx hb d_Lex_scan_12 rfl (lv_at hl 0 rfl) ?_
  refine lv_iconst (v := 0) hx hb d_Lex_scan_13 (by decide) ?_
  refine va_put (D := (dC, dI)) (ci := 4) (v := .int 0) (ty := .int) (C := R_Lex) (T := T_Lex) (N := 7) hx hb hT in_Lex ty_Lex tyo_Lex nm_Lex hown hK hP hD hS 0 rfl rfl 6 (by decide) (hT _ vt_274) (fun _ h9 => h9) rfl (by decide +kernel) rfl rfl (Nat.le_of_ble_eq_true rfl) d_Lex_scan_14 (fun H locs hP hD hS => ?_)
  have hP : va_P (dC, dI) classes [(lx, .inr (4, [.ref tp, .ref tk, .int 0, .int 0, .int 1, .int 0, .int 0])), (tp, .inr (0, [.int 65536, .ref ta, .int 0]))] H := hP
  have hD : va_D A [(lx, .inr (4, [.ref tp, .ref tk, .int 0, .int 0, .int 1, .int 0, .int 0])), (tp, .inr (0, [.int 65536, .ref ta, .int 0]))] := hD
  refine lv_aload_n hx hb d_Lex_scan_17 rfl (lv_at hl 0 rfl) ?_
  refine va_get (D := (dC, dI)) (ci := 4) (v := .ref tp) (C := R_Lex) (T := T_Lex) (N := 7) hx hb hT in_Lex hown hK hP 0 rfl rfl 0 (by decide) (hT _ vt_19) (fun _ h9 => h9) rfl d_Lex_scan_18 ?_
  refine lv_aload_n hx hb d_Lex_scan_21 rfl (lv_at hl 0 rfl) ?_
  refine va_get (D := (dC, dI)) (ci := 4) (v := .int 0) (C := R_Lex) (T := T_Lex) (N := 7) hx hb hT in_Lex hown hK hP 0 rfl rfl 2 (by decide) (hT _ vt_267) (fun _ h9 => h9) rfl d_Lex_scan_22 ?_
  refine W.callR (W.runV (As := [.int 0]) (rest := []) ⟨hx, hb, hml, hown, hT⟩ (c_Row_at0 l dC dI tp ta 65536 0 0 (by decide) (by decide)) (cwV 1 hT (gV vt_275 vt_276 vt_277 vt_11 vt_278) rfl rfl rfl (by decide +kernel) ⟨Nat.le_of_ble_eq_true rfl, Nat.le_of_ble_eq_true rfl⟩) ⟨Pp_blind, va_recv hK hP (ci := 0) (q0 := 1) rfl rfl, Pp_of (hP.sub (ws' := [(tp, .inr (0, [.int 65536, .ref ta, .int 0]))]) [1] rfl) (hK.sub (tys' := []) [] rfl)⟩ rfl rfl hl.1 rfl (lv_room (Nat.le_of_ble_eq_true rfl)) d_Lex_scan_25 ⟨Nat.le_of_ble_eq_true rfl, Nat.le_of_ble_eq_true rfl⟩) ?_
  refine W.eq (g2 := F0 m 28 ls [.int 0]) rfl ?_
  refine lv_istore_n (lv' := [(1, .int 0), (0, .ref lx)]) hx hb d_Lex_scan_28 rfl hl (by decide) rfl (fun ls hl => ?_)
  refine lv_aload_n hx hb d_Lex_scan_29 rfl (lv_at hl 1 rfl) ?_
  refine va_get (D := (dC, dI)) (ci := 4) (v := .int 0) (C := R_Lex) (T := T_Lex) (N := 7) hx hb hT in_Lex hown hK hP 0 rfl rfl 2 (by decide) (hT _ vt_267) (fun _ h9 => h9) rfl d_Lex_scan_30 ?_
  refine lv_aload_n hx hb d_Lex_scan_33 rfl (lv_at hl 1 rfl) ?_
  refine va_get (D := (dC, dI)) (ci := 4) (v := .ref tp) (C := R_Lex) (T := T_Lex) (N := 7) hx hb hT in_Lex hown hK hP 0 rfl rfl 0 (by decide) (hT _ vt_19) (fun _ h9 => h9) rfl d_Lex_scan_34 ?_
  refine W.callR (W.runV (As := []) (rest := [.int 0]) ⟨hx, hb, hml, hown, hT⟩ (c_Row_size l dC dI tp ta 65536 0) (cwV 0 hT (gV vt_268 vt_253 vt_254 vt_11 vt_255) rfl rfl rfl (by decide +kernel) ⟨Nat.le_of_ble_eq_true rfl, Nat.le_of_ble_eq_true rfl⟩) ⟨Pp_blind, va_recv hK hP (ci := 0) (q0 := 1) rfl rfl, Pp_of (hP.sub (ws' := [(tp, .inr (0, [.int 65536, .ref ta, .int 0]))]) [1] rfl) (hK.sub (tys' := []) [] rfl)⟩ rfl rfl hl.1 rfl (lv_room (Nat.le_of_ble_eq_true rfl)) d_Lex_scan_37 ⟨Nat.le_of_ble_eq_true rfl, Nat.le_of_ble_eq_true rfl⟩) ?_
  refine W.eq (g2 := F0 m 40 ls [.int 0, .int 0]) rfl ?_
  refine lv_icmp_lt (tgt := 51) hx hb d_Lex_scan_40 (by decide) (fun c_1 => absurd c_1 (by decide)) (fun c_1 => ?_)
  refine lv_aload_n hx hb d_Lex_scan_43 rfl (lv_at hl 1 rfl) ?_
  refine lv_iconst (v := 0) hx hb d_Lex_scan_44 (by decide) ?_
  refine va_put (D := (dC, dI)) (ci := 4) (v := .int 0) (ty := .int) (C := R_Lex) (T := T_Lex) (N := 7) hx hb hT in_Lex ty_Lex tyo_Lex nm_Lex hown hK hP hD hS 0 rfl rfl 4 (by decide) (hT _ vt_266) (fun _ h9 => h9) rfl (by decide +kernel) rfl rfl (Nat.le_of_ble_eq_true rfl) d_Lex_scan_45 (fun H locs hP hD hS => ?_)
  have hP : va_P (dC, dI) classes [(lx, .inr (4, [.ref tp, .ref tk, .int 0, .int 0, .int 0, .int 0, .int 0])), (tp, .inr (0, [.int 65536, .ref ta, .int 0]))] H := hP
  have hD : va_D A [(lx, .inr (4, [.ref tp, .ref tk, .int 0, .int 0, .int 0, .int 0, .int 0])), (tp, .inr (0, [.int 65536, .ref ta, .int 0]))] := hD
  refine lv_goto (tgt := 97) hx hb d_Lex_scan_48 (by decide) ?_
  refine W.widen (k := 0) (n := 0) (Nat.le_of_ble_eq_true rfl) (Nat.le_of_ble_eq_true rfl) ?_
  have hP9 := hP.sub (ws' := [(lx, .inr (4, [.ref tp, .ref tk, .int 0, .int 0, .int 0, .int 0, .int 0])), (tp, .inr (0, [.int 65536, .ref ta, .int 0]))]) [0, 1] rfl
  have hD9 := hD.sub (ws' := [(lx, .inr (4, [.ref tp, .ref tk, .int 0, .int 0, .int 0, .int 0, .int 0])), (tp, .inr (0, [.int 65536, .ref ta, .int 0]))]) [0, 1] (by decide) rfl
  have hK9 := hK.sub (tys' := []) [] rfl
  exact W.vret hx hb hr (fun t ht hW => ⟨⟨(), rfl, trivial, by rw [ht]; exact hP9, va_K.moved hW.alike hK9, hD9⟩, hS.F ht⟩) hS.2.2 d_Lex_scan_97
set_option maxHeartbeats 4000000 in
set_option maxRecDepth 100000 in
/-- Lexer.advance to a token that is 0 -/
theorem c_Lex_advance (l : Launch) (dC : Nat → ClassId) (dI : Nat → Nat → Nat) (sz : Nat) (lx tp tk ka : Nat) (cK : ClassId) (f : Nat → Int32) (n : Int32) (hf : f 0 = 0) (hn : ¬ n ≤ 0) : Met l y_Lex_advance w_Lex_advance ({ frames := 30, cells := 0, slots := 0, locals := 900 }) (Pw dC dI [.ref lx] sz [(lx, .inr (4, [.ref tp, .ref tk, .int 0, .int (-1), .int 0, .int 0, .int 0])), (tk, .inr (0, [.int 16777216, .ref ka, .int n])), (ka, .inl (cK, 64, .inl f))] [(cK, .int)]) (va_Qv (fun _ : Unit => True) (fun _ t => va_P (dC, dI) classes [(lx, .inr (4, [.ref tp, .ref tk, .int 0, .int 0, .int 0, .int 0, .int 0])), (tk, .inr (0, [.int 16777216, .ref ka, .int n])), (ka, .inl (cK, 64, .inl f))] t.heap ∧ va_K (dC, dI) classes [(cK, .int)] t ∧ va_D (va_A [(lx, .inr (4, [.ref tp, .ref tk, .int 0, .int (-1), .int 0, .int 0, .int 0])), (tk, .inr (0, [.int 16777216, .ref ka, .int n])), (ka, .inl (cK, 64, .inl f))] sz) [(lx, .inr (4, [.ref tp, .ref tk, .int 0, .int 0, .int 0, .int 0, .int 0])), (tk, .inr (0, [.int 16777216, .ref ka, .int n])), (ka, .inl (cK, 64, .inl f))]) (va_A [(lx, .inr (4, [.ref tp, .ref tk, .int 0, .int (-1), .int 0, .int 0, .int 0])), (tk, .inr (0, [.int 16777216, .ref ka, .int n])), (ka, .inl (cK, 64, .inl f))] sz)) 0 0 (va_A [(lx, .inr (4, [.ref tp, .ref tk, .int 0, .int (-1), .int 0, .int 0, .int 0])), (tk, .inr (0, [.int 16777216, .ref ka, .int n])), (ka, .inl (cK, 64, .inl f))] sz) := by
  refine Met.ofW (cc := b_Lex_advance) (maxL := 2) (ret := none) (by decide) rfl ?_
  intro p e s m args below meth c s₁ B hml hv
  obtain ⟨rfl, hsz, hP, hK, hD0⟩ := hv
  have hx := B.exec
  have hb := B.bytes
  have hr := B.returns
  have hT : ∀ w ∈ vT, w.before _ s = true := fun w h => atoms_spec (ws := w_Lex_advance) B.pre w (List.mem_cons_of_mem _ h)
  have hown : s.vm.findClass R_Lex = some m.cls := findClass_of_methodNamed B.named
  have hlocks := B.notSynchronized
  subst hsz
  have hD := hD0.self (sz := s.heap.size)
  generalize hAe : va_A [(lx, .inr (4, [.ref tp, .ref tk, .int 0, .int (-1), .int 0, .int 0, .int 0])), (tk, .inr (0, [.int 16777216, .ref ka, .int n])), (ka, .inl (cK, 64, .inl f))] s.heap.size = A at hD ⊢
  have hA : ∀ q : Nat, s.heap.size ≤ q → A q := fun q h => by rw [← hAe]; exact Or.inr h
  have hS : va_S A s.heap s.heap [] := va_S.rf
  have hP : va_P (dC, dI) classes [(lx, .inr (4, [.ref tp, .ref tk, .int 0, .int (-1), .int 0, .int 0, .int 0])), (tk, .inr (0, [.int 16777216, .ref ka, .int n])), (ka, .inl (cK, 64, .inl f))] s.heap := hP
  have hl := lv_entry ([.ref lx]) (n := 2) (Nat.le_of_ble_eq_true rfl)
  rw [lg_entry_eq]
  generalize (lg_sl ([.ref lx]) ++ List.replicate (2 - (lg_sl ([.ref lx])).length) Slot.unset).toArray = ls at hl ⊢
  have hl : lv_has ls 2 [(0, .ref lx)] := hl
  refine lv_aload_n hx hb d_Lex_advance_0 rfl (lv_at hl 0 rfl) ?_
  refine lv_dup hx hb d_Lex_advance_1 rfl ?_
  refine va_get (D := (dC, dI)) (ci := 4) (v := .int (-1)) (C := R_Lex) (T := T_Lex) (N := 7) hx hb hT in_Lex hown hK hP 0 rfl rfl 3 (by decide) (hT _ vt_279) (fun _ h9 => h9) rfl d_Lex_advance_2 ?_
  refine lv_iconst (v := 1) hx hb d_Lex_advance_5 (by decide) ?_
  refine lv_iadd hx hb d_Lex_advance_6 ?_
  refine lv_topi (fun x_1 ex_1 => ?_)
  obtain rfl : x_1 = 0 := by rw [ex_1]; decide
  refine va_put (D := (dC, dI)) (ci := 4) (v := .int 0) (ty := .int) (C := R_Lex) (T := T_Lex) (N := 7) hx hb hT in_Lex ty_Lex tyo_Lex nm_Lex hown hK hP hD hS 0 rfl rfl 3 (by decide) (hT _ vt_279) (fun _ h9 => h9) rfl (by decide +kernel) rfl rfl (Nat.le_of_ble_eq_true rfl) d_Lex_advance_7 (fun H locs hP hD hS => ?_)
  have hP : va_P (dC, dI) classes [(lx, .inr (4, [.ref tp, .ref tk, .int 0, .int 0, .int 0, .int 0, .int 0])), (tk, .inr (0, [.int 16777216, .ref ka, .int n])), (ka, .inl (cK, 64, .inl f))] H := hP
  have hD : va_D A [(lx, .inr (4, [.ref tp, .ref tk, .int 0, .int 0, .int 0, .int 0, .int 0])), (tk, .inr (0, [.int 16777216, .ref ka, .int n])), (ka, .inl (cK, 64, .inl f))] := hD
  refine lv_aload_n hx hb d_Lex_advance_10 rfl (lv_at hl 0 rfl) ?_
  refine va_get (D := (dC, dI)) (ci := 4) (v := .ref tk) (C := R_Lex) (T := T_Lex) (N := 7) hx hb hT in_Lex hown hK hP 0 rfl rfl 1 (by decide) (hT _ vt_23) (fun _ h9 => h9) rfl d_Lex_advance_11 ?_
  refine lv_aload_n hx hb d_Lex_advance_14 rfl (lv_at hl 0 rfl) ?_
  refine va_get (D := (dC, dI)) (ci := 4) (v := .int 0) (C := R_Lex) (T := T_Lex) (N := 7) hx hb hT in_Lex hown hK hP 0 rfl rfl 3 (by decide) (hT _ vt_279) (fun _ h9 => h9) rfl d_Lex_advance_15 ?_
  refine W.callR (W.runV (As := [.int 0]) (rest := []) ⟨hx, hb, hml, hown, hT⟩ (c_Row_at l dC dI tk ka 64 cK f 16777216 n 0 (by decide) hn (vp0 (by decide) (by decide))) (cwV 1 hT (gV vt_275 vt_276 vt_277 vt_11 vt_278) rfl rfl rfl (by decide +kernel) ⟨Nat.le_of_ble_eq_true rfl, Nat.le_of_ble_eq_true rfl⟩) ⟨Pp_blind, va_recv hK hP (ci := 0) (q0 := 1) rfl rfl, Pp_of (hP.sub (ws' := [(tk, .inr (0, [.int 16777216, .ref ka, .int n])), (ka, .inl (cK, 64, .inl f))]) [1, 2] rfl) (hK.sub (tys' := [(cK, .int)]) [0] rfl)⟩ rfl rfl hl.1 rfl (lv_room (Nat.le_of_ble_eq_true rfl)) d_Lex_advance_18 ⟨Nat.le_of_ble_eq_true rfl, Nat.le_of_ble_eq_true rfl⟩) ?_
  refine W.eq (g2 := F0 m 21 ls [.int (f (0 : Int32).toNatClampNeg)]) rfl ?_
  refine lv_topi (fun x_2 ex_2 => ?_)
  obtain rfl : x_2 = 0 := by rw [ex_2]; rw [sb_cl0]; exact hf
  refine lv_istore_n (lv' := [(1, .int 0), (0, .ref lx)]) hx hb d_Lex_advance_21 rfl hl (by decide) rfl (fun ls hl => ?_)
  refine lv_aload_n hx hb d_Lex_advance_22 rfl (lv_at hl 1 rfl) ?_
  refine lv_iload_n hx hb d_Lex_advance_23 rfl (lv_at hl 0 rfl) ?_
  refine lv_bipush (v := 32) hx hb d_Lex_advance_24 (by decide) ?_
  refine lv_irem hx hb d_Lex_advance_26 (by decide) ?_
  refine lv_topi (fun x_3 ex_3 => ?_)
  obtain rfl : x_3 = 0 := by rw [ex_3]; decide
  refine va_put (D := (dC, dI)) (ci := 4) (v := .int 0) (ty := .int) (C := R_Lex) (T := T_Lex) (N := 7) hx hb hT in_Lex ty_Lex tyo_Lex nm_Lex hown hK hP hD hS 0 rfl rfl 4 (by decide) (hT _ vt_266) (fun _ h9 => h9) rfl (by decide +kernel) rfl rfl (Nat.le_of_ble_eq_true rfl) d_Lex_advance_27 (fun H locs hP hD hS => ?_)
  have hP : va_P (dC, dI) classes [(lx, .inr (4, [.ref tp, .ref tk, .int 0, .int 0, .int 0, .int 0, .int 0])), (tk, .inr (0, [.int 16777216, .ref ka, .int n])), (ka, .inl (cK, 64, .inl f))] H := hP
  have hD : va_D A [(lx, .inr (4, [.ref tp, .ref tk, .int 0, .int 0, .int 0, .int 0, .int 0])), (tk, .inr (0, [.int 16777216, .ref ka, .int n])), (ka, .inl (cK, 64, .inl f))] := hD
  refine lv_aload_n hx hb d_Lex_advance_30 rfl (lv_at hl 1 rfl) ?_
  refine lv_iload_n hx hb d_Lex_advance_31 rfl (lv_at hl 0 rfl) ?_
  refine lv_bipush (v := 32) hx hb d_Lex_advance_32 (by decide) ?_
  refine lv_idiv hx hb d_Lex_advance_34 (by decide) ?_
  refine lv_topi (fun x_4 ex_4 => ?_)
  obtain rfl : x_4 = 0 := by rw [ex_4]; decide
  refine lv_bipush (v := 32) hx hb d_Lex_advance_35 (by decide) ?_
  refine lv_irem hx hb d_Lex_advance_37 (by decide) ?_
  refine lv_topi (fun x_5 ex_5 => ?_)
  obtain rfl : x_5 = 0 := by rw [ex_5]; decide
  refine va_put (D := (dC, dI)) (ci := 4) (v := .int 0) (ty := .int) (C := R_Lex) (T := T_Lex) (N := 7) hx hb hT in_Lex ty_Lex tyo_Lex nm_Lex hown hK hP hD hS 0 rfl rfl 6 (by decide) (hT _ vt_274) (fun _ h9 => h9) rfl (by decide +kernel) rfl rfl (Nat.le_of_ble_eq_true rfl) d_Lex_advance_38 (fun H locs hP hD hS => ?_)
  have hP : va_P (dC, dI) classes [(lx, .inr (4, [.ref tp, .ref tk, .int 0, .int 0, .int 0, .int 0, .int 0])), (tk, .inr (0, [.int 16777216, .ref ka, .int n])), (ka, .inl (cK, 64, .inl f))] H := hP
  have hD : va_D A [(lx, .inr (4, [.ref tp, .ref tk, .int 0, .int 0, .int 0, .int 0, .int 0])), (tk, .inr (0, [.int 16777216, .ref ka, .int n])), (ka, .inl (cK, 64, .inl f))] := hD
  refine lv_aload_n hx hb d_Lex_advance_41 rfl (lv_at hl 1 rfl) ?_
  refine lv_iload_n hx hb d_Lex_advance_42 rfl (lv_at hl 0 rfl) ?_
  refine lv_bipush (v := 32) hx hb d_Lex_advance_43 (by decide) ?_
  refine lv_idiv hx hb d_Lex_advance_45 (by decide) ?_
  refine lv_topi (fun x_6 ex_6 => ?_)
  obtain rfl : x_6 = 0 := by rw [ex_6]; decide
  refine lv_bipush (v := 32) hx hb d_Lex_advance_46 (by decide) ?_
  refine lv_idiv hx hb d_Lex_advance_48 (by decide) ?_
  refine lv_topi (fun x_7 ex_7 => ?_)
  obtain rfl : x_7 = 0 := by rw [ex_7]; decide
  refine va_put (D := (dC, dI)) (ci := 4) (v := .int 0) (ty := .int) (C := R_Lex) (T := T_Lex) (N := 7) hx hb hT in_Lex ty_Lex tyo_Lex nm_Lex hown hK hP hD hS 0 rfl rfl 5 (by decide) (hT _ vt_273) (fun _ h9 => h9) rfl (by decide +kernel) rfl rfl (Nat.le_of_ble_eq_true rfl) d_Lex_advance_49 (fun H locs hP hD hS => ?_)
  have hP : va_P (dC, dI) classes [(lx, .inr (4, [.ref tp, .ref tk, .int 0, .int 0, .int 0, .int 0, .int 0])), (tk, .inr (0, [.int 16777216, .ref ka, .int n])), (ka, .inl (cK, 64, .inl f))] H := hP
  have hD : va_D A [(lx, .inr (4, [.ref tp, .ref tk, .int 0, .int 0, .int 0, .int 0, .int 0])), (tk, .inr (0, [.int 16777216, .ref ka, .int n])), (ka, .inl (cK, 64, .inl f))] := hD
  refine W.widen (k := 0) (n := 0) (Nat.le_of_ble_eq_true rfl) (Nat.le_of_ble_eq_true rfl) ?_
  have hP9 := hP.sub (ws' := [(lx, .inr (4, [.ref tp, .ref tk, .int 0, .int 0, .int 0, .int 0, .int 0])), (tk, .inr (0, [.int 16777216, .ref ka, .int n])), (ka, .inl (cK, 64, .inl f))]) [0, 1, 2] rfl
  have hD9 := hD.sub (ws' := [(lx, .inr (4, [.ref tp, .ref tk, .int 0, .int 0, .int 0, .int 0, .int 0])), (tk, .inr (0, [.int 16777216, .ref ka, .int n])), (ka, .inl (cK, 64, .inl f))]) [0, 1, 2] (by decide) rfl
  have hK9 := hK.sub (tys' := [(cK, .int)]) [0] rfl
  exact W.vret hx hb hr (fun t ht hW => ⟨⟨(), rfl, trivial, by rw [ht]; exact hP9, va_K.moved hW.alike hK9, hD9⟩, hS.F ht⟩) hS.2.2 d_Lex_advance_52
set_option maxHeartbeats 4000000 in
set_option maxRecDepth 100000 in
/-- Lexer.begin, no text -/
theorem c_Lex_begin (l : Launch) (dC : Nat → ClassId) (dI : Nat → Nat → Nat) (sz : Nat) (lx tp tk ta ka : Nat) (cK : ClassId) : Met l y_Lex_begin w_Lex_begin ({ frames := 50, cells := 0, slots := 0, locals := 1500 }) (Pw dC dI [.ref lx] sz [(lx, .inr (4, [.ref tp, .ref tk, .int 0, .int 0, .int 0, .int 0, .int 0])), (tp, .inr (0, [.int 65536, .ref ta, .int 0])), (tk, .inr (0, [.int 16777216, .ref ka, .int 0])), (ka, .inl (cK, 64, .inl (fun _ => 0)))] [(cK, .int)]) (va_Qv (fun _ : Unit => True) (fun _ t => va_P (dC, dI) classes [(lx, .inr (4, [.ref tp, .ref tk, .int 0, .int 0, .int 0, .int 0, .int 0])), (tp, .inr (0, [.int 65536, .ref ta, .int 0]))] t.heap ∧ va_K (dC, dI) classes [] t ∧ va_D (va_A [(lx, .inr (4, [.ref tp, .ref tk, .int 0, .int 0, .int 0, .int 0, .int 0])), (tp, .inr (0, [.int 65536, .ref ta, .int 0])), (tk, .inr (0, [.int 16777216, .ref ka, .int 0])), (ka, .inl (cK, 64, .inl (fun _ => 0)))] sz) [(lx, .inr (4, [.ref tp, .ref tk, .int 0, .int 0, .int 0, .int 0, .int 0])), (tp, .inr (0, [.int 65536, .ref ta, .int 0]))]) (va_A [(lx, .inr (4, [.ref tp, .ref tk, .int 0, .int 0, .int 0, .int 0, .int 0])), (tp, .inr (0, [.int 65536, .ref ta, .int 0])), (tk, .inr (0, [.int 16777216, .ref ka, .int 0])), (ka, .inl (cK, 64, .inl (fun _ => 0)))] sz)) 0 0 (va_A [(lx, .inr (4, [.ref tp, .ref tk, .int 0, .int 0, .int 0, .int 0, .int 0])), (tp, .inr (0, [.int 65536, .ref ta, .int 0])), (tk, .inr (0, [.int 16777216, .ref ka, .int 0])), (ka, .inl (cK, 64, .inl (fun _ => 0)))] sz) := by
  refine Met.ofW (cc := b_Lex_begin) (maxL := 2) (ret := none) (by decide) rfl ?_
  intro p e s m args below meth c s₁ B hml hv
  obtain ⟨rfl, hsz, hP, hK, hD0⟩ := hv
  have hx := B.exec
  have hb := B.bytes
  have hr := B.returns
  have hT : ∀ w ∈ vT, w.before _ s = true := fun w h => atoms_spec (ws := w_Lex_begin) B.pre w (List.mem_cons_of_mem _ h)
  have hown : s.vm.findClass R_Lex = some m.cls := findClass_of_methodNamed B.named
  have hlocks := B.notSynchronized
  subst hsz
  have hD := hD0.self (sz := s.heap.size)
  generalize hAe : va_A [(lx, .inr (4, [.ref tp, .ref tk, .int 0, .int 0, .int 0, .int 0, .int 0])), (tp, .inr (0, [.int 65536, .ref ta, .int 0])), (tk, .inr (0, [.int 16777216, .ref ka, .int 0])), (ka, .inl (cK, 64, .inl (fun _ => 0)))] s.heap.size = A at hD ⊢
  have hA : ∀ q : Nat, s.heap.size ≤ q → A q := fun q h => by rw [← hAe]; exact Or.inr h
  have hS : va_S A s.heap s.heap [] := va_S.rf
  have hP : va_P (dC, dI) classes [(lx, .inr (4, [.ref tp, .ref tk, .int 0, .int 0, .int 0, .int 0, .int 0])), (tp, .inr (0, [.int 65536, .ref ta, .int 0])), (tk, .inr (0, [.int 16777216, .ref ka, .int 0])), (ka, .inl (cK, 64, .inl (fun _ => 0)))] s.heap := hP
  have hl := lv_entry ([.ref lx]) (n := 2) (Nat.le_of_ble_eq_true rfl)
  rw [lg_entry_eq]
  generalize (lg_sl ([.ref lx]) ++ List.replicate (2 - (lg_sl ([.ref lx])).length) Slot.unset).toArray = ls at hl ⊢
  have hl : lv_has ls 2 [(0, .ref lx)] := hl
  refine lv_aload_n hx hb d_Lex_begin_0 rfl (lv_at hl 0 rfl) ?_
  refine va_get (D := (dC, dI)) (ci := 4) (v := .ref tk) (C := R_Lex) (T := T_Lex) (N := 7) hx hb hT in_Lex hown hK hP 0 rfl rfl 1 (by decide) (hT _ vt_23) (fun _ h9 => h9) rfl d_Lex_begin_1 ?_
  refine lv_iconst (v := 0) hx hb d_Lex_begin_4 (by decide) ?_
  refine vx_callU (W.runV (As := [.int 0]) (rest := []) ⟨hx, hb, hml, hown, hT⟩ (c_Row_cut l dC dI tk ka 16777216 0 0 (by decide) (by decide)) (cwV 1 hT (gV vt_280 vt_281 vt_282 vt_11 vt_283) rfl rfl rfl (by decide +kernel) ⟨Nat.le_of_ble_eq_true rfl, Nat.le_of_ble_eq_true rfl⟩) ⟨Pp_blind, va_recv hK hP (ci := 0) (q0 := 2) rfl rfl, Pp_of (hP.sub (ws' := [(tk, .inr (0, [.int 16777216, .ref ka, .int 0]))]) [2] rfl) (hK.sub (tys' := []) [] rfl)⟩ rfl rfl hl.1 rfl (lv_room (Nat.le_of_ble_eq_true rfl)) d_Lex_begin_5 ⟨Nat.le_of_ble_eq_true rfl, Nat.le_of_ble_eq_true rfl⟩) ?_
  refine W.eq (g2 := F0 m 8 ls []) rfl ?_
  refine lv_aload_n hx hb d_Lex_begin_8 rfl (lv_at hl 0 rfl) ?_
  refine lv_iconst (v := 0) hx hb d_Lex_begin_9 (by decide) ?_
  refine va_put (D := (dC, dI)) (ci := 4) (v := .int 0) (ty := .int) (C := R_Lex) (T := T_Lex) (N := 7) hx hb hT in_Lex ty_Lex tyo_Lex nm_Lex hown hK hP hD hS 0 rfl rfl 2 (by decide) (hT _ vt_267) (fun _ h9 => h9) rfl (by decide +kernel) rfl rfl (Nat.le_of_ble_eq_true rfl) d_Lex_begin_10 (fun H locs hP hD hS => ?_)
  have hP : va_P (dC, dI) classes [(lx, .inr (4, [.ref tp, .ref tk, .int 0, .int 0, .int 0, .int 0, .int 0])), (tp, .inr (0, [.int 65536, .ref ta, .int 0])), (tk, .inr (0, [.int 16777216, .ref ka, .int 0])), (ka, .inl (cK, 64, .inl (fun _ => 0)))] H := hP
  have hD : va_D A [(lx, .inr (4, [.ref tp, .ref tk, .int 0, .int 0, .int 0, .int 0, .int 0])), (tp, .inr (0, [.int 65536, .ref ta, .int 0])), (tk, .inr (0, [.int 16777216, .ref ka, .int 0])), (ka, .inl (cK, 64, .inl (fun _ => 0)))] := hD
  refine lv_aload_n hx hb d_Lex_begin_13 rfl (lv_at hl 0 rfl) ?_
  refine lv_iconst (v := 1) hx hb d_Lex_begin_14 (by decide) ?_
  refine va_put (D := (dC, dI)) (ci := 4) (v := .int 1) (ty := .int) (C := R_Lex) (T := T_Lex) (N := 7) hx hb hT in_Lex ty_Lex tyo_Lex nm_Lex hown hK hP hD hS 0 rfl rfl 4 (by decide) (hT _ vt_266) (fun _ h9 => h9) rfl (by decide +kernel) rfl rfl (Nat.le_of_ble_eq_true rfl) d_Lex_begin_15 (fun H locs hP hD hS => ?_)
  have hP : va_P (dC, dI) classes [(lx, .inr (4, [.ref tp, .ref tk, .int 0, .int 0, .int 1, .int 0, .int 0])), (tp, .inr (0, [.int 65536, .ref ta, .int 0])), (tk, .inr (0, [.int 16777216, .ref ka, .int 0])), (ka, .inl (cK, 64, .inl (fun _ => 0)))] H := hP
  have hD : va_D A [(lx, .inr (4, [.ref tp, .ref tk, .int 0, .int 0, .int 1, .int 0, .int 0])), (tp, .inr (0, [.int 65536, .ref ta, .int 0])), (tk, .inr (0, [.int 16777216, .ref ka, .int 0])), (ka, .inl (cK, 64, .inl (fun _ => 0)))] := hD
  refine lv_iconst (v := 0) hx hb d_Lex_begin_18 (by decide) ?_
  refine lv_istore_n (lv' := [(1, .int 0), (0, .ref lx)]) hx hb d_Lex_begin_19 rfl hl (by decide) rfl (fun ls hl => ?_)
  refine lv_iload_n hx hb d_Lex_begin_20 rfl (lv_at hl 0 rfl) ?_
  refine lv_ldc (v := 65536) hx hb hown (hT _ vt_284) d_Lex_begin_21 ?_
  refine lv_icmp_gt (tgt := 69) hx hb d_Lex_begin_23 (by decide) (fun c_1 => absurd c_1 (by decide)) (fun c_1 => ?_)
  refine lv_aload_n hx hb d_Lex_begin_26 rfl (lv_at hl 1 rfl) ?_
  refine va_get (D := (dC, dI)) (ci := 4) (v := .int 1) (C := R_Lex) (T := T_Lex) (N := 7) hx hb hT in_Lex hown hK hP 0 rfl rfl 4 (by decide) (hT _ vt_266) (fun _ h9 => h9) rfl d_Lex_begin_27 ?_
  refine lv_if_eq (tgt := 69) hx hb d_Lex_begin_30 (by decide) (fun c_2 => absurd c_2 (by decide)) (fun c_2 => ?_)
  refine lv_aload_n hx hb d_Lex_begin_33 rfl (lv_at hl 1 rfl) ?_
  have hPc := hP.sub (ws' := [(lx, .inr (4, [.ref tp, .ref tk, .int 0, .int 0, .int 1, .int 0, .int 0])), (tp, .inr (0, [.int 65536, .ref ta, .int 0]))]) [0, 1] rfl
  have hDc := hD.sub (ws' := [(lx, .inr (4, [.ref tp, .ref tk, .int 0, .int 0, .int 1, .int 0, .int 0])), (tp, .inr (0, [.int 65536, .ref ta, .int 0]))]) [0, 1] (by decide) rfl
  have hKc := hK.sub (tys' := []) [] rfl
  have hFc := va_free (wc := [(lx, .inr (4, [.ref tp, .ref tk, .int 0, .int 0, .int 1, .int 0, .int 0])), (tp, .inr (0, [.int 65536, .ref ta, .int 0]))]) hD hS hA [0, 1] rfl
  refine va_callv (va_runV (As := []) (rest := []) ⟨hx, hb, hml, hown, hT⟩ (c_Lex_scan l dC dI H.size lx tp tk ta) (cwV 0 hT (gV vt_285 vt_286 vt_287 vt_121 vt_288) rfl rfl rfl (by decide +kernel) ⟨Nat.le_of_ble_eq_true rfl, Nat.le_of_ble_eq_true rfl⟩) ⟨Pw_blind, va_recv hK hP (ci := 4) (q0 := 0) rfl rfl, Pw_of hPc hKc hDc⟩ rfl rfl hl.1 rfl (lv_room (Nat.le_of_ble_eq_true rfl)) d_Lex_begin_34 ⟨Nat.le_of_ble_eq_true rfl, Nat.le_of_ble_eq_true rfl⟩) hS (fun q _ h => hFc q h) hFc (fun u t H1 locs ht hvm hw hB hz1 hk1 hS => ?_)
  obtain ⟨hP1, hK1, hD1⟩ := hB
  rw [ht] at hP1
  have hK1 := va_K.moved hvm.symm hK1
  obtain ⟨hP, hD⟩ := va_join (wr := [(tk, .inr (0, [.int 16777216, .ref ka, .int 0])), (ka, .inl (cK, 64, .inl (fun _ => 0)))]) (w1 := [(lx, .inr (4, [.ref tp, .ref tk, .int 0, .int 0, .int 0, .int 0, .int 0])), (tp, .inr (0, [.int 65536, .ref ta, .int 0]))]) hP hD [0, 1] [2, 3] rfl rfl (by decide) (by decide) hk1 hFc hP1 hD1
  generalize H1 = H at hP hS ⊢
  have hP : va_P (dC, dI) classes [(tk, .inr (0, [.int 16777216, .ref ka, .int 0])), (ka, .inl (cK, 64, .inl (fun _ => 0))), (lx, .inr (4, [.ref tp, .ref tk, .int 0, .int 0, .int 0, .int 0, .int 0])), (tp, .inr (0, [.int 65536, .ref ta, .int 0]))] H := hP
  have hD : va_D A [(tk, .inr (0, [.int 16777216, .ref ka, .int 0])), (ka, .inl (cK, 64, .inl (fun _ => 0))), (lx, .inr (4, [.ref tp, .ref tk, .int 0, .int 0, .int 0, .int 0, .int 0])), (tp, .inr (0, [.int 65536, .ref ta, .int 0]))] := hD
  refine W.widen (k := 0) (n := 0) (Nat.le_of_ble_eq_true rfl) (Nat.le_of_ble_eq_true rfl) ?_
  refine lv_aload_n hx hb d_Lex_begin_37 rfl (lv_at hl 1 rfl) ?_
  refine va_get (D := (dC, dI)) (ci := 4) (v := .ref tk) (C := R_Lex) (T := T_Lex) (N := 7) hx hb hT in_Lex hown hK hP 2 rfl rfl 1 (by decide) (hT _ vt_23) (fun _ h9 => h9) rfl d_Lex_begin_38 ?_
  refine lv_aload_n hx hb d_Lex_begin_41 rfl (lv_at hl 1 rfl) ?_
  refine va_get (D := (dC, dI)) (ci := 4) (v := .int 0) (C := R_Lex) (T := T_Lex) (N := 7) hx hb hT in_Lex hown hK hP 2 rfl rfl 5 (by decide) (hT _ vt_273) (fun _ h9 => h9) rfl d_Lex_begin_42 ?_
  refine lv_aload_n hx hb d_Lex_begin_45 rfl (lv_at hl 1 rfl) ?_
  refine va_get (D := (dC, dI)) (ci := 4) (v := .int 0) (C := R_Lex) (T := T_Lex) (N := 7) hx hb hT in_Lex hown hK hP 2 rfl rfl 6 (by decide) (hT _ vt_274) (fun _ h9 => h9) rfl d_Lex_begin_46 ?_
  refine W.callR (W.runS (As := [.int 0, .int 0]) (rest := [.ref tk]) ⟨hx, hb, hml, hown, hT⟩ (c_Lex_named l dC dI) (cwS 2 hT (gS vt_289 vt_290 vt_121 vt_291) rfl rfl rfl (by decide +kernel) ⟨Nat.le_of_ble_eq_true rfl, Nat.le_of_ble_eq_true rfl⟩) ⟨Pp_blind, Pp_of (hP.sub (ws' := []) [] rfl) (hK.sub (tys' := []) [] rfl)⟩ rfl rfl hl.1 rfl (lv_room (Nat.le_of_ble_eq_true rfl)) d_Lex_begin_49 ⟨Nat.le_of_ble_eq_true rfl, Nat.le_of_ble_eq_true rfl⟩) ?_
  refine W.eq (g2 := F0 m 52 ls [.int 0, .ref tk]) rfl ?_
  refine lv_bipush (v := 32) hx hb d_Lex_begin_52 (by decide) ?_
  refine lv_imul hx hb d_Lex_begin_54 ?_
  refine lv_topi (fun x_4 ex_4 => ?_)
  obtain rfl : x_4 = 0 := by rw [ex_4]; decide
  refine lv_aload_n hx hb d_Lex_begin_55 rfl (lv_at hl 1 rfl) ?_
  refine va_get (D := (dC, dI)) (ci := 4) (v := .int 0) (C := R_Lex) (T := T_Lex) (N := 7) hx hb hT in_Lex hown hK hP 2 rfl rfl 4 (by decide) (hT _ vt_266) (fun _ h9 => h9) rfl d_Lex_begin_56 ?_
  refine lv_iadd hx hb d_Lex_begin_59 ?_
  refine lv_topi (fun x_5 ex_5 => ?_)
  obtain rfl : x_5 = 0 := by rw [ex_5]; decide
  have hP : va_P (dC, dI) classes [(tk, .inr (0, [.int 16777216, .ref ka, .int (nI 0)])), (ka, .inl (cK, 64, .inl (fun _ => 0))), (lx, .inr (4, [.ref tp, .ref tk, .int 0, .int 0, .int 0, .int 0, .int 0])), (tp, .inr (0, [.int 65536, .ref ta, .int 0]))] H := hP
  have hD : va_D A [(tk, .inr (0, [.int 16777216, .ref ka, .int (nI 0)])), (ka, .inl (cK, 64, .inl (fun _ => 0))), (lx, .inr (4, [.ref tp, .ref tk, .int 0, .int 0, .int 0, .int 0, .int 0])), (tp, .inr (0, [.int 65536, .ref ta, .int 0]))] := hD
  have hPc := hP.sub (ws' := [(tk, .inr (0, [.int 16777216, .ref ka, .int (nI 0)])), (ka, .inl (cK, 64, .inl (fun _ => 0)))]) [0, 1] rfl
  have hDc := hD.sub (ws' := [(tk, .inr (0, [.int 16777216, .ref ka, .int (nI 0)])), (ka, .inl (cK, 64, .inl (fun _ => 0)))]) [0, 1] (by decide) rfl
  have hKc := hK.sub (tys' := [(cK, .int)]) [0] rfl
  have hFc := va_free (wc := [(tk, .inr (0, [.int 16777216, .ref ka, .int (nI 0)])), (ka, .inl (cK, 64, .inl (fun _ => 0)))]) hD hS hA [0, 1] rfl
  refine va_callv (va_runV (As := [.int 0]) (rest := []) ⟨hx, hb, hml, hown, hT⟩ (c_Row_push l dC dI H.size tk ka 64 0 cK (fun _ => 0) 16777216 0 (by decide) (by decide) (by decide)) (cwV 1 hT (gV vt_292 vt_293 vt_294 vt_11 vt_295) rfl rfl rfl (by decide +kernel) ⟨Nat.le_of_ble_eq_true rfl, Nat.le_of_ble_eq_true rfl⟩) ⟨Pw_blind, va_recv hK hP (ci := 0) (q0 := 0) rfl rfl, Pw_of hPc hKc hDc⟩ rfl rfl hl.1 rfl (lv_room (Nat.le_of_ble_eq_true rfl)) d_Lex_begin_60 ⟨Nat.le_of_ble_eq_true rfl, Nat.le_of_ble_eq_true rfl⟩) hS (fun q _ h => hFc q h) hFc (fun u t H1 locs ht hvm hw hB hz1 hk1 hS => ?_)
  obtain ⟨hP1, hK1, hD1⟩ := hB
  rw [ht] at hP1
  have hK1 := va_K.moved hvm.symm hK1
  obtain ⟨hP, hD⟩ := va_join (wr := [(lx, .inr (4, [.ref tp, .ref tk, .int 0, .int 0, .int 0, .int 0, .int 0])), (tp, .inr (0, [.int 65536, .ref ta, .int 0]))]) (w1 := [(tk, .inr (0, [.int 16777216, .ref ka, .int (nI (0 + 1))])), (ka, .inl (cK, 64, .inl (upd (fun _ => 0) 0 0)))]) hP hD [0, 1] [2, 3] rfl rfl (by decide) (by decide) hk1 hFc hP1 hD1
  generalize H1 = H at hP hS ⊢
  have hP : va_P (dC, dI) classes [(lx, .inr (4, [.ref tp, .ref tk, .int 0, .int 0, .int 0, .int 0, .int 0])), (tp, .inr (0, [.int 65536, .ref ta, .int 0])), (tk, .inr (0, [.int 16777216, .ref ka, .int (nI (0 + 1))])), (ka, .inl (cK, 64, .inl (upd (fun _ => 0) 0 0)))] H := hP
  have hD : va_D A [(lx, .inr (4, [.ref tp, .ref tk, .int 0, .int 0, .int 0, .int 0, .int 0])), (tp, .inr (0, [.int 65536, .ref ta, .int 0])), (tk, .inr (0, [.int 16777216, .ref ka, .int (nI (0 + 1))])), (ka, .inl (cK, 64, .inl (upd (fun _ => 0) 0 0)))] := hD
  refine W.widen (k := 0) (n := 0) (Nat.le_of_ble_eq_true rfl) (Nat.le_of_ble_eq_true rfl) ?_
  refine lv_iinc (v := 1) (lv' := [(1, .int 1), (0, .ref lx)]) hx hb d_Lex_begin_63 hl (k := 0) rfl (by decide) (by decide) rfl (fun ls hl => ?_)
  refine lv_goto (tgt := 20) hx hb d_Lex_begin_66 (by decide) ?_
  refine lv_iload_n hx hb d_Lex_begin_20 rfl (lv_at hl 0 rfl) ?_
  refine lv_ldc (v := 65536) hx hb hown (hT _ vt_284) d_Lex_begin_21 ?_
  refine lv_icmp_gt (tgt := 69) hx hb d_Lex_begin_23 (by decide) (fun c_7 => absurd c_7 (by decide)) (fun c_7 => ?_)
  refine lv_aload_n hx hb d_Lex_begin_26 rfl (lv_at hl 1 rfl) ?_
  refine va_get (D := (dC, dI)) (ci := 4) (v := .int 0) (C := R_Lex) (T := T_Lex) (N := 7) hx hb hT in_Lex hown hK hP 0 rfl rfl 4 (by decide) (hT _ vt_266) (fun _ h9 => h9) rfl d_Lex_begin_27 ?_
  refine lv_if_eq (tgt := 69) hx hb d_Lex_begin_30 (by decide) (fun c_8 => ?_) (fun c_8 => absurd (by decide) c_8)
  refine lv_aload_n hx hb d_Lex_begin_69 rfl (lv_at hl 1 rfl) ?_
  refine lv_iconst (v := (-1)) hx hb d_Lex_begin_70 (by decide) ?_
  refine va_put (D := (dC, dI)) (ci := 4) (v := .int (-1)) (ty := .int) (C := R_Lex) (T := T_Lex) (N := 7) hx hb hT in_Lex ty_Lex tyo_Lex nm_Lex hown hK hP hD hS 0 rfl rfl 3 (by decide) (hT _ vt_279) (fun _ h9 => h9) rfl (by decide +kernel) rfl rfl (Nat.le_of_ble_eq_true rfl) d_Lex_begin_71 (fun H locs hP hD hS => ?_)
  have hP : va_P (dC, dI) classes [(lx, .inr (4, [.ref tp, .ref tk, .int 0, .int (-1), .int 0, .int 0, .int 0])), (tp, .inr (0, [.int 65536, .ref ta, .int 0])), (tk, .inr (0, [.int 16777216, .ref ka, .int (nI (0 + 1))])), (ka, .inl (cK, 64, .inl (upd (fun _ => 0) 0 0)))] H := hP
  have hD : va_D A [(lx, .inr (4, [.ref tp, .ref tk, .int 0, .int (-1), .int 0, .int 0, .int 0])), (tp, .inr (0, [.int 65536, .ref ta, .int 0])), (tk, .inr (0, [.int 16777216, .ref ka, .int (nI (0 + 1))])), (ka, .inl (cK, 64, .inl (upd (fun _ => 0) 0 0)))] := hD
  refine lv_aload_n hx hb d_Lex_begin_74 rfl (lv_at hl 1 rfl) ?_
  have hPc := hP.sub (ws' := [(lx, .inr (4, [.ref tp, .ref tk, .int 0, .int (-1), .int 0, .int 0, .int 0])), (tk, .inr (0, [.int 16777216, .ref ka, .int (nI (0 + 1))])), (ka, .inl (cK, 64, .inl (upd (fun _ => 0) 0 0)))]) [0, 2, 3] rfl
  have hDc := hD.sub (ws' := [(lx, .inr (4, [.ref tp, .ref tk, .int 0, .int (-1), .int 0, .int 0, .int 0])), (tk, .inr (0, [.int 16777216, .ref ka, .int (nI (0 + 1))])), (ka, .inl (cK, 64, .inl (upd (fun _ => 0) 0 0)))]) [0, 2, 3] (by decide) rfl
  have hKc := hK.sub (tys' := [(cK, .int)]) [0] rfl
  have hFc := va_free (wc := [(lx, .inr (4, [.ref tp, .ref tk, .int 0, .int (-1), .int 0, .int 0, .int 0])), (tk, .inr (0, [.int 16777216, .ref ka, .int (nI (0 + 1))])), (ka, .inl (cK, 64, .inl (upd (fun _ => 0) 0 0)))]) hD hS hA [0, 2, 3] rfl
  refine va_callv (va_runV (As := []) (rest := []) ⟨hx, hb, hml, hown, hT⟩ (c_Lex_advance l dC dI H.size lx tp tk ka cK (upd (fun _ => 0) 0 0) (nI (0 + 1)) pk_us (by decide)) (cwV 0 hT (gV vt_296 vt_297 vt_298 vt_121 vt_299) rfl rfl rfl (by decide +kernel) ⟨Nat.le_of_ble_eq_true rfl, Nat.le_of_ble_eq_true rfl⟩) ⟨Pw_blind, va_recv hK hP (ci := 4) (q0 := 0) rfl rfl, Pw_of hPc hKc hDc⟩ rfl rfl hl.1 rfl (lv_room (Nat.le_of_ble_eq_true rfl)) d_Lex_begin_75 ⟨Nat.le_of_ble_eq_true rfl, Nat.le_of_ble_eq_true rfl⟩) hS (fun q _ h => hFc q h) hFc (fun u t H1 locs ht hvm hw hB hz1 hk1 hS => ?_)
  obtain ⟨hP1, hK1, hD1⟩ := hB
  rw [ht] at hP1
  have hK1 := va_K.moved hvm.symm hK1
  obtain ⟨hP, hD⟩ := va_join (wr := [(tp, .inr (0, [.int 65536, .ref ta, .int 0]))]) (w1 := [(lx, .inr (4, [.ref tp, .ref tk, .int 0, .int 0, .int 0, .int 0, .int 0])), (tk, .inr (0, [.int 16777216, .ref ka, .int (nI (0 + 1))])), (ka, .inl (cK, 64, .inl (upd (fun _ => 0) 0 0)))]) hP hD [0, 2, 3] [1] rfl rfl (by decide) (by decide) hk1 hFc hP1 hD1
  generalize H1 = H at hP hS ⊢
  have hP : va_P (dC, dI) classes [(tp, .inr (0, [.int 65536, .ref ta, .int 0])), (lx, .inr (4, [.ref tp, .ref tk, .int 0, .int 0, .int 0, .int 0, .int 0])), (tk, .inr (0, [.int 16777216, .ref ka, .int (nI (0 + 1))])), (ka, .inl (cK, 64, .inl (upd (fun _ => 0) 0 0)))] H := hP
  have hD : va_D A [(tp, .inr (0, [.int 65536, .ref ta, .int 0])), (lx, .inr (4, [.ref tp, .ref tk, .int 0, .int 0, .int 0, .int 0, .int 0])), (tk, .inr (0, [.int 16777216, .ref ka, .int (nI (0 + 1))])), (ka, .inl (cK, 64, .inl (upd (fun _ => 0) 0 0)))] := hD
  refine W.widen (k := 0) (n := 0) (Nat.le_of_ble_eq_true rfl) (Nat.le_of_ble_eq_true rfl) ?_
  refine W.widen (k := 0) (n := 0) (Nat.le_of_ble_eq_true rfl) (Nat.le_of_ble_eq_true rfl) ?_
  have hP9 := hP.sub (ws' := [(lx, .inr (4, [.ref tp, .ref tk, .int 0, .int 0, .int 0, .int 0, .int 0])), (tp, .inr (0, [.int 65536, .ref ta, .int 0]))]) [1, 0] rfl
  have hD9 := hD.sub (ws' := [(lx, .inr (4, [.ref tp, .ref tk, .int 0, .int 0, .int 0, .int 0, .int 0])), (tp, .inr (0, [.int 65536, .ref ta, .int 0]))]) [1, 0] (by decide) rfl
  have hK9 := hK.sub (tys' := []) [] rfl
  exact W.vret hx hb hr (fun t ht hW => ⟨⟨(), rfl, trivial, by rw [ht]; exact hP9, va_K.moved hW.alike hK9, hD9⟩, hS.F ht⟩) hS.2.2 d_Lex_begin_78
