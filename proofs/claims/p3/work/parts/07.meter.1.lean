set_option maxHeartbeats 4000000 in
set_option maxRecDepth 100000 in
/-- Meter.work -/
theorem c_Meter_work (l : Launch) (dC : Nat → ClassId) (dI : Nat → Nat → Nat) (me : Nat) (wo co pl st : Int32) : Met l y_Meter_work w_Meter_work ({ frames := 10, cells := 0, slots := 0, locals := 300 }) (Pp dC dI [.ref me] [(me, .inr (1, [.int wo, .int co, .int pl, .int st]))] []) (QcRead wo) 0 0 (fun _ => False) := by
  refine Met.ofW (cc := b_Meter_work) (maxL := 1) (ret := (some .int)) (by decide) rfl ?_
  intro p e s m args below meth c s₁ B hml hv
  obtain ⟨rfl, hP, hK⟩ := hv
  have hx := B.exec
  have hb := B.bytes
  have hr := B.returns
  have hT : ∀ w ∈ vT, w.before _ s = true := fun w h => atoms_spec (ws := w_Meter_work) B.pre w (List.mem_cons_of_mem _ h)
  have hown : s.vm.findClass R_Meter = some m.cls := findClass_of_methodNamed B.named
  have hlocks := B.notSynchronized
  have hP : va_P (dC, dI) classes [(me, .inr (1, [.int wo, .int co, .int pl, .int st]))] s.heap := hP
  have hl := lv_entry ([.ref me]) (n := 1) (Nat.le_of_ble_eq_true rfl)
  rw [lg_entry_eq]
  generalize (lg_sl ([.ref me]) ++ List.replicate (1 - (lg_sl ([.ref me])).length) Slot.unset).toArray = ls at hl ⊢
  have hl : lv_has ls 1 [(0, .ref me)] := hl
  refine lv_aload_n hx hb d_Meter_work_0 rfl (lv_at hl 0 rfl) ?_
  refine va_get (D := (dC, dI)) (ci := 1) (v := .int wo) (C := R_Meter) (T := T_Meter) (N := 4) hx hb hT in_Meter hown hK hP 0 rfl rfl 0 (by decide) (hT _ vt_325) (fun _ h9 => h9) rfl d_Meter_work_1 ?_
  exact W.iret (v := wo) hx hb hr (fun t ht hW => ⟨rfl, ht⟩) (fun _ h => nomatch h) d_Meter_work_4
set_option maxHeartbeats 4000000 in
set_option maxRecDepth 100000 in
/-- Meter.code -/
theorem c_Meter_code (l : Launch) (dC : Nat → ClassId) (dI : Nat → Nat → Nat) (me : Nat) (wo co pl st : Int32) : Met l y_Meter_code w_Meter_code ({ frames := 10, cells := 0, slots := 0, locals := 300 }) (Pp dC dI [.ref me] [(me, .inr (1, [.int wo, .int co, .int pl, .int st]))] []) (QcRead co) 0 0 (fun _ => False) := by
  refine Met.ofW (cc := b_Meter_code) (maxL := 1) (ret := (some .int)) (by decide) rfl ?_
  intro p e s m args below meth c s₁ B hml hv
  obtain ⟨rfl, hP, hK⟩ := hv
  have hx := B.exec
  have hb := B.bytes
  have hr := B.returns
  have hT : ∀ w ∈ vT, w.before _ s = true := fun w h => atoms_spec (ws := w_Meter_code) B.pre w (List.mem_cons_of_mem _ h)
  have hown : s.vm.findClass R_Meter = some m.cls := findClass_of_methodNamed B.named
  have hlocks := B.notSynchronized
  have hP : va_P (dC, dI) classes [(me, .inr (1, [.int wo, .int co, .int pl, .int st]))] s.heap := hP
  have hl := lv_entry ([.ref me]) (n := 1) (Nat.le_of_ble_eq_true rfl)
  rw [lg_entry_eq]
  generalize (lg_sl ([.ref me]) ++ List.replicate (1 - (lg_sl ([.ref me])).length) Slot.unset).toArray = ls at hl ⊢
  have hl : lv_has ls 1 [(0, .ref me)] := hl
  refine lv_aload_n hx hb d_Meter_code_0 rfl (lv_at hl 0 rfl) ?_
  refine va_get (D := (dC, dI)) (ci := 1) (v := .int co) (C := R_Meter) (T := T_Meter) (N := 4) hx hb hT in_Meter hown hK hP 0 rfl rfl 1 (by decide) (hT _ vt_236) (fun _ h9 => h9) rfl d_Meter_code_1 ?_
  exact W.iret (v := co) hx hb hr (fun t ht hW => ⟨rfl, ht⟩) (fun _ h => nomatch h) d_Meter_code_4
set_option maxHeartbeats 4000000 in
set_option maxRecDepth 100000 in
/-- Meter.place -/
theorem c_Meter_place (l : Launch) (dC : Nat → ClassId) (dI : Nat → Nat → Nat) (me : Nat) (wo co pl st : Int32) : Met l y_Meter_place w_Meter_place ({ frames := 10, cells := 0, slots := 0, locals := 300 }) (Pp dC dI [.ref me] [(me, .inr (1, [.int wo, .int co, .int pl, .int st]))] []) (QcRead pl) 0 0 (fun _ => False) := by
  refine Met.ofW (cc := b_Meter_place) (maxL := 1) (ret := (some .int)) (by decide) rfl ?_
  intro p e s m args below meth c s₁ B hml hv
  obtain ⟨rfl, hP, hK⟩ := hv
  have hx := B.exec
  have hb := B.bytes
  have hr := B.returns
  have hT : ∀ w ∈ vT, w.before _ s = true := fun w h => atoms_spec (ws := w_Meter_place) B.pre w (List.mem_cons_of_mem _ h)
  have hown : s.vm.findClass R_Meter = some m.cls := findClass_of_methodNamed B.named
  have hlocks := B.notSynchronized
  have hP : va_P (dC, dI) classes [(me, .inr (1, [.int wo, .int co, .int pl, .int st]))] s.heap := hP
  have hl := lv_entry ([.ref me]) (n := 1) (Nat.le_of_ble_eq_true rfl)
  rw [lg_entry_eq]
  generalize (lg_sl ([.ref me]) ++ List.replicate (1 - (lg_sl ([.ref me])).length) Slot.unset).toArray = ls at hl ⊢
  have hl : lv_has ls 1 [(0, .ref me)] := hl
  refine lv_aload_n hx hb d_Meter_place_0 rfl (lv_at hl 0 rfl) ?_
  refine va_get (D := (dC, dI)) (ci := 1) (v := .int pl) (C := R_Meter) (T := T_Meter) (N := 4) hx hb hT in_Meter hown hK hP 0 rfl rfl 2 (by decide) (hT _ vt_237) (fun _ h9 => h9) rfl d_Meter_place_1 ?_
  exact W.iret (v := pl) hx hb hr (fun t ht hW => ⟨rfl, ht⟩) (fun _ h => nomatch h) d_Meter_place_4
set_option maxHeartbeats 4000000 in
set_option maxRecDepth 100000 in
/-- Meter.forget -/
theorem c_Meter_forget (l : Launch) (dC : Nat → ClassId) (dI : Nat → Nat → Nat) (sz : Nat) (me : Nat) (wo co pl st : Int32) : Met l y_Meter_forget w_Meter_forget ({ frames := 10, cells := 0, slots := 0, locals := 300 }) (Pw dC dI [.ref me] sz [(me, .inr (1, [.int wo, .int co, .int pl, .int st]))] []) (va_Qv (fun _ : Unit => True) (fun _ t => va_P (dC, dI) classes [(me, .inr (1, [.int wo, .int 0, .int 0, .int st]))] t.heap ∧ va_K (dC, dI) classes [] t ∧ va_D (va_A [(me, .inr (1, [.int wo, .int co, .int pl, .int st]))] sz) [(me, .inr (1, [.int wo, .int 0, .int 0, .int st]))]) (va_A [(me, .inr (1, [.int wo, .int co, .int pl, .int st]))] sz)) 0 0 (va_A [(me, .inr (1, [.int wo, .int co, .int pl, .int st]))] sz) := by
  refine Met.ofW (cc := b_Meter_forget) (maxL := 1) (ret := none) (by decide) rfl ?_
  intro p e s m args below meth c s₁ B hml hv
  obtain ⟨rfl, hsz, hP, hK, hD0⟩ := hv
  have hx := B.exec
  have hb := B.bytes
  have hr := B.returns
  have hT : ∀ w ∈ vT, w.before _ s = true := fun w h => atoms_spec (ws := w_Meter_forget) B.pre w (List.mem_cons_of_mem _ h)
  have hown : s.vm.findClass R_Meter = some m.cls := findClass_of_methodNamed B.named
  have hlocks := B.notSynchronized
  subst hsz
  have hD := hD0.self (sz := s.heap.size)
  generalize hAe : va_A [(me, .inr (1, [.int wo, .int co, .int pl, .int st]))] s.heap.size = A at hD ⊢
  have hA : ∀ q : Nat, s.heap.size ≤ q → A q := fun q h => by rw [← hAe]; exact Or.inr h
  have hS : va_S A s.heap s.heap [] := va_S.rf
  have hP : va_P (dC, dI) classes [(me, .inr (1, [.int wo, .int co, .int pl, .int st]))] s.heap := hP
  have hl := lv_entry ([.ref me]) (n := 1) (Nat.le_of_ble_eq_true rfl)
  rw [lg_entry_eq]
  generalize (lg_sl ([.ref me]) ++ List.replicate (1 - (lg_sl ([.ref me])).length) Slot.unset).toArray = ls at hl ⊢
  have hl : lv_has ls 1 [(0, .ref me)] := hl
  refine lv_aload_n hx hb d_Meter_forget_0 rfl (lv_at hl 0 rfl) ?_
  refine lv_iconst (v := 0) hx hb d_Meter_forget_1 (by decide) ?_
  refine va_put (D := (dC, dI)) (ci := 1) (v := .int 0) (ty := .int) (C := R_Meter) (T := T_Meter) (N := 4) hx hb hT in_Meter ty_Meter tyo_Meter nm_Meter hown hK hP hD hS 0 rfl rfl 1 (by decide) (hT _ vt_236) (fun _ h9 => h9) rfl (by decide +kernel) rfl rfl (Nat.le_of_ble_eq_true rfl) d_Meter_forget_2 (fun H locs hP hD hS => ?_)
  have hP : va_P (dC, dI) classes [(me, .inr (1, [.int wo, .int 0, .int pl, .int st]))] H := hP
  have hD : va_D A [(me, .inr (1, [.int wo, .int 0, .int pl, .int st]))] := hD
  refine lv_aload_n hx hb d_Meter_forget_5 rfl (lv_at hl 0 rfl) ?_
  refine lv_iconst (v := 0) hx hb d_Meter_forget_6 (by decide) ?_
  refine va_put (D := (dC, dI)) (ci := 1) (v := .int 0) (ty := .int) (C := R_Meter) (T := T_Meter) (N := 4) hx hb hT in_Meter ty_Meter tyo_Meter nm_Meter hown hK hP hD hS 0 rfl rfl 2 (by decide) (hT _ vt_237) (fun _ h9 => h9) rfl (by decide +kernel) rfl rfl (Nat.le_of_ble_eq_true rfl) d_Meter_forget_7 (fun H locs hP hD hS => ?_)
  have hP : va_P (dC, dI) classes [(me, .inr (1, [.int wo, .int 0, .int 0, .int st]))] H := hP
  have hD : va_D A [(me, .inr (1, [.int wo, .int 0, .int 0, .int st]))] := hD
  refine W.widen (k := 0) (n := 0) (Nat.le_of_ble_eq_true rfl) (Nat.le_of_ble_eq_true rfl) ?_
  have hP9 := hP.sub (ws' := [(me, .inr (1, [.int wo, .int 0, .int 0, .int st]))]) [0] rfl
  have hD9 := hD.sub (ws' := [(me, .inr (1, [.int wo, .int 0, .int 0, .int st]))]) [0] (by decide) rfl
  have hK9 := hK.sub (tys' := []) [] rfl
  exact W.vret hx hb hr (fun t ht hW => ⟨⟨(), rfl, trivial, by rw [ht]; exact hP9, va_K.moved hW.alike hK9, hD9⟩, hS.F ht⟩) hS.2.2 d_Meter_forget_10
set_option maxHeartbeats 4000000 in
set_option maxRecDepth 100000 in
/-- Meter.begin -/
theorem c_Meter_begin (l : Launch) (dC : Nat → ClassId) (dI : Nat → Nat → Nat) (sz : Nat) (me : Nat) (wo co pl st : Int32) (d : Int32) : Met l y_Meter_begin w_Meter_begin ({ frames := 10, cells := 0, slots := 0, locals := 300 }) (Pw dC dI [.ref me, .int d] sz [(me, .inr (1, [.int wo, .int co, .int pl, .int st]))] []) (va_Qv (fun _ : Unit => True) (fun _ t => va_P (dC, dI) classes [(me, .inr (1, [.int 0, .int co, .int pl, .int d]))] t.heap ∧ va_K (dC, dI) classes [] t ∧ va_D (va_A [(me, .inr (1, [.int wo, .int co, .int pl, .int st]))] sz) [(me, .inr (1, [.int 0, .int co, .int pl, .int d]))]) (va_A [(me, .inr (1, [.int wo, .int co, .int pl, .int st]))] sz)) 0 0 (va_A [(me, .inr (1, [.int wo, .int co, .int pl, .int st]))] sz) := by
  refine Met.ofW (cc := b_Meter_begin) (maxL := 2) (ret := none) (by decide) rfl ?_
  intro p e s m args below meth c s₁ B hml hv
  obtain ⟨rfl, hsz, hP, hK, hD0⟩ := hv
  have hx := B.exec
  have hb := B.bytes
  have hr := B.returns
  have hT : ∀ w ∈ vT, w.before _ s = true := fun w h => atoms_spec (ws := w_Meter_begin) B.pre w (List.mem_cons_of_mem _ h)
  have hown : s.vm.findClass R_Meter = some m.cls := findClass_of_methodNamed B.named
  have hlocks := B.notSynchronized
  subst hsz
  have hD := hD0.self (sz := s.heap.size)
  generalize hAe : va_A [(me, .inr (1, [.int wo, .int co, .int pl, .int st]))] s.heap.size = A at hD ⊢
  have hA : ∀ q : Nat, s.heap.size ≤ q → A q := fun q h => by rw [← hAe]; exact Or.inr h
  have hS : va_S A s.heap s.heap [] := va_S.rf
  have hP : va_P (dC, dI) classes [(me, .inr (1, [.int wo, .int co, .int pl, .int st]))] s.heap := hP
  have hl := lv_entry ([.ref me, .int d]) (n := 2) (Nat.le_of_ble_eq_true rfl)
  rw [lg_entry_eq]
  generalize (lg_sl ([.ref me, .int d]) ++ List.replicate (2 - (lg_sl ([.ref me, .int d])).length) Slot.unset).toArray = ls at hl ⊢
  have hl : lv_has ls 2 [(0, .ref me), (1, .int d)] := hl
  refine lv_aload_n hx hb d_Meter_begin_0 rfl (lv_at hl 0 rfl) ?_
  refine lv_iconst (v := 0) hx hb d_Meter_begin_1 (by decide) ?_
  refine va_put (D := (dC, dI)) (ci := 1) (v := .int 0) (ty := .int) (C := R_Meter) (T := T_Meter) (N := 4) hx hb hT in_Meter ty_Meter tyo_Meter nm_Meter hown hK hP hD hS 0 rfl rfl 0 (by decide) (hT _ vt_325) (fun _ h9 => h9) rfl (by decide +kernel) rfl rfl (Nat.le_of_ble_eq_true rfl) d_Meter_begin_2 (fun H locs hP hD hS => ?_)
  have hP : va_P (dC, dI) classes [(me, .inr (1, [.int 0, .int co, .int pl, .int st]))] H := hP
  have hD : va_D A [(me, .inr (1, [.int 0, .int co, .int pl, .int st]))] := hD
  refine lv_aload_n hx hb d_Meter_begin_5 rfl (lv_at hl 0 rfl) ?_
  refine lv_iload_n hx hb d_Meter_begin_6 rfl (lv_at hl 1 rfl) ?_
  refine va_put (D := (dC, dI)) (ci := 1) (v := .int d) (ty := .int) (C := R_Meter) (T := T_Meter) (N := 4) hx hb hT in_Meter ty_Meter tyo_Meter nm_Meter hown hK hP hD hS 0 rfl rfl 3 (by decide) (hT _ vt_326) (fun _ h9 => h9) rfl (by decide +kernel) rfl rfl (Nat.le_of_ble_eq_true rfl) d_Meter_begin_7 (fun H locs hP hD hS => ?_)
  have hP : va_P (dC, dI) classes [(me, .inr (1, [.int 0, .int co, .int pl, .int d]))] H := hP
  have hD : va_D A [(me, .inr (1, [.int 0, .int co, .int pl, .int d]))] := hD
  refine W.widen (k := 0) (n := 0) (Nat.le_of_ble_eq_true rfl) (Nat.le_of_ble_eq_true rfl) ?_
  have hP9 := hP.sub (ws' := [(me, .inr (1, [.int 0, .int co, .int pl, .int d]))]) [0] rfl
  have hD9 := hD.sub (ws' := [(me, .inr (1, [.int 0, .int co, .int pl, .int d]))]) [0] (by decide) rfl
  have hK9 := hK.sub (tys' := []) [] rfl
  exact W.vret hx hb hr (fun t ht hW => ⟨⟨(), rfl, trivial, by rw [ht]; exact hP9, va_K.moved hW.alike hK9, hD9⟩, hS.F ht⟩) hS.2.2 d_Meter_begin_10
