def PhX (dC : Nat → ClassId) (dI : Nat → Nat → Nat) (av : List Value) (sz : Nat) (ws : va_W) (tys : List (ClassId × FieldType)) (E : String) : Array Value → State → Prop := fun a U => U.heap.size = sz ∧ PpX dC dI av ws tys E a U
theorem PhX_blind {dC : Nat → ClassId} {dI : Nat → Nat → Nat} {av : List Value} {sz : Nat} {ws : va_W} {tys : List (ClassId × FieldType)} {E : String} : FrameBlind (PhX dC dI av sz ws tys E) := fun a U g mk h => ⟨h.1, PpX_blind a U g mk h.2⟩
theorem PhX_of {dC : Nat → ClassId} {dI : Nat → Nat → Nat} {av : List Value} {ws : va_W} {tys : List (ClassId × FieldType)} {E : String} {s : State} {H : Heap} (hP : va_P (dC, dI) classes ws H) (hK : va_K (dC, dI) classes tys s) (hH : ∀ (a : Nat) (cell : Cell), s.heap[a]? = some cell → cell.vm.isStatics = true → H[a]? = some cell) (hX : vx_X E s) :
    ∀ U : State, U.heap = H → s.WarmedH U.vm → PhX dC dI av H.size ws tys E av.toArray U := fun U hU hW => ⟨by rw [hU], PpX_of hP hK hH hX U hU hW⟩
/-- the first entry of a method's handler table, by its word -/
theorem vx_table {p : Program} {l : Launch} {x : MethodName} {S : Spec} {cd : ByteArray} {ml : Nat} {rt : Option FieldType} {e : Env} {s : State} {m : MethodId} {args : Array Value} {below : List Frame} {meth : Method} {c : Code} {s₁ : State} {a1 a2 a3 a4 : Nat} {hh : List (Nat × Nat × Nat × Nat)}
    (B : BodyLoose p l x S cd ml rt e s m args below meth c s₁) (h : (Cond.codeWith x cd ml rt ((a1, a2, a3, a4) :: hh)).before args s = true) : ∃ r, c.exceptionTable.toList = ⟨a1, a2, a3, a4⟩ :: r := by
  obtain ⟨m9, meth9, c9, hn9, hm9, hc9, -, -, ht9, -, -, -⟩ := Cond.codeWith_spec h
  cases B.named.symm.trans hn9
  cases B.method.symm.trans hm9
  cases (Stand.of_body B).code.symm.trans hc9
  cases hq : c.exceptionTable.toList with
  | nil => rw [hq] at ht9; simp at ht9
  | cons y r =>
    rw [hq] at ht9
    simp only [List.map_cons, List.cons.injEq, Prod.mk.injEq] at ht9
    obtain ⟨⟨h1, h2, h3, h4⟩, -⟩ := ht9
    refine ⟨r, ?_⟩
    obtain ⟨q1, q2, q3, q4⟩ := y
    simp only at h1 h2 h3 h4
    subst h1; subst h2; subst h3; subst h4
    rfl
set_option maxHeartbeats 4000000 in
set_option maxRecDepth 100000 in
/-- end, refused -/
theorem h_end (l : Launch) (dC : Nat → ClassId) (dI : Nat → Nat → Nat) (hfl : l.flags = flags0) (sz : Nat) (h0 tp ta sh sa me te t1 t2 t3 t4 t5 t6 t7 t8 en fc fa nn lx tk ka pa fr re ty fm pr : Nat) (cT cK : ClassId) (o : Nat) (k : Int32) (hk : ¬ k = 0) : Met l y_Law_end w_Law_end ({ frames := 50, cells := 1, slots := 6, locals := 1500 }) (PhX dC dI [.ref h0, .int k, .ref o] sz [(h0, .inr (11, [.ref tp, .ref sh, .ref me, .ref te, .ref en, .ref lx, .ref pa, .ref fr, .ref re, .ref ty, .ref fm, .ref pr, .int 0, .int 0])), (tp, .inr (0, [.int 65536, .ref ta, .int 0]))] [] "java/lang/IllegalArgumentException") (va_Qi (fun (r : Int32) (_ : Unit) => r = 1) (fun _ _ => True) (va_A [] sz)) 1 6 (va_A [] sz) := by
  refine va_MetW (hh := [(0, 9, 12, 19)]) (cc := b_Law_end) (maxL := 4) (ret := (some .int)) (by decide) rfl ?_
  intro p e s m args below meth c s₁ B hml hv
  obtain ⟨hsz, ⟨rfl, hP, hK⟩, hX⟩ := hv
  have hx := B.exec
  have hb := B.bytes
  have hr := B.returns
  have hT : ∀ w ∈ vT, w.before _ s = true := fun w h => atoms_spec (ws := w_Law_end) B.pre w (List.mem_cons_of_mem _ h)
  have hown : s.vm.findClass R_Law = some m.cls := findClass_of_methodNamed B.named
  have hlocks := B.notSynchronized
  obtain ⟨rr, hex⟩ := vx_table B (atoms_spec (ws := w_Law_end) B.pre _ List.mem_cons_self)
  subst hsz
  have hl := lv_entry ([.ref h0, .int k, .ref o]) (n := 4) (Nat.le_of_ble_eq_true rfl)
  rw [lg_entry_eq]
  generalize (lg_sl ([.ref h0, .int k, .ref o]) ++ List.replicate (4 - (lg_sl ([.ref h0, .int k, .ref o])).length) Slot.unset).toArray = ls at hl ⊢
  have hl : lv_has ls 4 [(0, .ref h0), (1, .int k), (2, .ref o)] := hl
  refine lv_aload_n hx hb d_Law_end_0 rfl (lv_at hl 2 rfl) ?_
  refine lv_iconst (v := 0) hx hb d_Law_end_1 (by decide) ?_
  refine lv_aload_n hx hb d_Law_end_2 rfl (lv_at hl 0 rfl) ?_
  refine lv_iload_n hx hb d_Law_end_3 rfl (lv_at hl 1 rfl) ?_
  refine vx_catchV (n := 1) (As := [.int k]) (rest := [.int 0, .ref o]) ⟨hx, hb, hml, hown, hT⟩ (t_Ker_end l dC dI hfl h0 tp ta sh sa me te t1 t2 t3 t4 t5 t6 t7 t8 en fc fa nn lx tk ka pa fr re ty fm pr cT cK k hk) vt_367 vt_368 vt_369 vt_318 vt_370 rfl rfl (by decide +kernel) ⟨Nat.le_of_ble_eq_true rfl, Nat.le_of_ble_eq_true rfl⟩ ⟨PpX_blind, va_recv hK hP (ci := 11) (q0 := 0) rfl rfl, PpX_of hP hK (fun _ _ h _ => h) hX⟩ rfl hl.1 rfl (Nat.le_of_ble_eq_true rfl) d_Law_end_4 ⟨Nat.le_of_ble_eq_true rfl, Nat.le_of_ble_eq_true rfl⟩ hex (by decide) (by decide) (hT _ vt_371) (hX.2.1.use rfl) (fun xa H1 hz1 hk1 => ?_)
  refine W.eq (g2 := F0 m 12 ls [.ref xa]) rfl ?_
  refine W.widen (k := 1) (n := 6) (Nat.le_of_ble_eq_true rfl) (Nat.le_of_ble_eq_true rfl) ?_
  refine lv_astore_n (lv' := [(3, .ref xa), (0, .ref h0), (1, .int k), (2, .ref o)]) hx hb d_Law_end_12 rfl hl (by decide) rfl (fun ls hl => ?_)
  refine lv_iconst (v := 1) hx hb d_Law_end_13 (by decide) ?_
  exact W.iret (v := 1) hx hb hr (fun t ht hW => ⟨⟨1, (), rfl, rfl, trivial⟩, by rw [ht]; exact hz1, fun q hq _ => by rw [ht]; exact hk1 q hq⟩) (fun _ h => nomatch h) d_Law_end_14
set_option maxHeartbeats 4000000 in
set_option maxRecDepth 100000 in
/-- constant, refused -/
theorem h_constant (l : Launch) (dC : Nat → ClassId) (dI : Nat → Nat → Nat) (hfl : l.flags = flags0) (sz : Nat) (h0 tp ta sh sa me te t1 t2 t3 t4 t5 t6 t7 t8 en fc fa nn lx tk ka pa fr re ty fm pr : Nat) (cT cK : ClassId) (o : Nat) (k w : Int32) : Met l y_Law_constant w_Law_constant ({ frames := 50, cells := 1, slots := 6, locals := 1500 }) (PhX dC dI [.ref h0, .int k, .int w, .ref o] sz [(h0, .inr (11, [.ref tp, .ref sh, .ref me, .ref te, .ref en, .ref lx, .ref pa, .ref fr, .ref re, .ref ty, .ref fm, .ref pr, .int 0, .int 0])), (en, .inr (3, [.ref fc, .ref nn, .int 0])), (fc, .inr (0, [.int 16777216, .ref fa, .int 0]))] [] "java/util/NoSuchElementException") (va_Qi (fun (r : Int32) (_ : Unit) => r = 1) (fun _ _ => True) (va_A [] sz)) 1 6 (va_A [] sz) := by
  refine va_MetW (hh := [(0, 10, 13, 25), (0, 10, 17, 19)]) (cc := b_Law_constant) (maxL := 5) (ret := (some .int)) (by decide) rfl ?_
  intro p e s m args below meth c s₁ B hml hv
  obtain ⟨hsz, ⟨rfl, hP, hK⟩, hX⟩ := hv
  have hx := B.exec
  have hb := B.bytes
  have hr := B.returns
  have hT : ∀ w ∈ vT, w.before _ s = true := fun w h => atoms_spec (ws := w_Law_constant) B.pre w (List.mem_cons_of_mem _ h)
  have hown : s.vm.findClass R_Law = some m.cls := findClass_of_methodNamed B.named
  have hlocks := B.notSynchronized
  obtain ⟨rr, hex⟩ := vx_table B (atoms_spec (ws := w_Law_constant) B.pre _ List.mem_cons_self)
  subst hsz
  have hl := lv_entry ([.ref h0, .int k, .int w, .ref o]) (n := 5) (Nat.le_of_ble_eq_true rfl)
  rw [lg_entry_eq]
  generalize (lg_sl ([.ref h0, .int k, .int w, .ref o]) ++ List.replicate (5 - (lg_sl ([.ref h0, .int k, .int w, .ref o])).length) Slot.unset).toArray = ls at hl ⊢
  have hl : lv_has ls 5 [(0, .ref h0), (1, .int k), (2, .int w), (3, .ref o)] := hl
  refine lv_aload_n hx hb d_Law_constant_0 rfl (lv_at hl 3 rfl) ?_
  refine lv_iconst (v := 0) hx hb d_Law_constant_1 (by decide) ?_
  refine lv_aload_n hx hb d_Law_constant_2 rfl (lv_at hl 0 rfl) ?_
  refine lv_iload_n hx hb d_Law_constant_3 rfl (lv_at hl 1 rfl) ?_
  refine lv_iload_n hx hb d_Law_constant_4 rfl (lv_at hl 2 rfl) ?_
  refine vx_catchV (n := 2) (As := [.int k, .int w]) (rest := [.int 0, .ref o]) ⟨hx, hb, hml, hown, hT⟩ (t_Ker_constant l dC dI hfl h0 tp ta sh sa me te t1 t2 t3 t4 t5 t6 t7 t8 en fc fa nn lx tk ka pa fr re ty fm pr cT cK k w) vt_372 vt_373 vt_374 vt_318 vt_375 rfl rfl (by decide +kernel) ⟨Nat.le_of_ble_eq_true rfl, Nat.le_of_ble_eq_true rfl⟩ ⟨PpX_blind, va_recv hK hP (ci := 11) (q0 := 0) rfl rfl, PpX_of hP hK (fun _ _ h _ => h) hX⟩ rfl hl.1 rfl (Nat.le_of_ble_eq_true rfl) d_Law_constant_5 ⟨Nat.le_of_ble_eq_true rfl, Nat.le_of_ble_eq_true rfl⟩ hex (by decide) (by decide) (hT _ vt_376) (hX.2.1.use rfl) (fun xa H1 hz1 hk1 => ?_)
  refine W.eq (g2 := F0 m 13 ls [.ref xa]) rfl ?_
  refine W.widen (k := 1) (n := 6) (Nat.le_of_ble_eq_true rfl) (Nat.le_of_ble_eq_true rfl) ?_
  refine lv_astore (lv' := [(4, .ref xa), (0, .ref h0), (1, .int k), (2, .int w), (3, .ref o)]) hx hb d_Law_constant_13 hl (by decide) rfl (fun ls hl => ?_)
  refine lv_iconst (v := 1) hx hb d_Law_constant_15 (by decide) ?_
  exact W.iret (v := 1) hx hb hr (fun t ht hW => ⟨⟨1, (), rfl, rfl, trivial⟩, by rw [ht]; exact hz1, fun q hq _ => by rw [ht]; exact hk1 q hq⟩) (fun _ h => nomatch h) d_Law_constant_16
set_option maxHeartbeats 4000000 in
set_option maxRecDepth 100000 in
/-- show, refused -/
theorem h_show (l : Launch) (dC : Nat → ClassId) (dI : Nat → Nat → Nat) (hfl : l.flags = flags0) (sz : Nat) (h0 tp ta sh sa me te t1 t2 t3 t4 t5 t6 t7 t8 en fc fa nn lx tk ka pa fr re ty fm pr : Nat) (cT cK : ClassId) (o : Nat) (k w : Int32) : Met l y_Law_show w_Law_show ({ frames := 50, cells := 1, slots := 6, locals := 1500 }) (PhX dC dI [.ref h0, .int k, .int w, .ref o] sz [(h0, .inr (11, [.ref tp, .ref sh, .ref me, .ref te, .ref en, .ref lx, .ref pa, .ref fr, .ref re, .ref ty, .ref fm, .ref pr, .int 0, .int 0])), (en, .inr (3, [.ref fc, .ref nn, .int 0])), (fc, .inr (0, [.int 16777216, .ref fa, .int 0]))] [] "java/util/NoSuchElementException") (va_Qi (fun (r : Int32) (_ : Unit) => r = 1) (fun _ _ => True) (va_A [] sz)) 1 6 (va_A [] sz) := by
  refine va_MetW (hh := [(0, 10, 13, 25), (0, 10, 17, 19)]) (cc := b_Law_show) (maxL := 5) (ret := (some .int)) (by decide) rfl ?_
  intro p e s m args below meth c s₁ B hml hv
  obtain ⟨hsz, ⟨rfl, hP, hK⟩, hX⟩ := hv
  have hx := B.exec
  have hb := B.bytes
  have hr := B.returns
  have hT : ∀ w ∈ vT, w.before _ s = true := fun w h => atoms_spec (ws := w_Law_show) B.pre w (List.mem_cons_of_mem _ h)
  have hown : s.vm.findClass R_Law = some m.cls := findClass_of_methodNamed B.named
  have hlocks := B.notSynchronized
  obtain ⟨rr, hex⟩ := vx_table B (atoms_spec (ws := w_Law_show) B.pre _ List.mem_cons_self)
  subst hsz
  have hl := lv_entry ([.ref h0, .int k, .int w, .ref o]) (n := 5) (Nat.le_of_ble_eq_true rfl)
  rw [lg_entry_eq]
  generalize (lg_sl ([.ref h0, .int k, .int w, .ref o]) ++ List.replicate (5 - (lg_sl ([.ref h0, .int k, .int w, .ref o])).length) Slot.unset).toArray = ls at hl ⊢
  have hl : lv_has ls 5 [(0, .ref h0), (1, .int k), (2, .int w), (3, .ref o)] := hl
  refine lv_aload_n hx hb d_Law_show_0 rfl (lv_at hl 3 rfl) ?_
  refine lv_iconst (v := 0) hx hb d_Law_show_1 (by decide) ?_
  refine lv_aload_n hx hb d_Law_show_2 rfl (lv_at hl 0 rfl) ?_
  refine lv_iload_n hx hb d_Law_show_3 rfl (lv_at hl 1 rfl) ?_
  refine lv_iload_n hx hb d_Law_show_4 rfl (lv_at hl 2 rfl) ?_
  refine vx_catchV (n := 2) (As := [.int k, .int w]) (rest := [.int 0, .ref o]) ⟨hx, hb, hml, hown, hT⟩ (t_Ker_show l dC dI hfl h0 tp ta sh sa me te t1 t2 t3 t4 t5 t6 t7 t8 en fc fa nn lx tk ka pa fr re ty fm pr cT cK k w) vt_377 vt_378 vt_379 vt_318 vt_380 rfl rfl (by decide +kernel) ⟨Nat.le_of_ble_eq_true rfl, Nat.le_of_ble_eq_true rfl⟩ ⟨PpX_blind, va_recv hK hP (ci := 11) (q0 := 0) rfl rfl, PpX_of hP hK (fun _ _ h _ => h) hX⟩ rfl hl.1 rfl (Nat.le_of_ble_eq_true rfl) d_Law_show_5 ⟨Nat.le_of_ble_eq_true rfl, Nat.le_of_ble_eq_true rfl⟩ hex (by decide) (by decide) (hT _ vt_376) (hX.2.1.use rfl) (fun xa H1 hz1 hk1 => ?_)
  refine W.eq (g2 := F0 m 13 ls [.ref xa]) rfl ?_
  refine W.widen (k := 1) (n := 6) (Nat.le_of_ble_eq_true rfl) (Nat.le_of_ble_eq_true rfl) ?_
  refine lv_astore (lv' := [(4, .ref xa), (0, .ref h0), (1, .int k), (2, .int w), (3, .ref o)]) hx hb d_Law_show_13 hl (by decide) rfl (fun ls hl => ?_)
  refine lv_iconst (v := 1) hx hb d_Law_show_15 (by decide) ?_
  exact W.iret (v := 1) hx hb hr (fun t ht hW => ⟨⟨1, (), rfl, rfl, trivial⟩, by rw [ht]; exact hz1, fun q hq _ => by rw [ht]; exact hk1 q hq⟩) (fun _ h => nomatch h) d_Law_show_16
set_option maxHeartbeats 4000000 in
set_option maxRecDepth 100000 in
/-- showRec, refused -/
theorem h_showRec (l : Launch) (dC : Nat → ClassId) (dI : Nat → Nat → Nat) (hfl : l.flags = flags0) (sz : Nat) (h0 tp ta sh sa me te t1 t2 t3 t4 t5 t6 t7 t8 en fc fa nn lx tk ka pa fr re ty fm pr : Nat) (cT cK : ClassId) (o : Nat) (k w : Int32) : Met l y_Law_showRec w_Law_showRec ({ frames := 50, cells := 1, slots := 6, locals := 1500 }) (PhX dC dI [.ref h0, .int k, .int w, .ref o] sz [(h0, .inr (11, [.ref tp, .ref sh, .ref me, .ref te, .ref en, .ref lx, .ref pa, .ref fr, .ref re, .ref ty, .ref fm, .ref pr, .int 0, .int 0])), (en, .inr (3, [.ref fc, .ref nn, .int 0])), (fc, .inr (0, [.int 16777216, .ref fa, .int 0]))] [] "java/util/NoSuchElementException") (va_Qi (fun (r : Int32) (_ : Unit) => r = 1) (fun _ _ => True) (va_A [] sz)) 1 6 (va_A [] sz) := by
  refine va_MetW (hh := [(0, 10, 13, 25)]) (cc := b_Law_showRec) (maxL := 5) (ret := (some .int)) (by decide) rfl ?_
  intro p e s m args below meth c s₁ B hml hv
  obtain ⟨hsz, ⟨rfl, hP, hK⟩, hX⟩ := hv
  have hx := B.exec
  have hb := B.bytes
  have hr := B.returns
  have hT : ∀ w ∈ vT, w.before _ s = true := fun w h => atoms_spec (ws := w_Law_showRec) B.pre w (List.mem_cons_of_mem _ h)
  have hown : s.vm.findClass R_Law = some m.cls := findClass_of_methodNamed B.named
  have hlocks := B.notSynchronized
  obtain ⟨rr, hex⟩ := vx_table B (atoms_spec (ws := w_Law_showRec) B.pre _ List.mem_cons_self)
  subst hsz
  have hl := lv_entry ([.ref h0, .int k, .int w, .ref o]) (n := 5) (Nat.le_of_ble_eq_true rfl)
  rw [lg_entry_eq]
  generalize (lg_sl ([.ref h0, .int k, .int w, .ref o]) ++ List.replicate (5 - (lg_sl ([.ref h0, .int k, .int w, .ref o])).length) Slot.unset).toArray = ls at hl ⊢
  have hl : lv_has ls 5 [(0, .ref h0), (1, .int k), (2, .int w), (3, .ref o)] := hl
  refine lv_aload_n hx hb d_Law_showRec_0 rfl (lv_at hl 3 rfl) ?_
  refine lv_iconst (v := 0) hx hb d_Law_showRec_1 (by decide) ?_
  refine lv_aload_n hx hb d_Law_showRec_2 rfl (lv_at hl 0 rfl) ?_
  refine lv_iload_n hx hb d_Law_showRec_3 rfl (lv_at hl 1 rfl) ?_
  refine lv_iload_n hx hb d_Law_showRec_4 rfl (lv_at hl 2 rfl) ?_
  refine vx_catchV (n := 2) (As := [.int k, .int w]) (rest := [.int 0, .ref o]) ⟨hx, hb, hml, hown, hT⟩ (t_Ker_showRec l dC dI hfl h0 tp ta sh sa me te t1 t2 t3 t4 t5 t6 t7 t8 en fc fa nn lx tk ka pa fr re ty fm pr cT cK k w) vt_381 vt_382 vt_383 vt_318 vt_384 rfl rfl (by decide +kernel) ⟨Nat.le_of_ble_eq_true rfl, Nat.le_of_ble_eq_true rfl⟩ ⟨PpX_blind, va_recv hK hP (ci := 11) (q0 := 0) rfl rfl, PpX_of hP hK (fun _ _ h _ => h) hX⟩ rfl hl.1 rfl (Nat.le_of_ble_eq_true rfl) d_Law_showRec_5 ⟨Nat.le_of_ble_eq_true rfl, Nat.le_of_ble_eq_true rfl⟩ hex (by decide) (by decide) (hT _ vt_376) (hX.2.1.use rfl) (fun xa H1 hz1 hk1 => ?_)
  refine W.eq (g2 := F0 m 13 ls [.ref xa]) rfl ?_
  refine W.widen (k := 1) (n := 6) (Nat.le_of_ble_eq_true rfl) (Nat.le_of_ble_eq_true rfl) ?_
  refine lv_astore (lv' := [(4, .ref xa), (0, .ref h0), (1, .int k), (2, .int w), (3, .ref o)]) hx hb d_Law_showRec_13 hl (by decide) rfl (fun ls hl => ?_)
  refine lv_iconst (v := 1) hx hb d_Law_showRec_15 (by decide) ?_
  exact W.iret (v := 1) hx hb hr (fun t ht hW => ⟨⟨1, (), rfl, rfl, trivial⟩, by rw [ht]; exact hz1, fun q hq _ => by rw [ht]; exact hk1 q hq⟩) (fun _ h => nomatch h) d_Law_showRec_16
set_option maxHeartbeats 4000000 in
set_option maxRecDepth 100000 in
/-- out, refused -/
theorem h_out (l : Launch) (dC : Nat → ClassId) (dI : Nat → Nat → Nat) (hfl : l.flags = flags0) (sz : Nat) (h0 tp ta sh sa me te t1 t2 t3 t4 t5 t6 t7 t8 en fc fa nn lx tk ka pa fr re ty fm pr : Nat) (cT cK : ClassId) (o : Nat) (k : Int32) : Met l y_Law_out w_Law_out ({ frames := 50, cells := 1, slots := 6, locals := 1500 }) (PhX dC dI [.ref h0, .int k, .ref o] sz [(h0, .inr (11, [.ref tp, .ref sh, .ref me, .ref te, .ref en, .ref lx, .ref pa, .ref fr, .ref re, .ref ty, .ref fm, .ref pr, .int 0, .int 0])), (sh, .inr (0, [.int 65536, .ref sa, .int 0]))] [] "java/lang/IndexOutOfBoundsException") (va_Qi (fun (r : Int32) (_ : Unit) => r = 1) (fun _ _ => True) (va_A [] sz)) 1 6 (va_A [] sz) := by
  refine va_MetW (hh := [(0, 9, 12, 36)]) (cc := b_Law_out) (maxL := 4) (ret := (some .int)) (by decide) rfl ?_
  intro p e s m args below meth c s₁ B hml hv
  obtain ⟨hsz, ⟨rfl, hP, hK⟩, hX⟩ := hv
  have hx := B.exec
  have hb := B.bytes
  have hr := B.returns
  have hT : ∀ w ∈ vT, w.before _ s = true := fun w h => atoms_spec (ws := w_Law_out) B.pre w (List.mem_cons_of_mem _ h)
  have hown : s.vm.findClass R_Law = some m.cls := findClass_of_methodNamed B.named
  have hlocks := B.notSynchronized
  obtain ⟨rr, hex⟩ := vx_table B (atoms_spec (ws := w_Law_out) B.pre _ List.mem_cons_self)
  subst hsz
  have hl := lv_entry ([.ref h0, .int k, .ref o]) (n := 4) (Nat.le_of_ble_eq_true rfl)
  rw [lg_entry_eq]
  generalize (lg_sl ([.ref h0, .int k, .ref o]) ++ List.replicate (4 - (lg_sl ([.ref h0, .int k, .ref o])).length) Slot.unset).toArray = ls at hl ⊢
  have hl : lv_has ls 4 [(0, .ref h0), (1, .int k), (2, .ref o)] := hl
  refine lv_aload_n hx hb d_Law_out_0 rfl (lv_at hl 2 rfl) ?_
  refine lv_iconst (v := 0) hx hb d_Law_out_1 (by decide) ?_
  refine lv_aload_n hx hb d_Law_out_2 rfl (lv_at hl 0 rfl) ?_
  refine lv_iload_n hx hb d_Law_out_3 rfl (lv_at hl 1 rfl) ?_
  refine vx_catchV (n := 1) (As := [.int k]) (rest := [.int 0, .ref o]) ⟨hx, hb, hml, hown, hT⟩ (t_Ker_out l dC dI hfl h0 tp ta sh sa me te t1 t2 t3 t4 t5 t6 t7 t8 en fc fa nn lx tk ka pa fr re ty fm pr cT cK k) vt_385 vt_386 vt_387 vt_318 vt_388 rfl rfl (by decide +kernel) ⟨Nat.le_of_ble_eq_true rfl, Nat.le_of_ble_eq_true rfl⟩ ⟨PpX_blind, va_recv hK hP (ci := 11) (q0 := 0) rfl rfl, PpX_of hP hK (fun _ _ h _ => h) hX⟩ rfl hl.1 rfl (Nat.le_of_ble_eq_true rfl) d_Law_out_4 ⟨Nat.le_of_ble_eq_true rfl, Nat.le_of_ble_eq_true rfl⟩ hex (by decide) (by decide) (hT _ vt_389) (hX.2.1.use rfl) (fun xa H1 hz1 hk1 => ?_)
  refine W.eq (g2 := F0 m 12 ls [.ref xa]) rfl ?_
  refine W.widen (k := 1) (n := 6) (Nat.le_of_ble_eq_true rfl) (Nat.le_of_ble_eq_true rfl) ?_
  refine lv_astore_n (lv' := [(3, .ref xa), (0, .ref h0), (1, .int k), (2, .ref o)]) hx hb d_Law_out_12 rfl hl (by decide) rfl (fun ls hl => ?_)
  refine lv_iconst (v := 1) hx hb d_Law_out_13 (by decide) ?_
  exact W.iret (v := 1) hx hb hr (fun t ht hW => ⟨⟨1, (), rfl, rfl, trivial⟩, by rw [ht]; exact hz1, fun q hq _ => by rw [ht]; exact hk1 q hq⟩) (fun _ h => nomatch h) d_Law_out_14
set_option maxHeartbeats 4000000 in
set_option maxRecDepth 100000 in
/-- end(0) -/
theorem g_end (l : Launch) (dC : Nat → ClassId) (dI : Nat → Nat → Nat) (sz : Nat) (h0 tp ta sh sa me te t1 t2 t3 t4 t5 t6 t7 t8 en fc fa nn lx tk ka pa fr re ty fm pr : Nat) (cT cK : ClassId) (o : Nat) (cJ : ClassId) (g : Nat → Int64) : Met l y_Law_end w_Law_end ({ frames := 50, cells := 0, slots := 0, locals := 1500 }) (Pw dC dI [.ref h0, .int 0, .ref o] sz [(h0, .inr (11, [.ref tp, .ref sh, .ref me, .ref te, .ref en, .ref lx, .ref pa, .ref fr, .ref re, .ref ty, .ref fm, .ref pr, .int 0, .int 0])), (tp, .inr (0, [.int 65536, .ref ta, .int 0])), (o, .inl (cJ, 1, .inr (.inl g)))] [(cJ, .long)]) (va_Qi (fun (r : Int32) (_ : Unit) => r = 0) (fun _ t => ∃ (g2 : Nat → Int64), va_P (dC, dI) classes [(o, .inl (cJ, 1, .inr (.inl g2)))] t.heap ∧ va_K (dC, dI) classes [(cJ, .long)] t ∧ va_D (va_A [(h0, .inr (11, [.ref tp, .ref sh, .ref me, .ref te, .ref en, .ref lx, .ref pa, .ref fr, .ref re, .ref ty, .ref fm, .ref pr, .int 0, .int 0])), (tp, .inr (0, [.int 65536, .ref ta, .int 0])), (o, .inl (cJ, 1, .inr (.inl g)))] sz) [(o, .inl (cJ, 1, .inr (.inl g2)))] ∧ g2 0 = 0) (va_A [(h0, .inr (11, [.ref tp, .ref sh, .ref me, .ref te, .ref en, .ref lx, .ref pa, .ref fr, .ref re, .ref ty, .ref fm, .ref pr, .int 0, .int 0])), (tp, .inr (0, [.int 65536, .ref ta, .int 0])), (o, .inl (cJ, 1, .inr (.inl g)))] sz)) 0 0 (va_A [(h0, .inr (11, [.ref tp, .ref sh, .ref me, .ref te, .ref en, .ref lx, .ref pa, .ref fr, .ref re, .ref ty, .ref fm, .ref pr, .int 0, .int 0])), (tp, .inr (0, [.int 65536, .ref ta, .int 0])), (o, .inl (cJ, 1, .inr (.inl g)))] sz) := by
  refine va_MetW (hh := [(0, 9, 12, 19)]) (cc := b_Law_end) (maxL := 4) (ret := (some .int)) (by decide) rfl ?_
  intro p e s m args below meth c s₁ B hml hv
  obtain ⟨rfl, hsz, hP, hK, hD0⟩ := hv
  have hx := B.exec
  have hb := B.bytes
  have hr := B.returns
  have hT : ∀ w ∈ vT, w.before _ s = true := fun w h => atoms_spec (ws := w_Law_end) B.pre w (List.mem_cons_of_mem _ h)
  have hown : s.vm.findClass R_Law = some m.cls := findClass_of_methodNamed B.named
  have hlocks := B.notSynchronized
  subst hsz
  have hD := hD0.self (sz := s.heap.size)
  generalize hAe : va_A [(h0, .inr (11, [.ref tp, .ref sh, .ref me, .ref te, .ref en, .ref lx, .ref pa, .ref fr, .ref re, .ref ty, .ref fm, .ref pr, .int 0, .int 0])), (tp, .inr (0, [.int 65536, .ref ta, .int 0])), (o, .inl (cJ, 1, .inr (.inl g)))] s.heap.size = A at hD ⊢
  have hA : ∀ q : Nat, s.heap.size ≤ q → A q := fun q h => by rw [← hAe]; exact Or.inr h
  have hS : va_S A s.heap s.heap [] := va_S.rf
  have hP : va_P (dC, dI) classes [(h0, .inr (11, [.ref tp, .ref sh, .ref me, .ref te, .ref en, .ref lx, .ref pa, .ref fr, .ref re, .ref ty, .ref fm, .ref pr, .int 0, .int 0])), (tp, .inr (0, [.int 65536, .ref ta, .int 0])), (o, .inl (cJ, 1, .inr (.inl g)))] s.heap := hP
  have hl := lv_entry ([.ref h0, .int 0, .ref o]) (n := 4) (Nat.le_of_ble_eq_true rfl)
  rw [lg_entry_eq]
  generalize (lg_sl ([.ref h0, .int 0, .ref o]) ++ List.replicate (4 - (lg_sl ([.ref h0, .int 0, .ref o])).length) Slot.unset).toArray = ls at hl ⊢
  have hl : lv_has ls 4 [(0, .ref h0), (1, .int 0), (2, .ref o)] := hl
  refine lv_aload_n hx hb d_Law_end_0 rfl (lv_at hl 2 rfl) ?_
  refine lv_iconst (v := 0) hx hb d_Law_end_1 (by decide) ?_
  refine lv_aload_n hx hb d_Law_end_2 rfl (lv_at hl 0 rfl) ?_
  refine lv_iload_n hx hb d_Law_end_3 rfl (lv_at hl 1 rfl) ?_
  refine W.callR (W.runV (As := [.int 0]) (rest := [.int 0, .ref o]) ⟨hx, hb, hml, hown, hT⟩ (c_Ker_end0 l dC dI h0 tp ta sh sa me te t1 t2 t3 t4 t5 t6 t7 t8 en fc fa nn lx tk ka pa fr re ty fm pr cT cK) (cwV 1 hT (gV vt_367 vt_368 vt_369 vt_318 vt_370) rfl rfl rfl (by decide +kernel) ⟨Nat.le_of_ble_eq_true rfl, Nat.le_of_ble_eq_true rfl⟩) ⟨Pp_blind, va_recv hK hP (ci := 11) (q0 := 0) rfl rfl, Pp_of (hP.sub (ws' := [(h0, .inr (11, [.ref tp, .ref sh, .ref me, .ref te, .ref en, .ref lx, .ref pa, .ref fr, .ref re, .ref ty, .ref fm, .ref pr, .int 0, .int 0])), (tp, .inr (0, [.int 65536, .ref ta, .int 0]))]) [0, 1] rfl) (hK.sub (tys' := []) [] rfl)⟩ rfl rfl hl.1 rfl (lv_room (Nat.le_of_ble_eq_true rfl)) d_Law_end_4 ⟨Nat.le_of_ble_eq_true rfl, Nat.le_of_ble_eq_true rfl⟩) ?_
  refine W.eq (g2 := F0 m 7 ls [.int 0, .int 0, .ref o]) rfl ?_
  refine lv_i2l (v := 0) hx hb d_Law_end_7 (by decide) ?_
  refine va_last hx hb hK hP hD hS 2 0 rfl rfl (vp0 (by decide) (by decide)) d_Law_end_8 (fun H locs hP hD hS => ?_)
  have hP : va_P (dC, dI) classes [(h0, .inr (11, [.ref tp, .ref sh, .ref me, .ref te, .ref en, .ref lx, .ref pa, .ref fr, .ref re, .ref ty, .ref fm, .ref pr, .int 0, .int 0])), (tp, .inr (0, [.int 65536, .ref ta, .int 0])), (o, .inl (cJ, 1, .inr (.inl (vp_updL g 0 0))))] H := hP
  have hD : va_D A [(h0, .inr (11, [.ref tp, .ref sh, .ref me, .ref te, .ref en, .ref lx, .ref pa, .ref fr, .ref re, .ref ty, .ref fm, .ref pr, .int 0, .int 0])), (tp, .inr (0, [.int 65536, .ref ta, .int 0])), (o, .inl (cJ, 1, .inr (.inl (vp_updL g 0 0))))] := hD
  refine lv_goto (tgt := 15) hx hb d_Law_end_9 (by decide) ?_
  refine lv_iconst (v := 0) hx hb d_Law_end_15 (by decide) ?_
  refine W.widen (k := 0) (n := 0) (Nat.le_of_ble_eq_true rfl) (Nat.le_of_ble_eq_true rfl) ?_
  have hP9 := hP.sub (ws' := [(o, .inl (cJ, 1, .inr (.inl (vp_updL g 0 0))))]) [2] rfl
  have hD9 := hD.sub (ws' := [(o, .inl (cJ, 1, .inr (.inl (vp_updL g 0 0))))]) [2] (by decide) rfl
  have hK9 := hK.sub (tys' := [(cJ, .long)]) [0] rfl
  exact W.iret (v := 0) hx hb hr (fun t ht hW => ⟨⟨0, (), rfl, rfl, (vp_updL g 0 0), by rw [ht]; exact hP9, va_K.moved hW.alike hK9, hD9, pk_uLs⟩, hS.F ht⟩) hS.2.2 d_Law_end_16
set_option maxHeartbeats 4000000 in
set_option maxRecDepth 100000 in
/-- feed -/
theorem g_feed (l : Launch) (dC : Nat → ClassId) (dI : Nat → Nat → Nat) (sz : Nat) (h0 tp ta sh sa me te t1 t2 t3 t4 t5 t6 t7 t8 en fc fa nn lx tk ka pa fr re ty fm pr : Nat) (cT cK : ClassId) (o : Nat) (cJ : ClassId) (g : Nat → Int64) (p1 p2 p3 p4 p5 : Int32) : Met l y_Law_feed w_Law_feed ({ frames := 60, cells := 0, slots := 0, locals := 1800 }) (Pw dC dI [.ref h0, .int p1, .int p2, .int p3, .int p4, .int p5, .ref o] sz [(h0, .inr (11, [.ref tp, .ref sh, .ref me, .ref te, .ref en, .ref lx, .ref pa, .ref fr, .ref re, .ref ty, .ref fm, .ref pr, .int 0, .int 0])), (tp, .inr (0, [.int 65536, .ref ta, .int (nI 0)])), (ta, .inl (cT, 256, .inl (fun _ => 0))), (o, .inl (cJ, 1, .inr (.inl g)))] [(cT, .int), (cJ, .long)]) (va_Qi (fun (r : Int32) (_ : Unit) => r = 0) (fun _ t => ∃ (g2 : Nat → Int64), va_P (dC, dI) classes [(o, .inl (cJ, 1, .inr (.inl g2)))] t.heap ∧ va_K (dC, dI) classes [(cJ, .long)] t ∧ va_D (va_A [(h0, .inr (11, [.ref tp, .ref sh, .ref me, .ref te, .ref en, .ref lx, .ref pa, .ref fr, .ref re, .ref ty, .ref fm, .ref pr, .int 0, .int 0])), (tp, .inr (0, [.int 65536, .ref ta, .int (nI 0)])), (ta, .inl (cT, 256, .inl (fun _ => 0))), (o, .inl (cJ, 1, .inr (.inl g)))] sz) [(o, .inl (cJ, 1, .inr (.inl g2)))] ∧ g2 0 = 20) (va_A [(h0, .inr (11, [.ref tp, .ref sh, .ref me, .ref te, .ref en, .ref lx, .ref pa, .ref fr, .ref re, .ref ty, .ref fm, .ref pr, .int 0, .int 0])), (tp, .inr (0, [.int 65536, .ref ta, .int (nI 0)])), (ta, .inl (cT, 256, .inl (fun _ => 0))), (o, .inl (cJ, 1, .inr (.inl g)))] sz)) 0 0 (va_A [(h0, .inr (11, [.ref tp, .ref sh, .ref me, .ref te, .ref en, .ref lx, .ref pa, .ref fr, .ref re, .ref ty, .ref fm, .ref pr, .int 0, .int 0])), (tp, .inr (0, [.int 65536, .ref ta, .int (nI 0)])), (ta, .inl (cT, 256, .inl (fun _ => 0))), (o, .inl (cJ, 1, .inr (.inl g)))] sz) := by
  refine va_MetW (hh := [(0, 16, 19, 13)]) (cc := b_Law_feed) (maxL := 8) (ret := (some .int)) (by decide) rfl ?_
  intro p e s m args below meth c s₁ B hml hv
  obtain ⟨rfl, hsz, hP, hK, hD0⟩ := hv
  have hx := B.exec
  have hb := B.bytes
  have hr := B.returns
  have hT : ∀ w ∈ vT, w.before _ s = true := fun w h => atoms_spec (ws := w_Law_feed) B.pre w (List.mem_cons_of_mem _ h)
  have hown : s.vm.findClass R_Law = some m.cls := findClass_of_methodNamed B.named
  have hlocks := B.notSynchronized
  subst hsz
  have hD := hD0.self (sz := s.heap.size)
  generalize hAe : va_A [(h0, .inr (11, [.ref tp, .ref sh, .ref me, .ref te, .ref en, .ref lx, .ref pa, .ref fr, .ref re, .ref ty, .ref fm, .ref pr, .int 0, .int 0])), (tp, .inr (0, [.int 65536, .ref ta, .int (nI 0)])), (ta, .inl (cT, 256, .inl (fun _ => 0))), (o, .inl (cJ, 1, .inr (.inl g)))] s.heap.size = A at hD ⊢
  have hA : ∀ q : Nat, s.heap.size ≤ q → A q := fun q h => by rw [← hAe]; exact Or.inr h
  have hS : va_S A s.heap s.heap [] := va_S.rf
  have hP : va_P (dC, dI) classes [(h0, .inr (11, [.ref tp, .ref sh, .ref me, .ref te, .ref en, .ref lx, .ref pa, .ref fr, .ref re, .ref ty, .ref fm, .ref pr, .int 0, .int 0])), (tp, .inr (0, [.int 65536, .ref ta, .int (nI 0)])), (ta, .inl (cT, 256, .inl (fun _ => 0))), (o, .inl (cJ, 1, .inr (.inl g)))] s.heap := hP
  have hl := lv_entry ([.ref h0, .int p1, .int p2, .int p3, .int p4, .int p5, .ref o]) (n := 8) (Nat.le_of_ble_eq_true rfl)
  rw [lg_entry_eq]
  generalize (lg_sl ([.ref h0, .int p1, .int p2, .int p3, .int p4, .int p5, .ref o]) ++ List.replicate (8 - (lg_sl ([.ref h0, .int p1, .int p2, .int p3, .int p4, .int p5, .ref o])).length) Slot.unset).toArray = ls at hl ⊢
  have hl : lv_has ls 8 [(0, .ref h0), (1, .int p1), (2, .int p2), (3, .int p3), (4, .int p4), (5, .int p5), (6, .ref o)] := hl
  refine lv_aload hx hb d_Law_feed_0 (lv_at hl 6 rfl) ?_
  refine lv_iconst (v := 0) hx hb d_Law_feed_2 (by decide) ?_
  refine lv_aload_n hx hb d_Law_feed_3 rfl (lv_at hl 0 rfl) ?_
  refine lv_iload_n hx hb d_Law_feed_4 rfl (lv_at hl 1 rfl) ?_
  refine lv_iload_n hx hb d_Law_feed_5 rfl (lv_at hl 2 rfl) ?_
  refine lv_iload_n hx hb d_Law_feed_6 rfl (lv_at hl 3 rfl) ?_
  refine lv_iload hx hb d_Law_feed_7 (lv_at hl 4 rfl) ?_
  refine lv_iload hx hb d_Law_feed_9 (lv_at hl 5 rfl) ?_
  have hPc := hP.sub (ws' := [(h0, .inr (11, [.ref tp, .ref sh, .ref me, .ref te, .ref en, .ref lx, .ref pa, .ref fr, .ref re, .ref ty, .ref fm, .ref pr, .int 0, .int 0])), (tp, .inr (0, [.int 65536, .ref ta, .int (nI 0)])), (ta, .inl (cT, 256, .inl (fun _ => 0)))]) [0, 1, 2] rfl
  have hDc := hD.sub (ws' := [(h0, .inr (11, [.ref tp, .ref sh, .ref me, .ref te, .ref en, .ref lx, .ref pa, .ref fr, .ref re, .ref ty, .ref fm, .ref pr, .int 0, .int 0])), (tp, .inr (0, [.int 65536, .ref ta, .int (nI 0)])), (ta, .inl (cT, 256, .inl (fun _ => 0)))]) [0, 1, 2] (by decide) rfl
  have hKc := hK.sub (tys' := [(cT, .int)]) [0] rfl
  have hFc := va_free (wc := [(h0, .inr (11, [.ref tp, .ref sh, .ref me, .ref te, .ref en, .ref lx, .ref pa, .ref fr, .ref re, .ref ty, .ref fm, .ref pr, .int 0, .int 0])), (tp, .inr (0, [.int 65536, .ref ta, .int (nI 0)])), (ta, .inl (cT, 256, .inl (fun _ => 0)))]) hD hS hA [0, 1, 2] rfl
  refine va_calli (va_runV (As := [.int p1, .int p2, .int p3, .int p4, .int p5]) (rest := [.int 0, .ref o]) ⟨hx, hb, hml, hown, hT⟩ (c_Ker_feed l dC dI s.heap.size h0 tp ta sh sa me te t1 t2 t3 t4 t5 t6 t7 t8 en fc fa nn lx tk ka pa fr re ty fm pr cT cK p1 p2 p3 p4 p5) (cwV 5 hT (gV vt_390 vt_391 vt_392 vt_318 vt_393) rfl rfl rfl (by decide +kernel) ⟨Nat.le_of_ble_eq_true rfl, Nat.le_of_ble_eq_true rfl⟩) ⟨Pw_blind, va_recv hK hP (ci := 11) (q0 := 0) rfl rfl, Pw_of hPc hKc hDc⟩ rfl rfl hl.1 rfl (lv_room (Nat.le_of_ble_eq_true rfl)) d_Law_feed_11 ⟨Nat.le_of_ble_eq_true rfl, Nat.le_of_ble_eq_true rfl⟩) hS (fun q _ h => hFc q h) hFc (fun r_1 u t H1 locs ht hvm hw hB hz1 hk1 hS => ?_)
  obtain ⟨hP, hD⟩ := va_join (wr := [(o, .inl (cJ, 1, .inr (.inl g)))]) (w1 := []) hP hD [0, 1, 2] [3] rfl rfl (by decide) (by decide) hk1 hFc va_P_nil va_D_nil
  generalize H1 = H at hP hS ⊢
  have hP : va_P (dC, dI) classes [(o, .inl (cJ, 1, .inr (.inl g)))] H := hP
  have hD : va_D A [(o, .inl (cJ, 1, .inr (.inl g)))] := hD
  refine W.widen (k := 0) (n := 0) (Nat.le_of_ble_eq_true rfl) (Nat.le_of_ble_eq_true rfl) ?_
  subst hw
  refine lv_i2l (v := 20) hx hb d_Law_feed_14 (by decide) ?_
  refine va_last hx hb hK hP hD hS 0 1 rfl rfl (vp0 (by decide) (by decide)) d_Law_feed_15 (fun H locs hP hD hS => ?_)
  have hP : va_P (dC, dI) classes [(o, .inl (cJ, 1, .inr (.inl (vp_updL g 0 20))))] H := hP
  have hD : va_D A [(o, .inl (cJ, 1, .inr (.inl (vp_updL g 0 20))))] := hD
  refine lv_goto (tgt := 23) hx hb d_Law_feed_16 (by decide) ?_
  refine lv_iconst (v := 0) hx hb d_Law_feed_23 (by decide) ?_
  refine W.widen (k := 0) (n := 0) (Nat.le_of_ble_eq_true rfl) (Nat.le_of_ble_eq_true rfl) ?_
  have hP9 := hP.sub (ws' := [(o, .inl (cJ, 1, .inr (.inl (vp_updL g 0 20))))]) [0] rfl
  have hD9 := hD.sub (ws' := [(o, .inl (cJ, 1, .inr (.inl (vp_updL g 0 20))))]) [0] (by decide) rfl
  have hK9 := hK.sub (tys' := [(cJ, .long)]) [1] rfl
  exact W.iret (v := 0) hx hb hr (fun t ht hW => ⟨⟨0, (), rfl, rfl, (vp_updL g 0 20), by rw [ht]; exact hP9, va_K.moved hW.alike hK9, hD9, pk_uLs⟩, hS.F ht⟩) hS.2.2 d_Law_feed_24
