theorem va_newk {p : Program} {l : Launch} {e : Env} {R : Room} {s : State} {m : MethodId} {args : Array Value} {below : List Frame} {meth : Method} {c : Code} {H H0 : Heap} {locs : List Loc} {cells slots : Nat} {Q : State → Prop} {cc : ByteArray} {D : va_G} {cl : List vw_C} {tys : List (ClassId × FieldType)} {ws : va_W} {A : Nat → Prop} {pc : Nat} {ls : Array Slot} {rest : List Value}
    (hexec : p.tables.exec = Jvm.exec) (hb : c.code = cc) {atype : ArrayType} (harr : (Cond.arrayClass (newarray.typeOf atype)).before args s = true) {ty : FieldType} (hty : newarray.typeOf atype = ty) (hK : va_K D cl tys s) (t0 : Nat) {cA : ClassId} (ht : tys[t0]? = some (cA, ty)) (hpr : ∀ (U : State) (c : ClassId), va_RA U c ty = (U.vm.findClass ("[" ++ ty.toString) = some c)) (hP : va_P D cl ws H) (hD : va_D A ws) (hS : va_S A H0 H locs) (hA : ∀ q, H0.size ≤ q → A q)
    {n : Int32} {N' : Nat} {a0 : vp_A} (ha : ∀ cA : ClassId, vp_cell cA a0 = arrV cA N' (fun _ => defaultValue ty)) (hn : ¬ n < 0) (hN : n.toNatClampNeg = N') (hbytes : N' * componentBytes ty ≤ 536870912) (hcells : cells + 1 ≤ R.cells) (hslots : slots + N' ≤ R.slots) (hdg : decode cc pc = .ok (.newarray atype, 2))
    (kk : ∀ (q : Nat) (H1 : Heap), va_P D cl (ws ++ [(q, .inl (cA, a0))]) H1 → va_D A (ws ++ [(q, .inl (cA, a0))]) → va_S A H0 H1 locs →
      W p l e R s m args below meth c H1 locs (cells + 1) (slots + N') Q (F0 m (pc + 2) ls (.ref q :: rest))) : W p l e R s m args below meth c H locs cells slots Q (F0 m pc ls (.int n :: rest)) := by
  refine va_newa hexec hb harr hty hK hP hD hS hA ha hn hN hbytes hcells hslots hdg (fun q cB H1 hK1 hP1 hD1 hS1 => ?_)
  have h1 := (hK1.2 tys.length (cB, ty) (by rw [List.getElem?_append_right (Nat.le_refl _), Nat.sub_self]; rfl)).2
  have h2 := (hK.2 t0 (cA, ty) ht).2
  rw [hpr] at h1 h2
  cases h1.symm.trans h2
  exact kk q H1 hP1 hD1 hS1
theorem arr_known {args : Array Value} {s : State} {ty : FieldType} (h : (Cond.arrayClass ty).before args s = true) : ∃ cA : ClassId, ArrOfT s cA ty ∧ s.vm.findClass ("[" ++ ty.toString) = some cA := by
  obtain ⟨c, k, comp, h1, h2, h3⟩ := Cond.arrayClass_spec h
  exact ⟨c, fun n z => ⟨fun k h => (by cases h), k, h2, comp, h3⟩, h1⟩
set_option maxHeartbeats 4000000 in
set_option maxRecDepth 100000 in
/-- Row(k, mo) -/
theorem c_Row_init (l : Launch) (dC : Nat → ClassId) (dI : Nat → Nat → Nat) (sz : Nat) (h0 N : Nat) (cI : ClassId) (k mo : Int32) (hk : ¬ k ≤ 0) (hk0 : ¬ k < 0) (hN : k.toNatClampNeg = N) (hNb : N * componentBytes .int ≤ 536870912) : Met l y_Row_init w_Row_init ({ frames := 10, cells := 1, slots := N, locals := 300 }) (Pw dC dI [.ref h0, .int k, .int mo] sz [(h0, .inr (0, [.int 0, .null, .int 0]))] [(cI, .int)]) (va_Qv (fun _ : Unit => True) (fun _ t => ∃ (qa : Nat), va_P (dC, dI) classes [(h0, .inr (0, [.int mo, .ref qa, .int 0])), (qa, .inl (cI, N, .inl (fun _ => 0)))] t.heap ∧ va_K (dC, dI) classes [(cI, .int)] t ∧ va_D (va_A [(h0, .inr (0, [.int 0, .null, .int 0]))] sz) [(h0, .inr (0, [.int mo, .ref qa, .int 0])), (qa, .inl (cI, N, .inl (fun _ => 0)))]) (va_A [(h0, .inr (0, [.int 0, .null, .int 0]))] sz)) 1 N (va_A [(h0, .inr (0, [.int 0, .null, .int 0]))] sz) := by
  refine Met.ofW (cc := b_Row_init) (maxL := 3) (ret := none) (by decide) rfl ?_
  intro p e s m args below meth c s₁ B hml hv
  obtain ⟨rfl, hsz, hP, hK, hD0⟩ := hv
  have hx := B.exec
  have hb := B.bytes
  have hr := B.returns
  have hT : ∀ w ∈ vT, w.before _ s = true := fun w h => atoms_spec (ws := w_Row_init) B.pre w (List.mem_cons_of_mem _ h)
  have hown : s.vm.findClass R_Row = some m.cls := findClass_of_methodNamed B.named
  have hlocks := B.notSynchronized
  have hin : meth.name = "<init>" := (name_of_methodNamed B.named B.method).1
  subst hsz
  have hD := hD0.self (sz := s.heap.size)
  generalize hAe : va_A [(h0, .inr (0, [.int 0, .null, .int 0]))] s.heap.size = A at hD ⊢
  have hA : ∀ q : Nat, s.heap.size ≤ q → A q := fun q h => by rw [← hAe]; exact Or.inr h
  have hS : va_S A s.heap s.heap [] := va_S.rf
  have hP : va_P (dC, dI) classes [(h0, .inr (0, [.int 0, .null, .int 0]))] s.heap := hP
  have hl := lv_entry ([.ref h0, .int k, .int mo]) (n := 3) (Nat.le_of_ble_eq_true rfl)
  rw [lg_entry_eq]
  generalize (lg_sl ([.ref h0, .int k, .int mo]) ++ List.replicate (3 - (lg_sl ([.ref h0, .int k, .int mo])).length) Slot.unset).toArray = ls at hl ⊢
  have hl : lv_has ls 3 [(0, .ref h0), (1, .int k), (2, .int mo)] := hl
  refine lv_aload_n hx hb d_Row_init_0 rfl (lv_at hl 0 rfl) ?_
  refine W.objInit hx hb hown (hT _ vt_82) (hT _ vt_1) (hT _ vt_2) rfl (by rw [hml]; exact hl.1) rfl d_Row_init_1 (Nat.le_of_ble_eq_true rfl) (Nat.le_of_ble_eq_true rfl) ?_
  refine W.eq (g2 := F0 m 4 ls []) rfl ?_
  refine lv_aload_n hx hb d_Row_init_4 rfl (lv_at hl 0 rfl) ?_
  refine lv_iload_n hx hb d_Row_init_5 rfl (lv_at hl 1 rfl) ?_
  refine lv_if_le (tgt := 13) hx hb d_Row_init_6 (by decide) (fun c_1 => absurd c_1 (hk)) (fun c_1 => ?_)
  refine lv_iload_n hx hb d_Row_init_9 rfl (lv_at hl 1 rfl) ?_
  refine lv_goto (tgt := 14) hx hb d_Row_init_10 (by decide) ?_
  refine va_newk (atype := .int) (ty := .int) (cA := cI) (a0 := (N, .inl (fun _ => 0))) hx hb (hT _ vt_83) rfl hK 0 rfl (fun _ _ => rfl) hP hD hS hA (fun _ => rfl) hk0 hN hNb (Nat.le_of_ble_eq_true rfl) (Nat.le_of_eq (Nat.zero_add N)) d_Row_init_14 (fun q_2 H hP hD hS => ?_)
  have hP : va_P (dC, dI) classes [(h0, .inr (0, [.int 0, .null, .int 0])), (q_2, .inl (cI, N, .inl (fun _ => 0)))] H := hP
  have hD : va_D A [(h0, .inr (0, [.int 0, .null, .int 0])), (q_2, .inl (cI, N, .inl (fun _ => 0)))] := hD
  refine W.widen (k := 1) (n := N) (Nat.le_refl _) (Nat.le_of_eq (Nat.zero_add N)) ?_
  refine va_put (D := (dC, dI)) (ci := 0) (v := .ref q_2) (ty := (.array .int)) (C := R_Row) (T := T_Row) (N := 3) hx hb hT in_Row ty_Row tyo_Row nm_Row hown hK hP hD hS 0 rfl rfl 1 (by decide) (hT _ vt_84) (fun _ h9 => h9) rfl (by decide +kernel) rfl rfl (Nat.le_of_ble_eq_true rfl) d_Row_init_16 (fun H locs hP hD hS => ?_)
  have hP : va_P (dC, dI) classes [(h0, .inr (0, [.int 0, .ref q_2, .int 0])), (q_2, .inl (cI, N, .inl (fun _ => 0)))] H := hP
  have hD : va_D A [(h0, .inr (0, [.int 0, .ref q_2, .int 0])), (q_2, .inl (cI, N, .inl (fun _ => 0)))] := hD
  refine lv_aload_n hx hb d_Row_init_19 rfl (lv_at hl 0 rfl) ?_
  refine lv_iload_n hx hb d_Row_init_20 rfl (lv_at hl 2 rfl) ?_
  refine va_putF (D := (dC, dI)) (ci := 0) (v := .int mo) (ty := .int) (C := R_Row) (T := T_Row) (N := 3) hx hb hT in_Row ty_Row tyo_Row nm_Row hown hK hP hD hS 0 rfl rfl 0 (by decide) (hT _ vt_85) (fun _ h9 => h9) rfl hin rfl (by decide +kernel) rfl rfl (Nat.le_of_ble_eq_true rfl) d_Row_init_21 (fun H locs hP hD hS => ?_)
  have hP : va_P (dC, dI) classes [(h0, .inr (0, [.int mo, .ref q_2, .int 0])), (q_2, .inl (cI, N, .inl (fun _ => 0)))] H := hP
  have hD : va_D A [(h0, .inr (0, [.int mo, .ref q_2, .int 0])), (q_2, .inl (cI, N, .inl (fun _ => 0)))] := hD
  have hP9 := hP.sub (ws' := [(h0, .inr (0, [.int mo, .ref q_2, .int 0])), (q_2, .inl (cI, N, .inl (fun _ => 0)))]) [0, 1] rfl
  have hD9 := hD.sub (ws' := [(h0, .inr (0, [.int mo, .ref q_2, .int 0])), (q_2, .inl (cI, N, .inl (fun _ => 0)))]) [0, 1] (by decide) rfl
  have hK9 := hK.sub (tys' := [(cI, .int)]) [0] rfl
  exact W.vret hx hb hr (fun t ht hW => ⟨⟨(), rfl, trivial, q_2, by rw [ht]; exact hP9, va_K.moved hW.alike hK9, hD9⟩, hS.F ht⟩) hS.2.2 d_Row_init_24
set_option maxHeartbeats 4000000 in
set_option maxRecDepth 100000 in
/-- Meter(..) -/
theorem c_Meter_init (l : Launch) (dC : Nat → ClassId) (dI : Nat → Nat → Nat) (sz : Nat) (h0 : Nat) (cI : ClassId) : Met l y_Meter_init w_Meter_init ({ frames := 20, cells := 0, slots := 0, locals := 600 }) (Pw dC dI [.ref h0] sz [(h0, .inr (1, [.int 0, .int 0, .int 0, .int 0]))] [(cI, .int)]) (va_Qv (fun _ : Unit => True) (fun _ t => va_P (dC, dI) classes [(h0, .inr (1, [.int 0, .int 0, .int 0, .int 0]))] t.heap ∧ va_K (dC, dI) classes [(cI, .int)] t ∧ va_D (va_A [(h0, .inr (1, [.int 0, .int 0, .int 0, .int 0]))] sz) [(h0, .inr (1, [.int 0, .int 0, .int 0, .int 0]))]) (va_A [(h0, .inr (1, [.int 0, .int 0, .int 0, .int 0]))] sz)) 0 0 (va_A [(h0, .inr (1, [.int 0, .int 0, .int 0, .int 0]))] sz) := by
  refine Met.ofW (cc := b_Meter_init) (maxL := 1) (ret := none) (by decide) rfl ?_
  intro p e s m args below meth c s₁ B hml hv
  obtain ⟨rfl, hsz, hP, hK, hD0⟩ := hv
  have hx := B.exec
  have hb := B.bytes
  have hr := B.returns
  have hT : ∀ w ∈ vT, w.before _ s = true := fun w h => atoms_spec (ws := w_Meter_init) B.pre w (List.mem_cons_of_mem _ h)
  have hown : s.vm.findClass R_Meter = some m.cls := findClass_of_methodNamed B.named
  have hlocks := B.notSynchronized
  have hin : meth.name = "<init>" := (name_of_methodNamed B.named B.method).1
  subst hsz
  have hD := hD0.self (sz := s.heap.size)
  generalize hAe : va_A [(h0, .inr (1, [.int 0, .int 0, .int 0, .int 0]))] s.heap.size = A at hD ⊢
  have hA : ∀ q : Nat, s.heap.size ≤ q → A q := fun q h => by rw [← hAe]; exact Or.inr h
  have hS : va_S A s.heap s.heap [] := va_S.rf
  have hP : va_P (dC, dI) classes [(h0, .inr (1, [.int 0, .int 0, .int 0, .int 0]))] s.heap := hP
  have hl := lv_entry ([.ref h0]) (n := 1) (Nat.le_of_ble_eq_true rfl)
  rw [lg_entry_eq]
  generalize (lg_sl ([.ref h0]) ++ List.replicate (1 - (lg_sl ([.ref h0])).length) Slot.unset).toArray = ls at hl ⊢
  have hl : lv_has ls 1 [(0, .ref h0)] := hl
  refine lv_aload_n hx hb d_Meter_init_0 rfl (lv_at hl 0 rfl) ?_
  refine W.objInit hx hb hown (hT _ vt_86) (hT _ vt_1) (hT _ vt_2) rfl (by rw [hml]; exact hl.1) rfl d_Meter_init_1 (Nat.le_of_ble_eq_true rfl) (Nat.le_of_ble_eq_true rfl) ?_
  refine W.eq (g2 := F0 m 4 ls []) rfl ?_
  refine W.widen (k := 0) (n := 0) (Nat.le_of_ble_eq_true rfl) (Nat.le_of_ble_eq_true rfl) ?_
  have hP9 := hP.sub (ws' := [(h0, .inr (1, [.int 0, .int 0, .int 0, .int 0]))]) [0] rfl
  have hD9 := hD.sub (ws' := [(h0, .inr (1, [.int 0, .int 0, .int 0, .int 0]))]) [0] (by decide) rfl
  have hK9 := hK.sub (tys' := [(cI, .int)]) [0] rfl
  exact W.vret hx hb hr (fun t ht hW => ⟨⟨(), rfl, trivial, by rw [ht]; exact hP9, va_K.moved hW.alike hK9, hD9⟩, hS.F ht⟩) hS.2.2 d_Meter_init_4
set_option maxHeartbeats 4000000 in
set_option maxRecDepth 100000 in
/-- Env(..) -/
theorem c_Env_init (l : Launch) (dC : Nat → ClassId) (dI : Nat → Nat → Nat) (sz : Nat) (h0 : Nat) (cI : ClassId) : Met l y_Env_init w_Env_init ({ frames := 20, cells := 4, slots := 166, locals := 600 }) (Pw dC dI [.ref h0] sz [(h0, .inr (3, [.null, .null, .int 0]))] [(cI, .int)]) (va_Qv (fun _ : Unit => True) (fun _ t => ∃ (r_facts a_facts r_names a_names : Nat), va_P (dC, dI) classes [(h0, .inr (3, [.ref r_facts, .ref r_names, .int 0])), (r_facts, .inr (0, [.int 16777216, .ref a_facts, .int 0])), (a_facts, .inl (cI, 96, .inl (fun _ => 0))), (r_names, .inr (0, [.int 16777216, .ref a_names, .int 0])), (a_names, .inl (cI, 64, .inl (fun _ => 0)))] t.heap ∧ va_K (dC, dI) classes [(cI, .int)] t ∧ va_D (va_A [(h0, .inr (3, [.null, .null, .int 0]))] sz) [(h0, .inr (3, [.ref r_facts, .ref r_names, .int 0])), (r_facts, .inr (0, [.int 16777216, .ref a_facts, .int 0])), (a_facts, .inl (cI, 96, .inl (fun _ => 0))), (r_names, .inr (0, [.int 16777216, .ref a_names, .int 0])), (a_names, .inl (cI, 64, .inl (fun _ => 0)))]) (va_A [(h0, .inr (3, [.null, .null, .int 0]))] sz)) 4 166 (va_A [(h0, .inr (3, [.null, .null, .int 0]))] sz) := by
  refine Met.ofW (cc := b_Env_init) (maxL := 1) (ret := none) (by decide) rfl ?_
  intro p e s m args below meth c s₁ B hml hv
  obtain ⟨rfl, hsz, hP, hK, hD0⟩ := hv
  have hx := B.exec
  have hb := B.bytes
  have hr := B.returns
  have hT : ∀ w ∈ vT, w.before _ s = true := fun w h => atoms_spec (ws := w_Env_init) B.pre w (List.mem_cons_of_mem _ h)
  have hown : s.vm.findClass R_Env = some m.cls := findClass_of_methodNamed B.named
  have hlocks := B.notSynchronized
  have hin : meth.name = "<init>" := (name_of_methodNamed B.named B.method).1
  subst hsz
  have hD := hD0.self (sz := s.heap.size)
  generalize hAe : va_A [(h0, .inr (3, [.null, .null, .int 0]))] s.heap.size = A at hD ⊢
  have hA : ∀ q : Nat, s.heap.size ≤ q → A q := fun q h => by rw [← hAe]; exact Or.inr h
  have hS : va_S A s.heap s.heap [] := va_S.rf
  have hP : va_P (dC, dI) classes [(h0, .inr (3, [.null, .null, .int 0]))] s.heap := hP
  have hl := lv_entry ([.ref h0]) (n := 1) (Nat.le_of_ble_eq_true rfl)
  rw [lg_entry_eq]
  generalize (lg_sl ([.ref h0]) ++ List.replicate (1 - (lg_sl ([.ref h0])).length) Slot.unset).toArray = ls at hl ⊢
  have hl : lv_has ls 1 [(0, .ref h0)] := hl
  refine lv_aload_n hx hb d_Env_init_0 rfl (lv_at hl 0 rfl) ?_
  refine W.objInit hx hb hown (hT _ vt_101) (hT _ vt_1) (hT _ vt_2) rfl (by rw [hml]; exact hl.1) rfl d_Env_init_1 (Nat.le_of_ble_eq_true rfl) (Nat.le_of_ble_eq_true rfl) ?_
  refine W.eq (g2 := F0 m 4 ls []) rfl ?_
  refine lv_aload_n hx hb d_Env_init_4 rfl (lv_at hl 0 rfl) ?_
  refine va_new (ci := 0) (fs := [.int 0, .null, .int 0]) (C := R_Row) (T := T_Row) (N := 3) hx hb hT in_Row ty_Row tyo_Row hown (hT _ vt_102) (hT _ vt_5) (hT _ vt_4) hK hP hD hS hA rfl df_Row (Nat.le_of_ble_eq_true rfl) (Nat.le_of_ble_eq_true rfl) d_Env_init_5 (fun q_1 H hP hD hS => ?_)
  have hP : va_P (dC, dI) classes [(h0, .inr (3, [.null, .null, .int 0])), (q_1, .inr (0, [.int 0, .null, .int 0]))] H := hP
  have hD : va_D A [(h0, .inr (3, [.null, .null, .int 0])), (q_1, .inr (0, [.int 0, .null, .int 0]))] := hD
  refine W.widen (k := 1) (n := 3) (Nat.le_of_ble_eq_true rfl) (Nat.le_of_ble_eq_true rfl) ?_
  refine lv_dup hx hb d_Env_init_8 rfl ?_
  refine lv_bipush (v := 96) hx hb d_Env_init_9 (by decide) ?_
  refine lv_ldc (v := 16777216) hx hb hown (hT _ vt_103) d_Env_init_11 ?_
  have hPc := hP.sub (ws' := [(q_1, .inr (0, [.int 0, .null, .int 0]))]) [1] rfl
  have hDc := hD.sub (ws' := [(q_1, .inr (0, [.int 0, .null, .int 0]))]) [1] (by decide) rfl
  have hKc := hK.sub (tys' := [(cI, .int)]) [0] rfl
  have hFc := va_free (wc := [(q_1, .inr (0, [.int 0, .null, .int 0]))]) hD hS hA [1] rfl
  refine va_callv (va_runI (As := [.int 96, .int 16777216]) (rest := [.ref q_1, .ref h0]) ⟨hx, hb, hml, hown, hT⟩ (c_Row_init l dC dI H.size q_1 96 cI 96 16777216 (by decide) (by decide) (by decide) (by decide)) (cwI 2 hT (gI vt_9) rfl rfl rfl (hT _ vt_4) (hT _ vt_104) (hT _ vt_8) rfl (by decide +kernel) ⟨Nat.le_of_ble_eq_true rfl, Nat.le_of_ble_eq_true rfl⟩) ⟨Pw_blind, Pw_of hPc hKc hDc⟩ rfl rfl hl.1 rfl (lv_room (Nat.le_of_ble_eq_true rfl)) d_Env_init_13 ⟨Nat.le_of_ble_eq_true rfl, Nat.le_of_ble_eq_true rfl⟩) hS (fun q _ h => hFc q h) hFc (fun u t H1 locs ht hvm hw hB hz1 hk1 hS => ?_)
  obtain ⟨qa_2, hP1, hK1, hD1⟩ := hB
  rw [ht] at hP1
  have hK1 := va_K.moved hvm.symm hK1
  obtain ⟨hP, hD⟩ := va_join (wr := [(h0, .inr (3, [.null, .null, .int 0]))]) (w1 := [(q_1, .inr (0, [.int 16777216, .ref qa_2, .int 0])), (qa_2, .inl (cI, 96, .inl (fun _ => 0)))]) hP hD [1] [0] rfl rfl (by decide) (by decide) hk1 hFc hP1 hD1
  generalize H1 = H at hP hS ⊢
  have hP : va_P (dC, dI) classes [(h0, .inr (3, [.null, .null, .int 0])), (q_1, .inr (0, [.int 16777216, .ref qa_2, .int 0])), (qa_2, .inl (cI, 96, .inl (fun _ => 0)))] H := hP
  have hD : va_D A [(h0, .inr (3, [.null, .null, .int 0])), (q_1, .inr (0, [.int 16777216, .ref qa_2, .int 0])), (qa_2, .inl (cI, 96, .inl (fun _ => 0)))] := hD
  refine W.widen (k := 2) (n := 99) (Nat.le_of_ble_eq_true rfl) (Nat.le_of_ble_eq_true rfl) ?_
  refine va_putF (D := (dC, dI)) (ci := 3) (v := .ref q_1) (ty := (.object "FamilyKernel$Row")) (C := R_Env) (T := T_Env) (N := 3) hx hb hT in_Env ty_Env tyo_Env nm_Env hown hK hP hD hS 0 rfl rfl 0 (by decide) (hT _ vt_105) (fun _ h9 => h9) rfl hin rfl (by decide +kernel) rfl rfl (Nat.le_of_ble_eq_true rfl) d_Env_init_16 (fun H locs hP hD hS => ?_)
  have hP : va_P (dC, dI) classes [(h0, .inr (3, [.ref q_1, .null, .int 0])), (q_1, .inr (0, [.int 16777216, .ref qa_2, .int 0])), (qa_2, .inl (cI, 96, .inl (fun _ => 0)))] H := hP
  have hD : va_D A [(h0, .inr (3, [.ref q_1, .null, .int 0])), (q_1, .inr (0, [.int 16777216, .ref qa_2, .int 0])), (qa_2, .inl (cI, 96, .inl (fun _ => 0)))] := hD
  refine lv_aload_n hx hb d_Env_init_19 rfl (lv_at hl 0 rfl) ?_
  refine va_new (ci := 0) (fs := [.int 0, .null, .int 0]) (C := R_Row) (T := T_Row) (N := 3) hx hb hT in_Row ty_Row tyo_Row hown (hT _ vt_102) (hT _ vt_5) (hT _ vt_4) hK hP hD hS hA rfl df_Row (Nat.le_of_ble_eq_true rfl) (Nat.le_of_ble_eq_true rfl) d_Env_init_20 (fun q_4 H hP hD hS => ?_)
  have hP : va_P (dC, dI) classes [(h0, .inr (3, [.ref q_1, .null, .int 0])), (q_1, .inr (0, [.int 16777216, .ref qa_2, .int 0])), (qa_2, .inl (cI, 96, .inl (fun _ => 0))), (q_4, .inr (0, [.int 0, .null, .int 0]))] H := hP
  have hD : va_D A [(h0, .inr (3, [.ref q_1, .null, .int 0])), (q_1, .inr (0, [.int 16777216, .ref qa_2, .int 0])), (qa_2, .inl (cI, 96, .inl (fun _ => 0))), (q_4, .inr (0, [.int 0, .null, .int 0]))] := hD
  refine W.widen (k := 3) (n := 102) (Nat.le_of_ble_eq_true rfl) (Nat.le_of_ble_eq_true rfl) ?_
  refine lv_dup hx hb d_Env_init_23 rfl ?_
  refine lv_bipush (v := 64) hx hb d_Env_init_24 (by decide) ?_
  refine lv_ldc (v := 16777216) hx hb hown (hT _ vt_103) d_Env_init_26 ?_
  have hPc := hP.sub (ws' := [(q_4, .inr (0, [.int 0, .null, .int 0]))]) [3] rfl
  have hDc := hD.sub (ws' := [(q_4, .inr (0, [.int 0, .null, .int 0]))]) [3] (by decide) rfl
  have hKc := hK.sub (tys' := [(cI, .int)]) [0] rfl
  have hFc := va_free (wc := [(q_4, .inr (0, [.int 0, .null, .int 0]))]) hD hS hA [3] rfl
  refine va_callv (va_runI (As := [.int 64, .int 16777216]) (rest := [.ref q_4, .ref h0]) ⟨hx, hb, hml, hown, hT⟩ (c_Row_init l dC dI H.size q_4 64 cI 64 16777216 (by decide) (by decide) (by decide) (by decide)) (cwI 2 hT (gI vt_9) rfl rfl rfl (hT _ vt_4) (hT _ vt_104) (hT _ vt_8) rfl (by decide +kernel) ⟨Nat.le_of_ble_eq_true rfl, Nat.le_of_ble_eq_true rfl⟩) ⟨Pw_blind, Pw_of hPc hKc hDc⟩ rfl rfl hl.1 rfl (lv_room (Nat.le_of_ble_eq_true rfl)) d_Env_init_28 ⟨Nat.le_of_ble_eq_true rfl, Nat.le_of_ble_eq_true rfl⟩) hS (fun q _ h => hFc q h) hFc (fun u t H1 locs ht hvm hw hB hz1 hk1 hS => ?_)
  obtain ⟨qa_5, hP1, hK1, hD1⟩ := hB
  rw [ht] at hP1
  have hK1 := va_K.moved hvm.symm hK1
  obtain ⟨hP, hD⟩ := va_join (wr := [(h0, .inr (3, [.ref q_1, .null, .int 0])), (q_1, .inr (0, [.int 16777216, .ref qa_2, .int 0])), (qa_2, .inl (cI, 96, .inl (fun _ => 0)))]) (w1 := [(q_4, .inr (0, [.int 16777216, .ref qa_5, .int 0])), (qa_5, .inl (cI, 64, .inl (fun _ => 0)))]) hP hD [3] [0, 1, 2] rfl rfl (by decide) (by decide) hk1 hFc hP1 hD1
  generalize H1 = H at hP hS ⊢
  have hP : va_P (dC, dI) classes [(h0, .inr (3, [.ref q_1, .null, .int 0])), (q_1, .inr (0, [.int 16777216, .ref qa_2, .int 0])), (qa_2, .inl (cI, 96, .inl (fun _ => 0))), (q_4, .inr (0, [.int 16777216, .ref qa_5, .int 0])), (qa_5, .inl (cI, 64, .inl (fun _ => 0)))] H := hP
  have hD : va_D A [(h0, .inr (3, [.ref q_1, .null, .int 0])), (q_1, .inr (0, [.int 16777216, .ref qa_2, .int 0])), (qa_2, .inl (cI, 96, .inl (fun _ => 0))), (q_4, .inr (0, [.int 16777216, .ref qa_5, .int 0])), (qa_5, .inl (cI, 64, .inl (fun _ => 0)))] := hD
  refine W.widen (k := 4) (n := 166) (Nat.le_of_ble_eq_true rfl) (Nat.le_of_ble_eq_true rfl) ?_
  refine va_putF (D := (dC, dI)) (ci := 3) (v := .ref q_4) (ty := (.object "FamilyKernel$Row")) (C := R_Env) (T := T_Env) (N := 3) hx hb hT in_Env ty_Env tyo_Env nm_Env hown hK hP hD hS 0 rfl rfl 1 (by decide) (hT _ vt_106) (fun _ h9 => h9) rfl hin rfl (by decide +kernel) rfl rfl (Nat.le_of_ble_eq_true rfl) d_Env_init_31 (fun H locs hP hD hS => ?_)
  have hP : va_P (dC, dI) classes [(h0, .inr (3, [.ref q_1, .ref q_4, .int 0])), (q_1, .inr (0, [.int 16777216, .ref qa_2, .int 0])), (qa_2, .inl (cI, 96, .inl (fun _ => 0))), (q_4, .inr (0, [.int 16777216, .ref qa_5, .int 0])), (qa_5, .inl (cI, 64, .inl (fun _ => 0)))] H := hP
  have hD : va_D A [(h0, .inr (3, [.ref q_1, .ref q_4, .int 0])), (q_1, .inr (0, [.int 16777216, .ref qa_2, .int 0])), (qa_2, .inl (cI, 96, .inl (fun _ => 0))), (q_4, .inr (0, [.int 16777216, .ref qa_5, .int 0])), (qa_5, .inl (cI, 64, .inl (fun _ => 0)))] := hD
  refine W.widen (k := 4) (n := 166) (Nat.le_of_ble_eq_true rfl) (Nat.le_of_ble_eq_true rfl) ?_
  have hP9 := hP.sub (ws' := [(h0, .inr (3, [.ref q_1, .ref q_4, .int 0])), (q_1, .inr (0, [.int 16777216, .ref qa_2, .int 0])), (qa_2, .inl (cI, 96, .inl (fun _ => 0))), (q_4, .inr (0, [.int 16777216, .ref qa_5, .int 0])), (qa_5, .inl (cI, 64, .inl (fun _ => 0)))]) [0, 1, 2, 3, 4] rfl
  have hD9 := hD.sub (ws' := [(h0, .inr (3, [.ref q_1, .ref q_4, .int 0])), (q_1, .inr (0, [.int 16777216, .ref qa_2, .int 0])), (qa_2, .inl (cI, 96, .inl (fun _ => 0))), (q_4, .inr (0, [.int 16777216, .ref qa_5, .int 0])), (qa_5, .inl (cI, 64, .inl (fun _ => 0)))]) [0, 1, 2, 3, 4] (by decide) rfl
  have hK9 := hK.sub (tys' := [(cI, .int)]) [0] rfl
  exact W.vret hx hb hr (fun t ht hW => ⟨⟨(), rfl, trivial, q_1, qa_2, q_4, qa_5, by rw [ht]; exact hP9, va_K.moved hW.alike hK9, hD9⟩, hS.F ht⟩) hS.2.2 d_Env_init_34
set_option maxHeartbeats 4000000 in
set_option maxRecDepth 100000 in
/-- Lex(..) -/
theorem c_Lex_init (l : Launch) (dC : Nat → ClassId) (dI : Nat → Nat → Nat) (sz : Nat) (h0 tx : Nat) (cI : ClassId) : Met l y_Lex_init w_Lex_init ({ frames := 20, cells := 2, slots := 67, locals := 600 }) (Pw dC dI [.ref h0, .ref tx] sz [(h0, .inr (4, [.null, .null, .int 0, .int 0, .int 0, .int 0, .int 0]))] [(cI, .int)]) (va_Qv (fun _ : Unit => True) (fun _ t => ∃ (r_tokens a_tokens : Nat), va_P (dC, dI) classes [(h0, .inr (4, [.ref tx, .ref r_tokens, .int 0, .int 0, .int 0, .int 0, .int 0])), (r_tokens, .inr (0, [.int 16777216, .ref a_tokens, .int 0])), (a_tokens, .inl (cI, 64, .inl (fun _ => 0)))] t.heap ∧ va_K (dC, dI) classes [(cI, .int)] t ∧ va_D (va_A [(h0, .inr (4, [.null, .null, .int 0, .int 0, .int 0, .int 0, .int 0]))] sz) [(h0, .inr (4, [.ref tx, .ref r_tokens, .int 0, .int 0, .int 0, .int 0, .int 0])), (r_tokens, .inr (0, [.int 16777216, .ref a_tokens, .int 0])), (a_tokens, .inl (cI, 64, .inl (fun _ => 0)))]) (va_A [(h0, .inr (4, [.null, .null, .int 0, .int 0, .int 0, .int 0, .int 0]))] sz)) 2 67 (va_A [(h0, .inr (4, [.null, .null, .int 0, .int 0, .int 0, .int 0, .int 0]))] sz) := by
  refine Met.ofW (cc := b_Lex_init) (maxL := 2) (ret := none) (by decide) rfl ?_
  intro p e s m args below meth c s₁ B hml hv
  obtain ⟨rfl, hsz, hP, hK, hD0⟩ := hv
  have hx := B.exec
  have hb := B.bytes
  have hr := B.returns
  have hT : ∀ w ∈ vT, w.before _ s = true := fun w h => atoms_spec (ws := w_Lex_init) B.pre w (List.mem_cons_of_mem _ h)
  have hown : s.vm.findClass R_Lex = some m.cls := findClass_of_methodNamed B.named
  have hlocks := B.notSynchronized
  have hin : meth.name = "<init>" := (name_of_methodNamed B.named B.method).1
  subst hsz
  have hD := hD0.self (sz := s.heap.size)
  generalize hAe : va_A [(h0, .inr (4, [.null, .null, .int 0, .int 0, .int 0, .int 0, .int 0]))] s.heap.size = A at hD ⊢
  have hA : ∀ q : Nat, s.heap.size ≤ q → A q := fun q h => by rw [← hAe]; exact Or.inr h
  have hS : va_S A s.heap s.heap [] := va_S.rf
  have hP : va_P (dC, dI) classes [(h0, .inr (4, [.null, .null, .int 0, .int 0, .int 0, .int 0, .int 0]))] s.heap := hP
  have hl := lv_entry ([.ref h0, .ref tx]) (n := 2) (Nat.le_of_ble_eq_true rfl)
  rw [lg_entry_eq]
  generalize (lg_sl ([.ref h0, .ref tx]) ++ List.replicate (2 - (lg_sl ([.ref h0, .ref tx])).length) Slot.unset).toArray = ls at hl ⊢
  have hl : lv_has ls 2 [(0, .ref h0), (1, .ref tx)] := hl
  refine lv_aload_n hx hb d_Lex_init_0 rfl (lv_at hl 0 rfl) ?_
  refine W.objInit hx hb hown (hT _ vt_107) (hT _ vt_1) (hT _ vt_2) rfl (by rw [hml]; exact hl.1) rfl d_Lex_init_1 (Nat.le_of_ble_eq_true rfl) (Nat.le_of_ble_eq_true rfl) ?_
  refine W.eq (g2 := F0 m 4 ls []) rfl ?_
  refine lv_aload_n hx hb d_Lex_init_4 rfl (lv_at hl 0 rfl) ?_
  refine lv_aload_n hx hb d_Lex_init_5 rfl (lv_at hl 1 rfl) ?_
  refine va_putF (D := (dC, dI)) (ci := 4) (v := .ref tx) (ty := (.object "FamilyKernel$Row")) (C := R_Lex) (T := T_Lex) (N := 7) hx hb hT in_Lex ty_Lex tyo_Lex nm_Lex hown hK hP hD hS 0 rfl rfl 0 (by decide) (hT _ vt_108) (fun _ h9 => h9) rfl hin rfl (by decide +kernel) rfl rfl (Nat.le_of_ble_eq_true rfl) d_Lex_init_6 (fun H locs hP hD hS => ?_)
  have hP : va_P (dC, dI) classes [(h0, .inr (4, [.ref tx, .null, .int 0, .int 0, .int 0, .int 0, .int 0]))] H := hP
  have hD : va_D A [(h0, .inr (4, [.ref tx, .null, .int 0, .int 0, .int 0, .int 0, .int 0]))] := hD
  refine lv_aload_n hx hb d_Lex_init_9 rfl (lv_at hl 0 rfl) ?_
  refine va_new (ci := 0) (fs := [.int 0, .null, .int 0]) (C := R_Row) (T := T_Row) (N := 3) hx hb hT in_Row ty_Row tyo_Row hown (hT _ vt_109) (hT _ vt_5) (hT _ vt_4) hK hP hD hS hA rfl df_Row (Nat.le_of_ble_eq_true rfl) (Nat.le_of_ble_eq_true rfl) d_Lex_init_10 (fun q_1 H hP hD hS => ?_)
  have hP : va_P (dC, dI) classes [(h0, .inr (4, [.ref tx, .null, .int 0, .int 0, .int 0, .int 0, .int 0])), (q_1, .inr (0, [.int 0, .null, .int 0]))] H := hP
  have hD : va_D A [(h0, .inr (4, [.ref tx, .null, .int 0, .int 0, .int 0, .int 0, .int 0])), (q_1, .inr (0, [.int 0, .null, .int 0]))] := hD
  refine W.widen (k := 1) (n := 3) (Nat.le_of_ble_eq_true rfl) (Nat.le_of_ble_eq_true rfl) ?_
  refine lv_dup hx hb d_Lex_init_13 rfl ?_
  refine lv_bipush (v := 64) hx hb d_Lex_init_14 (by decide) ?_
  refine lv_ldc (v := 16777216) hx hb hown (hT _ vt_110) d_Lex_init_16 ?_
  have hPc := hP.sub (ws' := [(q_1, .inr (0, [.int 0, .null, .int 0]))]) [1] rfl
  have hDc := hD.sub (ws' := [(q_1, .inr (0, [.int 0, .null, .int 0]))]) [1] (by decide) rfl
  have hKc := hK.sub (tys' := [(cI, .int)]) [0] rfl
  have hFc := va_free (wc := [(q_1, .inr (0, [.int 0, .null, .int 0]))]) hD hS hA [1] rfl
  refine va_callv (va_runI (As := [.int 64, .int 16777216]) (rest := [.ref q_1, .ref h0]) ⟨hx, hb, hml, hown, hT⟩ (c_Row_init l dC dI H.size q_1 64 cI 64 16777216 (by decide) (by decide) (by decide) (by decide)) (cwI 2 hT (gI vt_9) rfl rfl rfl (hT _ vt_4) (hT _ vt_111) (hT _ vt_8) rfl (by decide +kernel) ⟨Nat.le_of_ble_eq_true rfl, Nat.le_of_ble_eq_true rfl⟩) ⟨Pw_blind, Pw_of hPc hKc hDc⟩ rfl rfl hl.1 rfl (lv_room (Nat.le_of_ble_eq_true rfl)) d_Lex_init_18 ⟨Nat.le_of_ble_eq_true rfl, Nat.le_of_ble_eq_true rfl⟩) hS (fun q _ h => hFc q h) hFc (fun u t H1 locs ht hvm hw hB hz1 hk1 hS => ?_)
  obtain ⟨qa_2, hP1, hK1, hD1⟩ := hB
  rw [ht] at hP1
  have hK1 := va_K.moved hvm.symm hK1
  obtain ⟨hP, hD⟩ := va_join (wr := [(h0, .inr (4, [.ref tx, .null, .int 0, .int 0, .int 0, .int 0, .int 0]))]) (w1 := [(q_1, .inr (0, [.int 16777216, .ref qa_2, .int 0])), (qa_2, .inl (cI, 64, .inl (fun _ => 0)))]) hP hD [1] [0] rfl rfl (by decide) (by decide) hk1 hFc hP1 hD1
  generalize H1 = H at hP hS ⊢
  have hP : va_P (dC, dI) classes [(h0, .inr (4, [.ref tx, .null, .int 0, .int 0, .int 0, .int 0, .int 0])), (q_1, .inr (0, [.int 16777216, .ref qa_2, .int 0])), (qa_2, .inl (cI, 64, .inl (fun _ => 0)))] H := hP
  have hD : va_D A [(h0, .inr (4, [.ref tx, .null, .int 0, .int 0, .int 0, .int 0, .int 0])), (q_1, .inr (0, [.int 16777216, .ref qa_2, .int 0])), (qa_2, .inl (cI, 64, .inl (fun _ => 0)))] := hD
  refine W.widen (k := 2) (n := 67) (Nat.le_of_ble_eq_true rfl) (Nat.le_of_ble_eq_true rfl) ?_
  refine va_putF (D := (dC, dI)) (ci := 4) (v := .ref q_1) (ty := (.object "FamilyKernel$Row")) (C := R_Lex) (T := T_Lex) (N := 7) hx hb hT in_Lex ty_Lex tyo_Lex nm_Lex hown hK hP hD hS 0 rfl rfl 1 (by decide) (hT _ vt_112) (fun _ h9 => h9) rfl hin rfl (by decide +kernel) rfl rfl (Nat.le_of_ble_eq_true rfl) d_Lex_init_21 (fun H locs hP hD hS => ?_)
  have hP : va_P (dC, dI) classes [(h0, .inr (4, [.ref tx, .ref q_1, .int 0, .int 0, .int 0, .int 0, .int 0])), (q_1, .inr (0, [.int 16777216, .ref qa_2, .int 0])), (qa_2, .inl (cI, 64, .inl (fun _ => 0)))] H := hP
  have hD : va_D A [(h0, .inr (4, [.ref tx, .ref q_1, .int 0, .int 0, .int 0, .int 0, .int 0])), (q_1, .inr (0, [.int 16777216, .ref qa_2, .int 0])), (qa_2, .inl (cI, 64, .inl (fun _ => 0)))] := hD
  refine W.widen (k := 2) (n := 67) (Nat.le_of_ble_eq_true rfl) (Nat.le_of_ble_eq_true rfl) ?_
  have hP9 := hP.sub (ws' := [(h0, .inr (4, [.ref tx, .ref q_1, .int 0, .int 0, .int 0, .int 0, .int 0])), (q_1, .inr (0, [.int 16777216, .ref qa_2, .int 0])), (qa_2, .inl (cI, 64, .inl (fun _ => 0)))]) [0, 1, 2] rfl
  have hD9 := hD.sub (ws' := [(h0, .inr (4, [.ref tx, .ref q_1, .int 0, .int 0, .int 0, .int 0, .int 0])), (q_1, .inr (0, [.int 16777216, .ref qa_2, .int 0])), (qa_2, .inl (cI, 64, .inl (fun _ => 0)))]) [0, 1, 2] (by decide) rfl
  have hK9 := hK.sub (tys' := [(cI, .int)]) [0] rfl
  exact W.vret hx hb hr (fun t ht hW => ⟨⟨(), rfl, trivial, q_1, qa_2, by rw [ht]; exact hP9, va_K.moved hW.alike hK9, hD9⟩, hS.F ht⟩) hS.2.2 d_Lex_init_24
set_option maxHeartbeats 4000000 in
set_option maxRecDepth 100000 in
/-- Terms(..) -/
theorem c_Terms_init (l : Launch) (dC : Nat → ClassId) (dI : Nat → Nat → Nat) (sz : Nat) (h0 me : Nat) (cI cJ : ClassId) : Met l y_Terms_init w_Terms_init ({ frames := 20, cells := 11, slots := 1481, locals := 600 }) (Pw dC dI [.ref h0, .ref me] sz [(h0, .inr (2, [.null, .null, .null, .null, .null, .null, .null, .null, .null, .int 0]))] [(cI, .int), (cJ, .long)]) (va_Qv (fun _ : Unit => True) (fun _ t => ∃ (r_todo a_todo r_offsets a_offsets r_built a_built a_infos a_lefts a_rights a_links a_heads : Nat), va_P (dC, dI) classes [(h0, .inr (2, [.ref me, .ref r_todo, .ref r_offsets, .ref r_built, .ref a_infos, .ref a_lefts, .ref a_rights, .ref a_links, .ref a_heads, .int 0])), (r_todo, .inr (0, [.int 16777216, .ref a_todo, .int 0])), (a_todo, .inl (cI, 64, .inl (fun _ => 0))), (r_offsets, .inr (0, [.int 16777216, .ref a_offsets, .int 0])), (a_offsets, .inl (cI, 64, .inl (fun _ => 0))), (r_built, .inr (0, [.int 16777216, .ref a_built, .int 0])), (a_built, .inl (cI, 64, .inl (fun _ => 0))), (a_infos, .inl (cJ, 256, .inr (.inl (fun _ => 0)))), (a_lefts, .inl (cI, 256, .inl (fun _ => 0))), (a_rights, .inl (cI, 256, .inl (fun _ => 0))), (a_links, .inl (cI, 256, .inl (fun _ => 0))), (a_heads, .inl (cI, 256, .inl (fun _ => 0)))] t.heap ∧ va_K (dC, dI) classes [(cI, .int), (cJ, .long)] t ∧ va_D (va_A [(h0, .inr (2, [.null, .null, .null, .null, .null, .null, .null, .null, .null, .int 0]))] sz) [(h0, .inr (2, [.ref me, .ref r_todo, .ref r_offsets, .ref r_built, .ref a_infos, .ref a_lefts, .ref a_rights, .ref a_links, .ref a_heads, .int 0])), (r_todo, .inr (0, [.int 16777216, .ref a_todo, .int 0])), (a_todo, .inl (cI, 64, .inl (fun _ => 0))), (r_offsets, .inr (0, [.int 16777216, .ref a_offsets, .int 0])), (a_offsets, .inl (cI, 64, .inl (fun _ => 0))), (r_built, .inr (0, [.int 16777216, .ref a_built, .int 0])), (a_built, .inl (cI, 64, .inl (fun _ => 0))), (a_infos, .inl (cJ, 256, .inr (.inl (fun _ => 0)))), (a_lefts, .inl (cI, 256, .inl (fun _ => 0))), (a_rights, .inl (cI, 256, .inl (fun _ => 0))), (a_links, .inl (cI, 256, .inl (fun _ => 0))), (a_heads, .inl (cI, 256, .inl (fun _ => 0)))]) (va_A [(h0, .inr (2, [.null, .null, .null, .null, .null, .null, .null, .null, .null, .int 0]))] sz)) 11 1481 (va_A [(h0, .inr (2, [.null, .null, .null, .null, .null, .null, .null, .null, .null, .int 0]))] sz) := by
  refine Met.ofW (cc := b_Terms_init) (maxL := 2) (ret := none) (by decide) rfl ?_
  intro p e s m args below meth c s₁ B hml hv
  obtain ⟨rfl, hsz, hP, hK, hD0⟩ := hv
  have hx := B.exec
  have hb := B.bytes
  have hr := B.returns
  have hT : ∀ w ∈ vT, w.before _ s = true := fun w h => atoms_spec (ws := w_Terms_init) B.pre w (List.mem_cons_of_mem _ h)
  have hown : s.vm.findClass R_Terms = some m.cls := findClass_of_methodNamed B.named
  have hlocks := B.notSynchronized
  have hin : meth.name = "<init>" := (name_of_methodNamed B.named B.method).1
  subst hsz
  have hD := hD0.self (sz := s.heap.size)
  generalize hAe : va_A [(h0, .inr (2, [.null, .null, .null, .null, .null, .null, .null, .null, .null, .int 0]))] s.heap.size = A at hD ⊢
  have hA : ∀ q : Nat, s.heap.size ≤ q → A q := fun q h => by rw [← hAe]; exact Or.inr h
  have hS : va_S A s.heap s.heap [] := va_S.rf
  have hP : va_P (dC, dI) classes [(h0, .inr (2, [.null, .null, .null, .null, .null, .null, .null, .null, .null, .int 0]))] s.heap := hP
  have hl := lv_entry ([.ref h0, .ref me]) (n := 2) (Nat.le_of_ble_eq_true rfl)
  rw [lg_entry_eq]
  generalize (lg_sl ([.ref h0, .ref me]) ++ List.replicate (2 - (lg_sl ([.ref h0, .ref me])).length) Slot.unset).toArray = ls at hl ⊢
  have hl : lv_has ls 2 [(0, .ref h0), (1, .ref me)] := hl
  refine lv_aload_n hx hb d_Terms_init_0 rfl (lv_at hl 0 rfl) ?_
  refine W.objInit hx hb hown (hT _ vt_87) (hT _ vt_1) (hT _ vt_2) rfl (by rw [hml]; exact hl.1) rfl d_Terms_init_1 (Nat.le_of_ble_eq_true rfl) (Nat.le_of_ble_eq_true rfl) ?_
  refine W.eq (g2 := F0 m 4 ls []) rfl ?_
  refine lv_aload_n hx hb d_Terms_init_4 rfl (lv_at hl 0 rfl) ?_
  refine lv_aload_n hx hb d_Terms_init_5 rfl (lv_at hl 1 rfl) ?_
  refine va_putF (D := (dC, dI)) (ci := 2) (v := .ref me) (ty := (.object "FamilyKernel$Meter")) (C := R_Terms) (T := T_Terms) (N := 10) hx hb hT in_Terms ty_Terms tyo_Terms nm_Terms hown hK hP hD hS 0 rfl rfl 0 (by decide) (hT _ vt_88) (fun _ h9 => h9) rfl hin rfl (by decide +kernel) rfl rfl (Nat.le_of_ble_eq_true rfl) d_Terms_init_6 (fun H locs hP hD hS => ?_)
  have hP : va_P (dC, dI) classes [(h0, .inr (2, [.ref me, .null, .null, .null, .null, .null, .null, .null, .null, .int 0]))] H := hP
  have hD : va_D A [(h0, .inr (2, [.ref me, .null, .null, .null, .null, .null, .null, .null, .null, .int 0]))] := hD
  refine lv_aload_n hx hb d_Terms_init_9 rfl (lv_at hl 0 rfl) ?_
  refine va_new (ci := 0) (fs := [.int 0, .null, .int 0]) (C := R_Row) (T := T_Row) (N := 3) hx hb hT in_Row ty_Row tyo_Row hown (hT _ vt_89) (hT _ vt_5) (hT _ vt_4) hK hP hD hS hA rfl df_Row (Nat.le_of_ble_eq_true rfl) (Nat.le_of_ble_eq_true rfl) d_Terms_init_10 (fun q_1 H hP hD hS => ?_)
  have hP : va_P (dC, dI) classes [(h0, .inr (2, [.ref me, .null, .null, .null, .null, .null, .null, .null, .null, .int 0])), (q_1, .inr (0, [.int 0, .null, .int 0]))] H := hP
  have hD : va_D A [(h0, .inr (2, [.ref me, .null, .null, .null, .null, .null, .null, .null, .null, .int 0])), (q_1, .inr (0, [.int 0, .null, .int 0]))] := hD
  refine W.widen (k := 1) (n := 3) (Nat.le_of_ble_eq_true rfl) (Nat.le_of_ble_eq_true rfl) ?_
  refine lv_dup hx hb d_Terms_init_13 rfl ?_
  refine lv_bipush (v := 64) hx hb d_Terms_init_14 (by decide) ?_
  refine lv_ldc (v := 16777216) hx hb hown (hT _ vt_90) d_Terms_init_16 ?_
  have hPc := hP.sub (ws' := [(q_1, .inr (0, [.int 0, .null, .int 0]))]) [1] rfl
  have hDc := hD.sub (ws' := [(q_1, .inr (0, [.int 0, .null, .int 0]))]) [1] (by decide) rfl
  have hKc := hK.sub (tys' := [(cI, .int)]) [0] rfl
  have hFc := va_free (wc := [(q_1, .inr (0, [.int 0, .null, .int 0]))]) hD hS hA [1] rfl
  refine va_callv (va_runI (As := [.int 64, .int 16777216]) (rest := [.ref q_1, .ref h0]) ⟨hx, hb, hml, hown, hT⟩ (c_Row_init l dC dI H.size q_1 64 cI 64 16777216 (by decide) (by decide) (by decide) (by decide)) (cwI 2 hT (gI vt_9) rfl rfl rfl (hT _ vt_4) (hT _ vt_91) (hT _ vt_8) rfl (by decide +kernel) ⟨Nat.le_of_ble_eq_true rfl, Nat.le_of_ble_eq_true rfl⟩) ⟨Pw_blind, Pw_of hPc hKc hDc⟩ rfl rfl hl.1 rfl (lv_room (Nat.le_of_ble_eq_true rfl)) d_Terms_init_18 ⟨Nat.le_of_ble_eq_true rfl, Nat.le_of_ble_eq_true rfl⟩) hS (fun q _ h => hFc q h) hFc (fun u t H1 locs ht hvm hw hB hz1 hk1 hS => ?_)
  obtain ⟨qa_2, hP1, hK1, hD1⟩ := hB
  rw [ht] at hP1
  have hK1 := va_K.moved hvm.symm hK1
  obtain ⟨hP, hD⟩ := va_join (wr := [(h0, .inr (2, [.ref me, .null, .null, .null, .null, .null, .null, .null, .null, .int 0]))]) (w1 := [(q_1, .inr (0, [.int 16777216, .ref qa_2, .int 0])), (qa_2, .inl (cI, 64, .inl (fun _ => 0)))]) hP hD [1] [0] rfl rfl (by decide) (by decide) hk1 hFc hP1 hD1
  generalize H1 = H at hP hS ⊢
  have hP : va_P (dC, dI) classes [(h0, .inr (2, [.ref me, .null, .null, .null, .null, .null, .null, .null, .null, .int 0])), (q_1, .inr (0, [.int 16777216, .ref qa_2, .int 0])), (qa_2, .inl (cI, 64, .inl (fun _ => 0)))] H := hP
  have hD : va_D A [(h0, .inr (2, [.ref me, .null, .null, .null, .null, .null, .null, .null, .null, .int 0])), (q_1, .inr (0, [.int 16777216, .ref qa_2, .int 0])), (qa_2, .inl (cI, 64, .inl (fun _ => 0)))] := hD
  refine W.widen (k := 2) (n := 67) (Nat.le_of_ble_eq_true rfl) (Nat.le_of_ble_eq_true rfl) ?_
  refine va_putF (D := (dC, dI)) (ci := 2) (v := .ref q_1) (ty := (.object "FamilyKernel$Row")) (C := R_Terms) (T := T_Terms) (N := 10) hx hb hT in_Terms ty_Terms tyo_Terms nm_Terms hown hK hP hD hS 0 rfl rfl 1 (by decide) (hT _ vt_92) (fun _ h9 => h9) rfl hin rfl (by decide +kernel) rfl rfl (Nat.le_of_ble_eq_true rfl) d_Terms_init_21 (fun H locs hP hD hS => ?_)
  have hP : va_P (dC, dI) classes [(h0, .inr (2, [.ref me, .ref q_1, .null, .null, .null, .null, .null, .null, .null, .int 0])), (q_1, .inr (0, [.int 16777216, .ref qa_2, .int 0])), (qa_2, .inl (cI, 64, .inl (fun _ => 0)))] H := hP
  have hD : va_D A [(h0, .inr (2, [.ref me, .ref q_1, .null, .null, .null, .null, .null, .null, .null, .int 0])), (q_1, .inr (0, [.int 16777216, .ref qa_2, .int 0])), (qa_2, .inl (cI, 64, .inl (fun _ => 0)))] := hD
  refine lv_aload_n hx hb d_Terms_init_24 rfl (lv_at hl 0 rfl) ?_
  refine va_new (ci := 0) (fs := [.int 0, .null, .int 0]) (C := R_Row) (T := T_Row) (N := 3) hx hb hT in_Row ty_Row tyo_Row hown (hT _ vt_89) (hT _ vt_5) (hT _ vt_4) hK hP hD hS hA rfl df_Row (Nat.le_of_ble_eq_true rfl) (Nat.le_of_ble_eq_true rfl) d_Terms_init_25 (fun q_4 H hP hD hS => ?_)
  have hP : va_P (dC, dI) classes [(h0, .inr (2, [.ref me, .ref q_1, .null, .null, .null, .null, .null, .null, .null, .int 0])), (q_1, .inr (0, [.int 16777216, .ref qa_2, .int 0])), (qa_2, .inl (cI, 64, .inl (fun _ => 0))), (q_4, .inr (0, [.int 0, .null, .int 0]))] H := hP
  have hD : va_D A [(h0, .inr (2, [.ref me, .ref q_1, .null, .null, .null, .null, .null, .null, .null, .int 0])), (q_1, .inr (0, [.int 16777216, .ref qa_2, .int 0])), (qa_2, .inl (cI, 64, .inl (fun _ => 0))), (q_4, .inr (0, [.int 0, .null, .int 0]))] := hD
  refine W.widen (k := 3) (n := 70) (Nat.le_of_ble_eq_true rfl) (Nat.le_of_ble_eq_true rfl) ?_
  refine lv_dup hx hb d_Terms_init_28 rfl ?_
  refine lv_bipush (v := 64) hx hb d_Terms_init_29 (by decide) ?_
  refine lv_ldc (v := 16777216) hx hb hown (hT _ vt_90) d_Terms_init_31 ?_
  have hPc := hP.sub (ws' := [(q_4, .inr (0, [.int 0, .null, .int 0]))]) [3] rfl
  have hDc := hD.sub (ws' := [(q_4, .inr (0, [.int 0, .null, .int 0]))]) [3] (by decide) rfl
  have hKc := hK.sub (tys' := [(cI, .int)]) [0] rfl
  have hFc := va_free (wc := [(q_4, .inr (0, [.int 0, .null, .int 0]))]) hD hS hA [3] rfl
  refine va_callv (va_runI (As := [.int 64, .int 16777216]) (rest := [.ref q_4, .ref h0]) ⟨hx, hb, hml, hown, hT⟩ (c_Row_init l dC dI H.size q_4 64 cI 64 16777216 (by decide) (by decide) (by decide) (by decide)) (cwI 2 hT (gI vt_9) rfl rfl rfl (hT _ vt_4) (hT _ vt_91) (hT _ vt_8) rfl (by decide +kernel) ⟨Nat.le_of_ble_eq_true rfl, Nat.le_of_ble_eq_true rfl⟩) ⟨Pw_blind, Pw_of hPc hKc hDc⟩ rfl rfl hl.1 rfl (lv_room (Nat.le_of_ble_eq_true rfl)) d_Terms_init_33 ⟨Nat.le_of_ble_eq_true rfl, Nat.le_of_ble_eq_true rfl⟩) hS (fun q _ h => hFc q h) hFc (fun u t H1 locs ht hvm hw hB hz1 hk1 hS => ?_)
  obtain ⟨qa_5, hP1, hK1, hD1⟩ := hB
  rw [ht] at hP1
  have hK1 := va_K.moved hvm.symm hK1
  obtain ⟨hP, hD⟩ := va_join (wr := [(h0, .inr (2, [.ref me, .ref q_1, .null, .null, .null, .null, .null, .null, .null, .int 0])), (q_1, .inr (0, [.int 16777216, .ref qa_2, .int 0])), (qa_2, .inl (cI, 64, .inl (fun _ => 0)))]) (w1 := [(q_4, .inr (0, [.int 16777216, .ref qa_5, .int 0])), (qa_5, .inl (cI, 64, .inl (fun _ => 0)))]) hP hD [3] [0, 1, 2] rfl rfl (by decide) (by decide) hk1 hFc hP1 hD1
  generalize H1 = H at hP hS ⊢
  have hP : va_P (dC, dI) classes [(h0, .inr (2, [.ref me, .ref q_1, .null, .null, .null, .null, .null, .null, .null, .int 0])), (q_1, .inr (0, [.int 16777216, .ref qa_2, .int 0])), (qa_2, .inl (cI, 64, .inl (fun _ => 0))), (q_4, .inr (0, [.int 16777216, .ref qa_5, .int 0])), (qa_5, .inl (cI, 64, .inl (fun _ => 0)))] H := hP
  have hD : va_D A [(h0, .inr (2, [.ref me, .ref q_1, .null, .null, .null, .null, .null, .null, .null, .int 0])), (q_1, .inr (0, [.int 16777216, .ref qa_2, .int 0])), (qa_2, .inl (cI, 64, .inl (fun _ => 0))), (q_4, .inr (0, [.int 16777216, .ref qa_5, .int 0])), (qa_5, .inl (cI, 64, .inl (fun _ => 0)))] := hD
  refine W.widen (k := 4) (n := 134) (Nat.le_of_ble_eq_true rfl) (Nat.le_of_ble_eq_true rfl) ?_
  refine va_putF (D := (dC, dI)) (ci := 2) (v := .ref q_4) (ty := (.object "FamilyKernel$Row")) (C := R_Terms) (T := T_Terms) (N := 10) hx hb hT in_Terms ty_Terms tyo_Terms nm_Terms hown hK hP hD hS 0 rfl rfl 2 (by decide) (hT _ vt_93) (fun _ h9 => h9) rfl hin rfl (by decide +kernel) rfl rfl (Nat.le_of_ble_eq_true rfl) d_Terms_init_36 (fun H locs hP hD hS => ?_)
  have hP : va_P (dC, dI) classes [(h0, .inr (2, [.ref me, .ref q_1, .ref q_4, .null, .null, .null, .null, .null, .null, .int 0])), (q_1, .inr (0, [.int 16777216, .ref qa_2, .int 0])), (qa_2, .inl (cI, 64, .inl (fun _ => 0))), (q_4, .inr (0, [.int 16777216, .ref qa_5, .int 0])), (qa_5, .inl (cI, 64, .inl (fun _ => 0)))] H := hP
  have hD : va_D A [(h0, .inr (2, [.ref me, .ref q_1, .ref q_4, .null, .null, .null, .null, .null, .null, .int 0])), (q_1, .inr (0, [.int 16777216, .ref qa_2, .int 0])), (qa_2, .inl (cI, 64, .inl (fun _ => 0))), (q_4, .inr (0, [.int 16777216, .ref qa_5, .int 0])), (qa_5, .inl (cI, 64, .inl (fun _ => 0)))] := hD
  refine lv_aload_n hx hb d_Terms_init_39 rfl (lv_at hl 0 rfl) ?_
  refine va_new (ci := 0) (fs := [.int 0, .null, .int 0]) (C := R_Row) (T := T_Row) (N := 3) hx hb hT in_Row ty_Row tyo_Row hown (hT _ vt_89) (hT _ vt_5) (hT _ vt_4) hK hP hD hS hA rfl df_Row (Nat.le_of_ble_eq_true rfl) (Nat.le_of_ble_eq_true rfl) d_Terms_init_40 (fun q_7 H hP hD hS => ?_)
  have hP : va_P (dC, dI) classes [(h0, .inr (2, [.ref me, .ref q_1, .ref q_4, .null, .null, .null, .null, .null, .null, .int 0])), (q_1, .inr (0, [.int 16777216, .ref qa_2, .int 0])), (qa_2, .inl (cI, 64, .inl (fun _ => 0))), (q_4, .inr (0, [.int 16777216, .ref qa_5, .int 0])), (qa_5, .inl (cI, 64, .inl (fun _ => 0))), (q_7, .inr (0, [.int 0, .null, .int 0]))] H := hP
  have hD : va_D A [(h0, .inr (2, [.ref me, .ref q_1, .ref q_4, .null, .null, .null, .null, .null, .null, .int 0])), (q_1, .inr (0, [.int 16777216, .ref qa_2, .int 0])), (qa_2, .inl (cI, 64, .inl (fun _ => 0))), (q_4, .inr (0, [.int 16777216, .ref qa_5, .int 0])), (qa_5, .inl (cI, 64, .inl (fun _ => 0))), (q_7, .inr (0, [.int 0, .null, .int 0]))] := hD
  refine W.widen (k := 5) (n := 137) (Nat.le_of_ble_eq_true rfl) (Nat.le_of_ble_eq_true rfl) ?_
  refine lv_dup hx hb d_Terms_init_43 rfl ?_
  refine lv_bipush (v := 64) hx hb d_Terms_init_44 (by decide) ?_
  refine lv_ldc (v := 16777216) hx hb hown (hT _ vt_90) d_Terms_init_46 ?_
  have hPc := hP.sub (ws' := [(q_7, .inr (0, [.int 0, .null, .int 0]))]) [5] rfl
  have hDc := hD.sub (ws' := [(q_7, .inr (0, [.int 0, .null, .int 0]))]) [5] (by decide) rfl
  have hKc := hK.sub (tys' := [(cI, .int)]) [0] rfl
  have hFc := va_free (wc := [(q_7, .inr (0, [.int 0, .null, .int 0]))]) hD hS hA [5] rfl
  refine va_callv (va_runI (As := [.int 64, .int 16777216]) (rest := [.ref q_7, .ref h0]) ⟨hx, hb, hml, hown, hT⟩ (c_Row_init l dC dI H.size q_7 64 cI 64 16777216 (by decide) (by decide) (by decide) (by decide)) (cwI 2 hT (gI vt_9) rfl rfl rfl (hT _ vt_4) (hT _ vt_91) (hT _ vt_8) rfl (by decide +kernel) ⟨Nat.le_of_ble_eq_true rfl, Nat.le_of_ble_eq_true rfl⟩) ⟨Pw_blind, Pw_of hPc hKc hDc⟩ rfl rfl hl.1 rfl (lv_room (Nat.le_of_ble_eq_true rfl)) d_Terms_init_48 ⟨Nat.le_of_ble_eq_true rfl, Nat.le_of_ble_eq_true rfl⟩) hS (fun q _ h => hFc q h) hFc (fun u t H1 locs ht hvm hw hB hz1 hk1 hS => ?_)
  obtain ⟨qa_8, hP1, hK1, hD1⟩ := hB
  rw [ht] at hP1
  have hK1 := va_K.moved hvm.symm hK1
  obtain ⟨hP, hD⟩ := va_join (wr := [(h0, .inr (2, [.ref me, .ref q_1, .ref q_4, .null, .null, .null, .null, .null, .null, .int 0])), (q_1, .inr (0, [.int 16777216, .ref qa_2, .int 0])), (qa_2, .inl (cI, 64, .inl (fun _ => 0))), (q_4, .inr (0, [.int 16777216, .ref qa_5, .int 0])), (qa_5, .inl (cI, 64, .inl (fun _ => 0)))]) (w1 := [(q_7, .inr (0, [.int 16777216, .ref qa_8, .int 0])), (qa_8, .inl (cI, 64, .inl (fun _ => 0)))]) hP hD [5] [0, 1, 2, 3, 4] rfl rfl (by decide) (by decide) hk1 hFc hP1 hD1
  generalize H1 = H at hP hS ⊢
  have hP : va_P (dC, dI) classes [(h0, .inr (2, [.ref me, .ref q_1, .ref q_4, .null, .null, .null, .null, .null, .null, .int 0])), (q_1, .inr (0, [.int 16777216, .ref qa_2, .int 0])), (qa_2, .inl (cI, 64, .inl (fun _ => 0))), (q_4, .inr (0, [.int 16777216, .ref qa_5, .int 0])), (qa_5, .inl (cI, 64, .inl (fun _ => 0))), (q_7, .inr (0, [.int 16777216, .ref qa_8, .int 0])), (qa_8, .inl (cI, 64, .inl (fun _ => 0)))] H := hP
  have hD : va_D A [(h0, .inr (2, [.ref me, .ref q_1, .ref q_4, .null, .null, .null, .null, .null, .null, .int 0])), (q_1, .inr (0, [.int 16777216, .ref qa_2, .int 0])), (qa_2, .inl (cI, 64, .inl (fun _ => 0))), (q_4, .inr (0, [.int 16777216, .ref qa_5, .int 0])), (qa_5, .inl (cI, 64, .inl (fun _ => 0))), (q_7, .inr (0, [.int 16777216, .ref qa_8, .int 0])), (qa_8, .inl (cI, 64, .inl (fun _ => 0)))] := hD
  refine W.widen (k := 6) (n := 201) (Nat.le_of_ble_eq_true rfl) (Nat.le_of_ble_eq_true rfl) ?_
  refine va_putF (D := (dC, dI)) (ci := 2) (v := .ref q_7) (ty := (.object "FamilyKernel$Row")) (C := R_Terms) (T := T_Terms) (N := 10) hx hb hT in_Terms ty_Terms tyo_Terms nm_Terms hown hK hP hD hS 0 rfl rfl 3 (by decide) (hT _ vt_94) (fun _ h9 => h9) rfl hin rfl (by decide +kernel) rfl rfl (Nat.le_of_ble_eq_true rfl) d_Terms_init_51 (fun H locs hP hD hS => ?_)
  have hP : va_P (dC, dI) classes [(h0, .inr (2, [.ref me, .ref q_1, .ref q_4, .ref q_7, .null, .null, .null, .null, .null, .int 0])), (q_1, .inr (0, [.int 16777216, .ref qa_2, .int 0])), (qa_2, .inl (cI, 64, .inl (fun _ => 0))), (q_4, .inr (0, [.int 16777216, .ref qa_5, .int 0])), (qa_5, .inl (cI, 64, .inl (fun _ => 0))), (q_7, .inr (0, [.int 16777216, .ref qa_8, .int 0])), (qa_8, .inl (cI, 64, .inl (fun _ => 0)))] H := hP
  have hD : va_D A [(h0, .inr (2, [.ref me, .ref q_1, .ref q_4, .ref q_7, .null, .null, .null, .null, .null, .int 0])), (q_1, .inr (0, [.int 16777216, .ref qa_2, .int 0])), (qa_2, .inl (cI, 64, .inl (fun _ => 0))), (q_4, .inr (0, [.int 16777216, .ref qa_5, .int 0])), (qa_5, .inl (cI, 64, .inl (fun _ => 0))), (q_7, .inr (0, [.int 16777216, .ref qa_8, .int 0])), (qa_8, .inl (cI, 64, .inl (fun _ => 0)))] := hD
  refine lv_aload_n hx hb d_Terms_init_54 rfl (lv_at hl 0 rfl) ?_
  refine lv_sipush (v := 256) hx hb d_Terms_init_55 (by decide) ?_
  refine va_newk (atype := .long) (ty := .long) (cA := cJ) (a0 := (256, .inr (.inl (fun _ => 0)))) hx hb (hT _ vt_95) rfl hK 1 rfl (fun _ _ => rfl) hP hD hS hA (fun _ => rfl) (by decide) (by decide) (by decide) (Nat.le_of_ble_eq_true rfl) (Nat.le_of_ble_eq_true rfl) d_Terms_init_58 (fun q_10 H hP hD hS => ?_)
  have hP : va_P (dC, dI) classes [(h0, .inr (2, [.ref me, .ref q_1, .ref q_4, .ref q_7, .null, .null, .null, .null, .null, .int 0])), (q_1, .inr (0, [.int 16777216, .ref qa_2, .int 0])), (qa_2, .inl (cI, 64, .inl (fun _ => 0))), (q_4, .inr (0, [.int 16777216, .ref qa_5, .int 0])), (qa_5, .inl (cI, 64, .inl (fun _ => 0))), (q_7, .inr (0, [.int 16777216, .ref qa_8, .int 0])), (qa_8, .inl (cI, 64, .inl (fun _ => 0))), (q_10, .inl (cJ, 256, .inr (.inl (fun _ => 0))))] H := hP
  have hD : va_D A [(h0, .inr (2, [.ref me, .ref q_1, .ref q_4, .ref q_7, .null, .null, .null, .null, .null, .int 0])), (q_1, .inr (0, [.int 16777216, .ref qa_2, .int 0])), (qa_2, .inl (cI, 64, .inl (fun _ => 0))), (q_4, .inr (0, [.int 16777216, .ref qa_5, .int 0])), (qa_5, .inl (cI, 64, .inl (fun _ => 0))), (q_7, .inr (0, [.int 16777216, .ref qa_8, .int 0])), (qa_8, .inl (cI, 64, .inl (fun _ => 0))), (q_10, .inl (cJ, 256, .inr (.inl (fun _ => 0))))] := hD
  refine W.widen (k := 7) (n := 457) (Nat.le_of_ble_eq_true rfl) (Nat.le_of_ble_eq_true rfl) ?_
  refine va_put (D := (dC, dI)) (ci := 2) (v := .ref q_10) (ty := (.array .long)) (C := R_Terms) (T := T_Terms) (N := 10) hx hb hT in_Terms ty_Terms tyo_Terms nm_Terms hown hK hP hD hS 0 rfl rfl 4 (by decide) (hT _ vt_96) (fun _ h9 => h9) rfl (by decide +kernel) rfl rfl (Nat.le_of_ble_eq_true rfl) d_Terms_init_60 (fun H locs hP hD hS => ?_)
  have hP : va_P (dC, dI) classes [(h0, .inr (2, [.ref me, .ref q_1, .ref q_4, .ref q_7, .ref q_10, .null, .null, .null, .null, .int 0])), (q_1, .inr (0, [.int 16777216, .ref qa_2, .int 0])), (qa_2, .inl (cI, 64, .inl (fun _ => 0))), (q_4, .inr (0, [.int 16777216, .ref qa_5, .int 0])), (qa_5, .inl (cI, 64, .inl (fun _ => 0))), (q_7, .inr (0, [.int 16777216, .ref qa_8, .int 0])), (qa_8, .inl (cI, 64, .inl (fun _ => 0))), (q_10, .inl (cJ, 256, .inr (.inl (fun _ => 0))))] H := hP
  have hD : va_D A [(h0, .inr (2, [.ref me, .ref q_1, .ref q_4, .ref q_7, .ref q_10, .null, .null, .null, .null, .int 0])), (q_1, .inr (0, [.int 16777216, .ref qa_2, .int 0])), (qa_2, .inl (cI, 64, .inl (fun _ => 0))), (q_4, .inr (0, [.int 16777216, .ref qa_5, .int 0])), (qa_5, .inl (cI, 64, .inl (fun _ => 0))), (q_7, .inr (0, [.int 16777216, .ref qa_8, .int 0])), (qa_8, .inl (cI, 64, .inl (fun _ => 0))), (q_10, .inl (cJ, 256, .inr (.inl (fun _ => 0))))] := hD
  refine lv_aload_n hx hb d_Terms_init_63 rfl (lv_at hl 0 rfl) ?_
  refine lv_sipush (v := 256) hx hb d_Terms_init_64 (by decide) ?_
  refine va_newk (atype := .int) (ty := .int) (cA := cI) (a0 := (256, .inl (fun _ => 0))) hx hb (hT _ vt_83) rfl hK 0 rfl (fun _ _ => rfl) hP hD hS hA (fun _ => rfl) (by decide) (by decide) (by decide) (Nat.le_of_ble_eq_true rfl) (Nat.le_of_ble_eq_true rfl) d_Terms_init_67 (fun q_11 H hP hD hS => ?_)
  have hP : va_P (dC, dI) classes [(h0, .inr (2, [.ref me, .ref q_1, .ref q_4, .ref q_7, .ref q_10, .null, .null, .null, .null, .int 0])), (q_1, .inr (0, [.int 16777216, .ref qa_2, .int 0])), (qa_2, .inl (cI, 64, .inl (fun _ => 0))), (q_4, .inr (0, [.int 16777216, .ref qa_5, .int 0])), (qa_5, .inl (cI, 64, .inl (fun _ => 0))), (q_7, .inr (0, [.int 16777216, .ref qa_8, .int 0])), (qa_8, .inl (cI, 64, .inl (fun _ => 0))), (q_10, .inl (cJ, 256, .inr (.inl (fun _ => 0)))), (q_11, .inl (cI, 256, .inl (fun _ => 0)))] H := hP
  have hD : va_D A [(h0, .inr (2, [.ref me, .ref q_1, .ref q_4, .ref q_7, .ref q_10, .null, .null, .null, .null, .int 0])), (q_1, .inr (0, [.int 16777216, .ref qa_2, .int 0])), (qa_2, .inl (cI, 64, .inl (fun _ => 0))), (q_4, .inr (0, [.int 16777216, .ref qa_5, .int 0])), (qa_5, .inl (cI, 64, .inl (fun _ => 0))), (q_7, .inr (0, [.int 16777216, .ref qa_8, .int 0])), (qa_8, .inl (cI, 64, .inl (fun _ => 0))), (q_10, .inl (cJ, 256, .inr (.inl (fun _ => 0)))), (q_11, .inl (cI, 256, .inl (fun _ => 0)))] := hD
  refine W.widen (k := 8) (n := 713) (Nat.le_of_ble_eq_true rfl) (Nat.le_of_ble_eq_true rfl) ?_
  refine va_put (D := (dC, dI)) (ci := 2) (v := .ref q_11) (ty := (.array .int)) (C := R_Terms) (T := T_Terms) (N := 10) hx hb hT in_Terms ty_Terms tyo_Terms nm_Terms hown hK hP hD hS 0 rfl rfl 5 (by decide) (hT _ vt_97) (fun _ h9 => h9) rfl (by decide +kernel) rfl rfl (Nat.le_of_ble_eq_true rfl) d_Terms_init_69 (fun H locs hP hD hS => ?_)
  have hP : va_P (dC, dI) classes [(h0, .inr (2, [.ref me, .ref q_1, .ref q_4, .ref q_7, .ref q_10, .ref q_11, .null, .null, .null, .int 0])), (q_1, .inr (0, [.int 16777216, .ref qa_2, .int 0])), (qa_2, .inl (cI, 64, .inl (fun _ => 0))), (q_4, .inr (0, [.int 16777216, .ref qa_5, .int 0])), (qa_5, .inl (cI, 64, .inl (fun _ => 0))), (q_7, .inr (0, [.int 16777216, .ref qa_8, .int 0])), (qa_8, .inl (cI, 64, .inl (fun _ => 0))), (q_10, .inl (cJ, 256, .inr (.inl (fun _ => 0)))), (q_11, .inl (cI, 256, .inl (fun _ => 0)))] H := hP
  have hD : va_D A [(h0, .inr (2, [.ref me, .ref q_1, .ref q_4, .ref q_7, .ref q_10, .ref q_11, .null, .null, .null, .int 0])), (q_1, .inr (0, [.int 16777216, .ref qa_2, .int 0])), (qa_2, .inl (cI, 64, .inl (fun _ => 0))), (q_4, .inr (0, [.int 16777216, .ref qa_5, .int 0])), (qa_5, .inl (cI, 64, .inl (fun _ => 0))), (q_7, .inr (0, [.int 16777216, .ref qa_8, .int 0])), (qa_8, .inl (cI, 64, .inl (fun _ => 0))), (q_10, .inl (cJ, 256, .inr (.inl (fun _ => 0)))), (q_11, .inl (cI, 256, .inl (fun _ => 0)))] := hD
  refine lv_aload_n hx hb d_Terms_init_72 rfl (lv_at hl 0 rfl) ?_
  refine lv_sipush (v := 256) hx hb d_Terms_init_73 (by decide) ?_
  refine va_newk (atype := .int) (ty := .int) (cA := cI) (a0 := (256, .inl (fun _ => 0))) hx hb (hT _ vt_83) rfl hK 0 rfl (fun _ _ => rfl) hP hD hS hA (fun _ => rfl) (by decide) (by decide) (by decide) (Nat.le_of_ble_eq_true rfl) (Nat.le_of_ble_eq_true rfl) d_Terms_init_76 (fun q_12 H hP hD hS => ?_)
  have hP : va_P (dC, dI) classes [(h0, .inr (2, [.ref me, .ref q_1, .ref q_4, .ref q_7, .ref q_10, .ref q_11, .null, .null, .null, .int 0])), (q_1, .inr (0, [.int 16777216, .ref qa_2, .int 0])), (qa_2, .inl (cI, 64, .inl (fun _ => 0))), (q_4, .inr (0, [.int 16777216, .ref qa_5, .int 0])), (qa_5, .inl (cI, 64, .inl (fun _ => 0))), (q_7, .inr (0, [.int 16777216, .ref qa_8, .int 0])), (qa_8, .inl (cI, 64, .inl (fun _ => 0))), (q_10, .inl (cJ, 256, .inr (.inl (fun _ => 0)))), (q_11, .inl (cI, 256, .inl (fun _ => 0))), (q_12, .inl (cI, 256, .inl (fun _ => 0)))] H := hP
  have hD : va_D A [(h0, .inr (2, [.ref me, .ref q_1, .ref q_4, .ref q_7, .ref q_10, .ref q_11, .null, .null, .null, .int 0])), (q_1, .inr (0, [.int 16777216, .ref qa_2, .int 0])), (qa_2, .inl (cI, 64, .inl (fun _ => 0))), (q_4, .inr (0, [.int 16777216, .ref qa_5, .int 0])), (qa_5, .inl (cI, 64, .inl (fun _ => 0))), (q_7, .inr (0, [.int 16777216, .ref qa_8, .int 0])), (qa_8, .inl (cI, 64, .inl (fun _ => 0))), (q_10, .inl (cJ, 256, .inr (.inl (fun _ => 0)))), (q_11, .inl (cI, 256, .inl (fun _ => 0))), (q_12, .inl (cI, 256, .inl (fun _ => 0)))] := hD
  refine W.widen (k := 9) (n := 969) (Nat.le_of_ble_eq_true rfl) (Nat.le_of_ble_eq_true rfl) ?_
  refine va_put (D := (dC, dI)) (ci := 2) (v := .ref q_12) (ty := (.array .int)) (C := R_Terms) (T := T_Terms) (N := 10) hx hb hT in_Terms ty_Terms tyo_Terms nm_Terms hown hK hP hD hS 0 rfl rfl 6 (by decide) (hT _ vt_98) (fun _ h9 => h9) rfl (by decide +kernel) rfl rfl (Nat.le_of_ble_eq_true rfl) d_Terms_init_78 (fun H locs hP hD hS => ?_)
  have hP : va_P (dC, dI) classes [(h0, .inr (2, [.ref me, .ref q_1, .ref q_4, .ref q_7, .ref q_10, .ref q_11, .ref q_12, .null, .null, .int 0])), (q_1, .inr (0, [.int 16777216, .ref qa_2, .int 0])), (qa_2, .inl (cI, 64, .inl (fun _ => 0))), (q_4, .inr (0, [.int 16777216, .ref qa_5, .int 0])), (qa_5, .inl (cI, 64, .inl (fun _ => 0))), (q_7, .inr (0, [.int 16777216, .ref qa_8, .int 0])), (qa_8, .inl (cI, 64, .inl (fun _ => 0))), (q_10, .inl (cJ, 256, .inr (.inl (fun _ => 0)))), (q_11, .inl (cI, 256, .inl (fun _ => 0))), (q_12, .inl (cI, 256, .inl (fun _ => 0)))] H := hP
  have hD : va_D A [(h0, .inr (2, [.ref me, .ref q_1, .ref q_4, .ref q_7, .ref q_10, .ref q_11, .ref q_12, .null, .null, .int 0])), (q_1, .inr (0, [.int 16777216, .ref qa_2, .int 0])), (qa_2, .inl (cI, 64, .inl (fun _ => 0))), (q_4, .inr (0, [.int 16777216, .ref qa_5, .int 0])), (qa_5, .inl (cI, 64, .inl (fun _ => 0))), (q_7, .inr (0, [.int 16777216, .ref qa_8, .int 0])), (qa_8, .inl (cI, 64, .inl (fun _ => 0))), (q_10, .inl (cJ, 256, .inr (.inl (fun _ => 0)))), (q_11, .inl (cI, 256, .inl (fun _ => 0))), (q_12, .inl (cI, 256, .inl (fun _ => 0)))] := hD
  refine lv_aload_n hx hb d_Terms_init_81 rfl (lv_at hl 0 rfl) ?_
  refine lv_sipush (v := 256) hx hb d_Terms_init_82 (by decide) ?_
  refine va_newk (atype := .int) (ty := .int) (cA := cI) (a0 := (256, .inl (fun _ => 0))) hx hb (hT _ vt_83) rfl hK 0 rfl (fun _ _ => rfl) hP hD hS hA (fun _ => rfl) (by decide) (by decide) (by decide) (Nat.le_of_ble_eq_true rfl) (Nat.le_of_ble_eq_true rfl) d_Terms_init_85 (fun q_13 H hP hD hS => ?_)
  have hP : va_P (dC, dI) classes [(h0, .inr (2, [.ref me, .ref q_1, .ref q_4, .ref q_7, .ref q_10, .ref q_11, .ref q_12, .null, .null, .int 0])), (q_1, .inr (0, [.int 16777216, .ref qa_2, .int 0])), (qa_2, .inl (cI, 64, .inl (fun _ => 0))), (q_4, .inr (0, [.int 16777216, .ref qa_5, .int 0])), (qa_5, .inl (cI, 64, .inl (fun _ => 0))), (q_7, .inr (0, [.int 16777216, .ref qa_8, .int 0])), (qa_8, .inl (cI, 64, .inl (fun _ => 0))), (q_10, .inl (cJ, 256, .inr (.inl (fun _ => 0)))), (q_11, .inl (cI, 256, .inl (fun _ => 0))), (q_12, .inl (cI, 256, .inl (fun _ => 0))), (q_13, .inl (cI, 256, .inl (fun _ => 0)))] H := hP
  have hD : va_D A [(h0, .inr (2, [.ref me, .ref q_1, .ref q_4, .ref q_7, .ref q_10, .ref q_11, .ref q_12, .null, .null, .int 0])), (q_1, .inr (0, [.int 16777216, .ref qa_2, .int 0])), (qa_2, .inl (cI, 64, .inl (fun _ => 0))), (q_4, .inr (0, [.int 16777216, .ref qa_5, .int 0])), (qa_5, .inl (cI, 64, .inl (fun _ => 0))), (q_7, .inr (0, [.int 16777216, .ref qa_8, .int 0])), (qa_8, .inl (cI, 64, .inl (fun _ => 0))), (q_10, .inl (cJ, 256, .inr (.inl (fun _ => 0)))), (q_11, .inl (cI, 256, .inl (fun _ => 0))), (q_12, .inl (cI, 256, .inl (fun _ => 0))), (q_13, .inl (cI, 256, .inl (fun _ => 0)))] := hD
  refine W.widen (k := 10) (n := 1225) (Nat.le_of_ble_eq_true rfl) (Nat.le_of_ble_eq_true rfl) ?_
  refine va_put (D := (dC, dI)) (ci := 2) (v := .ref q_13) (ty := (.array .int)) (C := R_Terms) (T := T_Terms) (N := 10) hx hb hT in_Terms ty_Terms tyo_Terms nm_Terms hown hK hP hD hS 0 rfl rfl 7 (by decide) (hT _ vt_99) (fun _ h9 => h9) rfl (by decide +kernel) rfl rfl (Nat.le_of_ble_eq_true rfl) d_Terms_init_87 (fun H locs hP hD hS => ?_)
  have hP : va_P (dC, dI) classes [(h0, .inr (2, [.ref me, .ref q_1, .ref q_4, .ref q_7, .ref q_10, .ref q_11, .ref q_12, .ref q_13, .null, .int 0])), (q_1, .inr (0, [.int 16777216, .ref qa_2, .int 0])), (qa_2, .inl (cI, 64, .inl (fun _ => 0))), (q_4, .inr (0, [.int 16777216, .ref qa_5, .int 0])), (qa_5, .inl (cI, 64, .inl (fun _ => 0))), (q_7, .inr (0, [.int 16777216, .ref qa_8, .int 0])), (qa_8, .inl (cI, 64, .inl (fun _ => 0))), (q_10, .inl (cJ, 256, .inr (.inl (fun _ => 0)))), (q_11, .inl (cI, 256, .inl (fun _ => 0))), (q_12, .inl (cI, 256, .inl (fun _ => 0))), (q_13, .inl (cI, 256, .inl (fun _ => 0)))] H := hP
  have hD : va_D A [(h0, .inr (2, [.ref me, .ref q_1, .ref q_4, .ref q_7, .ref q_10, .ref q_11, .ref q_12, .ref q_13, .null, .int 0])), (q_1, .inr (0, [.int 16777216, .ref qa_2, .int 0])), (qa_2, .inl (cI, 64, .inl (fun _ => 0))), (q_4, .inr (0, [.int 16777216, .ref qa_5, .int 0])), (qa_5, .inl (cI, 64, .inl (fun _ => 0))), (q_7, .inr (0, [.int 16777216, .ref qa_8, .int 0])), (qa_8, .inl (cI, 64, .inl (fun _ => 0))), (q_10, .inl (cJ, 256, .inr (.inl (fun _ => 0)))), (q_11, .inl (cI, 256, .inl (fun _ => 0))), (q_12, .inl (cI, 256, .inl (fun _ => 0))), (q_13, .inl (cI, 256, .inl (fun _ => 0)))] := hD
  refine lv_aload_n hx hb d_Terms_init_90 rfl (lv_at hl 0 rfl) ?_
  refine lv_sipush (v := 256) hx hb d_Terms_init_91 (by decide) ?_
  refine va_newk (atype := .int) (ty := .int) (cA := cI) (a0 := (256, .inl (fun _ => 0))) hx hb (hT _ vt_83) rfl hK 0 rfl (fun _ _ => rfl) hP hD hS hA (fun _ => rfl) (by decide) (by decide) (by decide) (Nat.le_of_ble_eq_true rfl) (Nat.le_of_ble_eq_true rfl) d_Terms_init_94 (fun q_14 H hP hD hS => ?_)
  have hP : va_P (dC, dI) classes [(h0, .inr (2, [.ref me, .ref q_1, .ref q_4, .ref q_7, .ref q_10, .ref q_11, .ref q_12, .ref q_13, .null, .int 0])), (q_1, .inr (0, [.int 16777216, .ref qa_2, .int 0])), (qa_2, .inl (cI, 64, .inl (fun _ => 0))), (q_4, .inr (0, [.int 16777216, .ref qa_5, .int 0])), (qa_5, .inl (cI, 64, .inl (fun _ => 0))), (q_7, .inr (0, [.int 16777216, .ref qa_8, .int 0])), (qa_8, .inl (cI, 64, .inl (fun _ => 0))), (q_10, .inl (cJ, 256, .inr (.inl (fun _ => 0)))), (q_11, .inl (cI, 256, .inl (fun _ => 0))), (q_12, .inl (cI, 256, .inl (fun _ => 0))), (q_13, .inl (cI, 256, .inl (fun _ => 0))), (q_14, .inl (cI, 256, .inl (fun _ => 0)))] H := hP
  have hD : va_D A [(h0, .inr (2, [.ref me, .ref q_1, .ref q_4, .ref q_7, .ref q_10, .ref q_11, .ref q_12, .ref q_13, .null, .int 0])), (q_1, .inr (0, [.int 16777216, .ref qa_2, .int 0])), (qa_2, .inl (cI, 64, .inl (fun _ => 0))), (q_4, .inr (0, [.int 16777216, .ref qa_5, .int 0])), (qa_5, .inl (cI, 64, .inl (fun _ => 0))), (q_7, .inr (0, [.int 16777216, .ref qa_8, .int 0])), (qa_8, .inl (cI, 64, .inl (fun _ => 0))), (q_10, .inl (cJ, 256, .inr (.inl (fun _ => 0)))), (q_11, .inl (cI, 256, .inl (fun _ => 0))), (q_12, .inl (cI, 256, .inl (fun _ => 0))), (q_13, .inl (cI, 256, .inl (fun _ => 0))), (q_14, .inl (cI, 256, .inl (fun _ => 0)))] := hD
  refine W.widen (k := 11) (n := 1481) (Nat.le_of_ble_eq_true rfl) (Nat.le_of_ble_eq_true rfl) ?_
  refine va_put (D := (dC, dI)) (ci := 2) (v := .ref q_14) (ty := (.array .int)) (C := R_Terms) (T := T_Terms) (N := 10) hx hb hT in_Terms ty_Terms tyo_Terms nm_Terms hown hK hP hD hS 0 rfl rfl 8 (by decide) (hT _ vt_100) (fun _ h9 => h9) rfl (by decide +kernel) rfl rfl (Nat.le_of_ble_eq_true rfl) d_Terms_init_96 (fun H locs hP hD hS => ?_)
  have hP : va_P (dC, dI) classes [(h0, .inr (2, [.ref me, .ref q_1, .ref q_4, .ref q_7, .ref q_10, .ref q_11, .ref q_12, .ref q_13, .ref q_14, .int 0])), (q_1, .inr (0, [.int 16777216, .ref qa_2, .int 0])), (qa_2, .inl (cI, 64, .inl (fun _ => 0))), (q_4, .inr (0, [.int 16777216, .ref qa_5, .int 0])), (qa_5, .inl (cI, 64, .inl (fun _ => 0))), (q_7, .inr (0, [.int 16777216, .ref qa_8, .int 0])), (qa_8, .inl (cI, 64, .inl (fun _ => 0))), (q_10, .inl (cJ, 256, .inr (.inl (fun _ => 0)))), (q_11, .inl (cI, 256, .inl (fun _ => 0))), (q_12, .inl (cI, 256, .inl (fun _ => 0))), (q_13, .inl (cI, 256, .inl (fun _ => 0))), (q_14, .inl (cI, 256, .inl (fun _ => 0)))] H := hP
  have hD : va_D A [(h0, .inr (2, [.ref me, .ref q_1, .ref q_4, .ref q_7, .ref q_10, .ref q_11, .ref q_12, .ref q_13, .ref q_14, .int 0])), (q_1, .inr (0, [.int 16777216, .ref qa_2, .int 0])), (qa_2, .inl (cI, 64, .inl (fun _ => 0))), (q_4, .inr (0, [.int 16777216, .ref qa_5, .int 0])), (qa_5, .inl (cI, 64, .inl (fun _ => 0))), (q_7, .inr (0, [.int 16777216, .ref qa_8, .int 0])), (qa_8, .inl (cI, 64, .inl (fun _ => 0))), (q_10, .inl (cJ, 256, .inr (.inl (fun _ => 0)))), (q_11, .inl (cI, 256, .inl (fun _ => 0))), (q_12, .inl (cI, 256, .inl (fun _ => 0))), (q_13, .inl (cI, 256, .inl (fun _ => 0))), (q_14, .inl (cI, 256, .inl (fun _ => 0)))] := hD
  refine W.widen (k := 11) (n := 1481) (Nat.le_of_ble_eq_true rfl) (Nat.le_of_ble_eq_true rfl) ?_
  have hP9 := hP.sub (ws' := [(h0, .inr (2, [.ref me, .ref q_1, .ref q_4, .ref q_7, .ref q_10, .ref q_11, .ref q_12, .ref q_13, .ref q_14, .int 0])), (q_1, .inr (0, [.int 16777216, .ref qa_2, .int 0])), (qa_2, .inl (cI, 64, .inl (fun _ => 0))), (q_4, .inr (0, [.int 16777216, .ref qa_5, .int 0])), (qa_5, .inl (cI, 64, .inl (fun _ => 0))), (q_7, .inr (0, [.int 16777216, .ref qa_8, .int 0])), (qa_8, .inl (cI, 64, .inl (fun _ => 0))), (q_10, .inl (cJ, 256, .inr (.inl (fun _ => 0)))), (q_11, .inl (cI, 256, .inl (fun _ => 0))), (q_12, .inl (cI, 256, .inl (fun _ => 0))), (q_13, .inl (cI, 256, .inl (fun _ => 0))), (q_14, .inl (cI, 256, .inl (fun _ => 0)))]) [0, 1, 2, 3, 4, 5, 6, 7, 8, 9, 10, 11] rfl
  have hD9 := hD.sub (ws' := [(h0, .inr (2, [.ref me, .ref q_1, .ref q_4, .ref q_7, .ref q_10, .ref q_11, .ref q_12, .ref q_13, .ref q_14, .int 0])), (q_1, .inr (0, [.int 16777216, .ref qa_2, .int 0])), (qa_2, .inl (cI, 64, .inl (fun _ => 0))), (q_4, .inr (0, [.int 16777216, .ref qa_5, .int 0])), (qa_5, .inl (cI, 64, .inl (fun _ => 0))), (q_7, .inr (0, [.int 16777216, .ref qa_8, .int 0])), (qa_8, .inl (cI, 64, .inl (fun _ => 0))), (q_10, .inl (cJ, 256, .inr (.inl (fun _ => 0)))), (q_11, .inl (cI, 256, .inl (fun _ => 0))), (q_12, .inl (cI, 256, .inl (fun _ => 0))), (q_13, .inl (cI, 256, .inl (fun _ => 0))), (q_14, .inl (cI, 256, .inl (fun _ => 0)))]) [0, 1, 2, 3, 4, 5, 6, 7, 8, 9, 10, 11] (by decide) rfl
  have hK9 := hK.sub (tys' := [(cI, .int), (cJ, .long)]) [0, 1] rfl
  exact W.vret hx hb hr (fun t ht hW => ⟨⟨(), rfl, trivial, q_1, qa_2, q_4, qa_5, q_7, qa_8, q_10, q_11, q_12, q_13, q_14, by rw [ht]; exact hP9, va_K.moved hW.alike hK9, hD9⟩, hS.F ht⟩) hS.2.2 d_Terms_init_99
set_option maxHeartbeats 4000000 in
set_option maxRecDepth 100000 in
/-- Par(..) -/
theorem c_Par_init (l : Launch) (dC : Nat → ClassId) (dI : Nat → Nat → Nat) (sz : Nat) (h0 p1 p2 p3 p4 p5 : Nat) (cI : ClassId) : Met l y_Par_init w_Par_init ({ frames := 20, cells := 8, slots := 156, locals := 600 }) (Pw dC dI [.ref h0, .ref p1, .ref p2, .ref p3, .ref p4, .ref p5] sz [(h0, .inr (5, [.null, .null, .null, .null, .null, .null, .null, .null, .null, .int 0, .int 0, .int 0, .int 0, .int 0, .int 0, .int 0, .int 0, .int 0, .int 0, .int 0]))] [(cI, .int)]) (va_Qv (fun _ : Unit => True) (fun _ t => ∃ (r_open a_open r_scope a_scope r_pending a_pending r_binders a_binders : Nat), va_P (dC, dI) classes [(h0, .inr (5, [.ref p1, .ref p2, .ref p3, .ref p4, .ref p5, .ref r_open, .ref r_scope, .ref r_pending, .ref r_binders, .int 0, .int 0, .int 0, .int 0, .int 0, .int 0, .int 0, .int 0, .int 0, .int 0, .int 0])), (r_open, .inr (0, [.int 16777216, .ref a_open, .int 0])), (a_open, .inl (cI, 48, .inl (fun _ => 0))), (r_scope, .inr (0, [.int 16777216, .ref a_scope, .int 0])), (a_scope, .inl (cI, 32, .inl (fun _ => 0))), (r_pending, .inr (0, [.int 16777216, .ref a_pending, .int 0])), (a_pending, .inl (cI, 32, .inl (fun _ => 0))), (r_binders, .inr (0, [.int 16777216, .ref a_binders, .int 0])), (a_binders, .inl (cI, 32, .inl (fun _ => 0)))] t.heap ∧ va_K (dC, dI) classes [(cI, .int)] t ∧ va_D (va_A [(h0, .inr (5, [.null, .null, .null, .null, .null, .null, .null, .null, .null, .int 0, .int 0, .int 0, .int 0, .int 0, .int 0, .int 0, .int 0, .int 0, .int 0, .int 0]))] sz) [(h0, .inr (5, [.ref p1, .ref p2, .ref p3, .ref p4, .ref p5, .ref r_open, .ref r_scope, .ref r_pending, .ref r_binders, .int 0, .int 0, .int 0, .int 0, .int 0, .int 0, .int 0, .int 0, .int 0, .int 0, .int 0])), (r_open, .inr (0, [.int 16777216, .ref a_open, .int 0])), (a_open, .inl (cI, 48, .inl (fun _ => 0))), (r_scope, .inr (0, [.int 16777216, .ref a_scope, .int 0])), (a_scope, .inl (cI, 32, .inl (fun _ => 0))), (r_pending, .inr (0, [.int 16777216, .ref a_pending, .int 0])), (a_pending, .inl (cI, 32, .inl (fun _ => 0))), (r_binders, .inr (0, [.int 16777216, .ref a_binders, .int 0])), (a_binders, .inl (cI, 32, .inl (fun _ => 0)))]) (va_A [(h0, .inr (5, [.null, .null, .null, .null, .null, .null, .null, .null, .null, .int 0, .int 0, .int 0, .int 0, .int 0, .int 0, .int 0, .int 0, .int 0, .int 0, .int 0]))] sz)) 8 156 (va_A [(h0, .inr (5, [.null, .null, .null, .null, .null, .null, .null, .null, .null, .int 0, .int 0, .int 0, .int 0, .int 0, .int 0, .int 0, .int 0, .int 0, .int 0, .int 0]))] sz) := by
  refine Met.ofW (cc := b_Par_init) (maxL := 6) (ret := none) (by decide) rfl ?_
  intro p e s m args below meth c s₁ B hml hv
  obtain ⟨rfl, hsz, hP, hK, hD0⟩ := hv
  have hx := B.exec
  have hb := B.bytes
  have hr := B.returns
  have hT : ∀ w ∈ vT, w.before _ s = true := fun w h => atoms_spec (ws := w_Par_init) B.pre w (List.mem_cons_of_mem _ h)
  have hown : s.vm.findClass R_Par = some m.cls := findClass_of_methodNamed B.named
  have hlocks := B.notSynchronized
  have hin : meth.name = "<init>" := (name_of_methodNamed B.named B.method).1
  subst hsz
  have hD := hD0.self (sz := s.heap.size)
  generalize hAe : va_A [(h0, .inr (5, [.null, .null, .null, .null, .null, .null, .null, .null, .null, .int 0, .int 0, .int 0, .int 0, .int 0, .int 0, .int 0, .int 0, .int 0, .int 0, .int 0]))] s.heap.size = A at hD ⊢
  have hA : ∀ q : Nat, s.heap.size ≤ q → A q := fun q h => by rw [← hAe]; exact Or.inr h
  have hS : va_S A s.heap s.heap [] := va_S.rf
  have hP : va_P (dC, dI) classes [(h0, .inr (5, [.null, .null, .null, .null, .null, .null, .null, .null, .null, .int 0, .int 0, .int 0, .int 0, .int 0, .int 0, .int 0, .int 0, .int 0, .int 0, .int 0]))] s.heap := hP
  have hl := lv_entry ([.ref h0, .ref p1, .ref p2, .ref p3, .ref p4, .ref p5]) (n := 6) (Nat.le_of_ble_eq_true rfl)
  rw [lg_entry_eq]
  generalize (lg_sl ([.ref h0, .ref p1, .ref p2, .ref p3, .ref p4, .ref p5]) ++ List.replicate (6 - (lg_sl ([.ref h0, .ref p1, .ref p2, .ref p3, .ref p4, .ref p5])).length) Slot.unset).toArray = ls at hl ⊢
  have hl : lv_has ls 6 [(0, .ref h0), (1, .ref p1), (2, .ref p2), (3, .ref p3), (4, .ref p4), (5, .ref p5)] := hl
  refine lv_aload_n hx hb d_Par_init_0 rfl (lv_at hl 0 rfl) ?_
  refine W.objInit hx hb hown (hT _ vt_113) (hT _ vt_1) (hT _ vt_2) rfl (by rw [hml]; exact hl.1) rfl d_Par_init_1 (Nat.le_of_ble_eq_true rfl) (Nat.le_of_ble_eq_true rfl) ?_
  refine W.eq (g2 := F0 m 4 ls []) rfl ?_
  refine lv_aload_n hx hb d_Par_init_4 rfl (lv_at hl 0 rfl) ?_
  refine lv_aload_n hx hb d_Par_init_5 rfl (lv_at hl 1 rfl) ?_
  refine va_putF (D := (dC, dI)) (ci := 5) (v := .ref p1) (ty := (.object "FamilyKernel$Row")) (C := R_Par) (T := T_Par) (N := 20) hx hb hT in_Par ty_Par tyo_Par nm_Par hown hK hP hD hS 0 rfl rfl 0 (by decide) (hT _ vt_114) (fun _ h9 => h9) rfl hin rfl (by decide +kernel) rfl rfl (Nat.le_of_ble_eq_true rfl) d_Par_init_6 (fun H locs hP hD hS => ?_)
  have hP : va_P (dC, dI) classes [(h0, .inr (5, [.ref p1, .null, .null, .null, .null, .null, .null, .null, .null, .int 0, .int 0, .int 0, .int 0, .int 0, .int 0, .int 0, .int 0, .int 0, .int 0, .int 0]))] H := hP
  have hD : va_D A [(h0, .inr (5, [.ref p1, .null, .null, .null, .null, .null, .null, .null, .null, .int 0, .int 0, .int 0, .int 0, .int 0, .int 0, .int 0, .int 0, .int 0, .int 0, .int 0]))] := hD
  refine lv_aload_n hx hb d_Par_init_9 rfl (lv_at hl 0 rfl) ?_
  refine lv_aload_n hx hb d_Par_init_10 rfl (lv_at hl 2 rfl) ?_
  refine va_putF (D := (dC, dI)) (ci := 5) (v := .ref p2) (ty := (.object "FamilyKernel$Lexer")) (C := R_Par) (T := T_Par) (N := 20) hx hb hT in_Par ty_Par tyo_Par nm_Par hown hK hP hD hS 0 rfl rfl 1 (by decide) (hT _ vt_115) (fun _ h9 => h9) rfl hin rfl (by decide +kernel) rfl rfl (Nat.le_of_ble_eq_true rfl) d_Par_init_11 (fun H locs hP hD hS => ?_)
  have hP : va_P (dC, dI) classes [(h0, .inr (5, [.ref p1, .ref p2, .null, .null, .null, .null, .null, .null, .null, .int 0, .int 0, .int 0, .int 0, .int 0, .int 0, .int 0, .int 0, .int 0, .int 0, .int 0]))] H := hP
  have hD : va_D A [(h0, .inr (5, [.ref p1, .ref p2, .null, .null, .null, .null, .null, .null, .null, .int 0, .int 0, .int 0, .int 0, .int 0, .int 0, .int 0, .int 0, .int 0, .int 0, .int 0]))] := hD
  refine lv_aload_n hx hb d_Par_init_14 rfl (lv_at hl 0 rfl) ?_
  refine lv_aload_n hx hb d_Par_init_15 rfl (lv_at hl 3 rfl) ?_
  refine va_putF (D := (dC, dI)) (ci := 5) (v := .ref p3) (ty := (.object "FamilyKernel$Meter")) (C := R_Par) (T := T_Par) (N := 20) hx hb hT in_Par ty_Par tyo_Par nm_Par hown hK hP hD hS 0 rfl rfl 2 (by decide) (hT _ vt_116) (fun _ h9 => h9) rfl hin rfl (by decide +kernel) rfl rfl (Nat.le_of_ble_eq_true rfl) d_Par_init_16 (fun H locs hP hD hS => ?_)
  have hP : va_P (dC, dI) classes [(h0, .inr (5, [.ref p1, .ref p2, .ref p3, .null, .null, .null, .null, .null, .null, .int 0, .int 0, .int 0, .int 0, .int 0, .int 0, .int 0, .int 0, .int 0, .int 0, .int 0]))] H := hP
  have hD : va_D A [(h0, .inr (5, [.ref p1, .ref p2, .ref p3, .null, .null, .null, .null, .null, .null, .int 0, .int 0, .int 0, .int 0, .int 0, .int 0, .int 0, .int 0, .int 0, .int 0, .int 0]))] := hD
  refine lv_aload_n hx hb d_Par_init_19 rfl (lv_at hl 0 rfl) ?_
  refine lv_aload hx hb d_Par_init_20 (lv_at hl 4 rfl) ?_
  refine va_putF (D := (dC, dI)) (ci := 5) (v := .ref p4) (ty := (.object "FamilyKernel$Terms")) (C := R_Par) (T := T_Par) (N := 20) hx hb hT in_Par ty_Par tyo_Par nm_Par hown hK hP hD hS 0 rfl rfl 3 (by decide) (hT _ vt_117) (fun _ h9 => h9) rfl hin rfl (by decide +kernel) rfl rfl (Nat.le_of_ble_eq_true rfl) d_Par_init_22 (fun H locs hP hD hS => ?_)
  have hP : va_P (dC, dI) classes [(h0, .inr (5, [.ref p1, .ref p2, .ref p3, .ref p4, .null, .null, .null, .null, .null, .int 0, .int 0, .int 0, .int 0, .int 0, .int 0, .int 0, .int 0, .int 0, .int 0, .int 0]))] H := hP
  have hD : va_D A [(h0, .inr (5, [.ref p1, .ref p2, .ref p3, .ref p4, .null, .null, .null, .null, .null, .int 0, .int 0, .int 0, .int 0, .int 0, .int 0, .int 0, .int 0, .int 0, .int 0, .int 0]))] := hD
  refine lv_aload_n hx hb d_Par_init_25 rfl (lv_at hl 0 rfl) ?_
  refine lv_aload hx hb d_Par_init_26 (lv_at hl 5 rfl) ?_
  refine va_putF (D := (dC, dI)) (ci := 5) (v := .ref p5) (ty := (.object "FamilyKernel$Environment")) (C := R_Par) (T := T_Par) (N := 20) hx hb hT in_Par ty_Par tyo_Par nm_Par hown hK hP hD hS 0 rfl rfl 4 (by decide) (hT _ vt_118) (fun _ h9 => h9) rfl hin rfl (by decide +kernel) rfl rfl (Nat.le_of_ble_eq_true rfl) d_Par_init_28 (fun H locs hP hD hS => ?_)
  have hP : va_P (dC, dI) classes [(h0, .inr (5, [.ref p1, .ref p2, .ref p3, .ref p4, .ref p5, .null, .null, .null, .null, .int 0, .int 0, .int 0, .int 0, .int 0, .int 0, .int 0, .int 0, .int 0, .int 0, .int 0]))] H := hP
  have hD : va_D A [(h0, .inr (5, [.ref p1, .ref p2, .ref p3, .ref p4, .ref p5, .null, .null, .null, .null, .int 0, .int 0, .int 0, .int 0, .int 0, .int 0, .int 0, .int 0, .int 0, .int 0, .int 0]))] := hD
  refine lv_aload_n hx hb d_Par_init_31 rfl (lv_at hl 0 rfl) ?_
  refine va_new (ci := 0) (fs := [.int 0, .null, .int 0]) (C := R_Row) (T := T_Row) (N := 3) hx hb hT in_Row ty_Row tyo_Row hown (hT _ vt_119) (hT _ vt_5) (hT _ vt_4) hK hP hD hS hA rfl df_Row (Nat.le_of_ble_eq_true rfl) (Nat.le_of_ble_eq_true rfl) d_Par_init_32 (fun q_1 H hP hD hS => ?_)
  have hP : va_P (dC, dI) classes [(h0, .inr (5, [.ref p1, .ref p2, .ref p3, .ref p4, .ref p5, .null, .null, .null, .null, .int 0, .int 0, .int 0, .int 0, .int 0, .int 0, .int 0, .int 0, .int 0, .int 0, .int 0])), (q_1, .inr (0, [.int 0, .null, .int 0]))] H := hP
  have hD : va_D A [(h0, .inr (5, [.ref p1, .ref p2, .ref p3, .ref p4, .ref p5, .null, .null, .null, .null, .int 0, .int 0, .int 0, .int 0, .int 0, .int 0, .int 0, .int 0, .int 0, .int 0, .int 0])), (q_1, .inr (0, [.int 0, .null, .int 0]))] := hD
  refine W.widen (k := 1) (n := 3) (Nat.le_of_ble_eq_true rfl) (Nat.le_of_ble_eq_true rfl) ?_
  refine lv_dup hx hb d_Par_init_35 rfl ?_
  refine lv_bipush (v := 48) hx hb d_Par_init_36 (by decide) ?_
  refine lv_ldc (v := 16777216) hx hb hown (hT _ vt_120) d_Par_init_38 ?_
  have hPc := hP.sub (ws' := [(q_1, .inr (0, [.int 0, .null, .int 0]))]) [1] rfl
  have hDc := hD.sub (ws' := [(q_1, .inr (0, [.int 0, .null, .int 0]))]) [1] (by decide) rfl
  have hKc := hK.sub (tys' := [(cI, .int)]) [0] rfl
  have hFc := va_free (wc := [(q_1, .inr (0, [.int 0, .null, .int 0]))]) hD hS hA [1] rfl
  refine va_callv (va_runI (As := [.int 48, .int 16777216]) (rest := [.ref q_1, .ref h0]) ⟨hx, hb, hml, hown, hT⟩ (c_Row_init l dC dI H.size q_1 48 cI 48 16777216 (by decide) (by decide) (by decide) (by decide)) (cwI 2 hT (gI vt_9) rfl rfl rfl (hT _ vt_4) (hT _ vt_121) (hT _ vt_8) rfl (by decide +kernel) ⟨Nat.le_of_ble_eq_true rfl, Nat.le_of_ble_eq_true rfl⟩) ⟨Pw_blind, Pw_of hPc hKc hDc⟩ rfl rfl hl.1 rfl (lv_room (Nat.le_of_ble_eq_true rfl)) d_Par_init_40 ⟨Nat.le_of_ble_eq_true rfl, Nat.le_of_ble_eq_true rfl⟩) hS (fun q _ h => hFc q h) hFc (fun u t H1 locs ht hvm hw hB hz1 hk1 hS => ?_)
  obtain ⟨qa_2, hP1, hK1, hD1⟩ := hB
  rw [ht] at hP1
  have hK1 := va_K.moved hvm.symm hK1
  obtain ⟨hP, hD⟩ := va_join (wr := [(h0, .inr (5, [.ref p1, .ref p2, .ref p3, .ref p4, .ref p5, .null, .null, .null, .null, .int 0, .int 0, .int 0, .int 0, .int 0, .int 0, .int 0, .int 0, .int 0, .int 0, .int 0]))]) (w1 := [(q_1, .inr (0, [.int 16777216, .ref qa_2, .int 0])), (qa_2, .inl (cI, 48, .inl (fun _ => 0)))]) hP hD [1] [0] rfl rfl (by decide) (by decide) hk1 hFc hP1 hD1
  generalize H1 = H at hP hS ⊢
  have hP : va_P (dC, dI) classes [(h0, .inr (5, [.ref p1, .ref p2, .ref p3, .ref p4, .ref p5, .null, .null, .null, .null, .int 0, .int 0, .int 0, .int 0, .int 0, .int 0, .int 0, .int 0, .int 0, .int 0, .int 0])), (q_1, .inr (0, [.int 16777216, .ref qa_2, .int 0])), (qa_2, .inl (cI, 48, .inl (fun _ => 0)))] H := hP
  have hD : va_D A [(h0, .inr (5, [.ref p1, .ref p2, .ref p3, .ref p4, .ref p5, .null, .null, .null, .null, .int 0, .int 0, .int 0, .int 0, .int 0, .int 0, .int 0, .int 0, .int 0, .int 0, .int 0])), (q_1, .inr (0, [.int 16777216, .ref qa_2, .int 0])), (qa_2, .inl (cI, 48, .inl (fun _ => 0)))] := hD
  refine W.widen (k := 2) (n := 51) (Nat.le_of_ble_eq_true rfl) (Nat.le_of_ble_eq_true rfl) ?_
  refine va_putF (D := (dC, dI)) (ci := 5) (v := .ref q_1) (ty := (.object "FamilyKernel$Row")) (C := R_Par) (T := T_Par) (N := 20) hx hb hT in_Par ty_Par tyo_Par nm_Par hown hK hP hD hS 0 rfl rfl 5 (by decide) (hT _ vt_122) (fun _ h9 => h9) rfl hin rfl (by decide +kernel) rfl rfl (Nat.le_of_ble_eq_true rfl) d_Par_init_43 (fun H locs hP hD hS => ?_)
  have hP : va_P (dC, dI) classes [(h0, .inr (5, [.ref p1, .ref p2, .ref p3, .ref p4, .ref p5, .ref q_1, .null, .null, .null, .int 0, .int 0, .int 0, .int 0, .int 0, .int 0, .int 0, .int 0, .int 0, .int 0, .int 0])), (q_1, .inr (0, [.int 16777216, .ref qa_2, .int 0])), (qa_2, .inl (cI, 48, .inl (fun _ => 0)))] H := hP
  have hD : va_D A [(h0, .inr (5, [.ref p1, .ref p2, .ref p3, .ref p4, .ref p5, .ref q_1, .null, .null, .null, .int 0, .int 0, .int 0, .int 0, .int 0, .int 0, .int 0, .int 0, .int 0, .int 0, .int 0])), (q_1, .inr (0, [.int 16777216, .ref qa_2, .int 0])), (qa_2, .inl (cI, 48, .inl (fun _ => 0)))] := hD
  refine lv_aload_n hx hb d_Par_init_46 rfl (lv_at hl 0 rfl) ?_
  refine va_new (ci := 0) (fs := [.int 0, .null, .int 0]) (C := R_Row) (T := T_Row) (N := 3) hx hb hT in_Row ty_Row tyo_Row hown (hT _ vt_119) (hT _ vt_5) (hT _ vt_4) hK hP hD hS hA rfl df_Row (Nat.le_of_ble_eq_true rfl) (Nat.le_of_ble_eq_true rfl) d_Par_init_47 (fun q_4 H hP hD hS => ?_)
  have hP : va_P (dC, dI) classes [(h0, .inr (5, [.ref p1, .ref p2, .ref p3, .ref p4, .ref p5, .ref q_1, .null, .null, .null, .int 0, .int 0, .int 0, .int 0, .int 0, .int 0, .int 0, .int 0, .int 0, .int 0, .int 0])), (q_1, .inr (0, [.int 16777216, .ref qa_2, .int 0])), (qa_2, .inl (cI, 48, .inl (fun _ => 0))), (q_4, .inr (0, [.int 0, .null, .int 0]))] H := hP
  have hD : va_D A [(h0, .inr (5, [.ref p1, .ref p2, .ref p3, .ref p4, .ref p5, .ref q_1, .null, .null, .null, .int 0, .int 0, .int 0, .int 0, .int 0, .int 0, .int 0, .int 0, .int 0, .int 0, .int 0])), (q_1, .inr (0, [.int 16777216, .ref qa_2, .int 0])), (qa_2, .inl (cI, 48, .inl (fun _ => 0))), (q_4, .inr (0, [.int 0, .null, .int 0]))] := hD
  refine W.widen (k := 3) (n := 54) (Nat.le_of_ble_eq_true rfl) (Nat.le_of_ble_eq_true rfl) ?_
  refine lv_dup hx hb d_Par_init_50 rfl ?_
  refine lv_bipush (v := 32) hx hb d_Par_init_51 (by decide) ?_
  refine lv_ldc (v := 16777216) hx hb hown (hT _ vt_120) d_Par_init_53 ?_
  have hPc := hP.sub (ws' := [(q_4, .inr (0, [.int 0, .null, .int 0]))]) [3] rfl
  have hDc := hD.sub (ws' := [(q_4, .inr (0, [.int 0, .null, .int 0]))]) [3] (by decide) rfl
  have hKc := hK.sub (tys' := [(cI, .int)]) [0] rfl
  have hFc := va_free (wc := [(q_4, .inr (0, [.int 0, .null, .int 0]))]) hD hS hA [3] rfl
  refine va_callv (va_runI (As := [.int 32, .int 16777216]) (rest := [.ref q_4, .ref h0]) ⟨hx, hb, hml, hown, hT⟩ (c_Row_init l dC dI H.size q_4 32 cI 32 16777216 (by decide) (by decide) (by decide) (by decide)) (cwI 2 hT (gI vt_9) rfl rfl rfl (hT _ vt_4) (hT _ vt_121) (hT _ vt_8) rfl (by decide +kernel) ⟨Nat.le_of_ble_eq_true rfl, Nat.le_of_ble_eq_true rfl⟩) ⟨Pw_blind, Pw_of hPc hKc hDc⟩ rfl rfl hl.1 rfl (lv_room (Nat.le_of_ble_eq_true rfl)) d_Par_init_55 ⟨Nat.le_of_ble_eq_true rfl, Nat.le_of_ble_eq_true rfl⟩) hS (fun q _ h => hFc q h) hFc (fun u t H1 locs ht hvm hw hB hz1 hk1 hS => ?_)
  obtain ⟨qa_5, hP1, hK1, hD1⟩ := hB
  rw [ht] at hP1
  have hK1 := va_K.moved hvm.symm hK1
  obtain ⟨hP, hD⟩ := va_join (wr := [(h0, .inr (5, [.ref p1, .ref p2, .ref p3, .ref p4, .ref p5, .ref q_1, .null, .null, .null, .int 0, .int 0, .int 0, .int 0, .int 0, .int 0, .int 0, .int 0, .int 0, .int 0, .int 0])), (q_1, .inr (0, [.int 16777216, .ref qa_2, .int 0])), (qa_2, .inl (cI, 48, .inl (fun _ => 0)))]) (w1 := [(q_4, .inr (0, [.int 16777216, .ref qa_5, .int 0])), (qa_5, .inl (cI, 32, .inl (fun _ => 0)))]) hP hD [3] [0, 1, 2] rfl rfl (by decide) (by decide) hk1 hFc hP1 hD1
  generalize H1 = H at hP hS ⊢
  have hP : va_P (dC, dI) classes [(h0, .inr (5, [.ref p1, .ref p2, .ref p3, .ref p4, .ref p5, .ref q_1, .null, .null, .null, .int 0, .int 0, .int 0, .int 0, .int 0, .int 0, .int 0, .int 0, .int 0, .int 0, .int 0])), (q_1, .inr (0, [.int 16777216, .ref qa_2, .int 0])), (qa_2, .inl (cI, 48, .inl (fun _ => 0))), (q_4, .inr (0, [.int 16777216, .ref qa_5, .int 0])), (qa_5, .inl (cI, 32, .inl (fun _ => 0)))] H := hP
  have hD : va_D A [(h0, .inr (5, [.ref p1, .ref p2, .ref p3, .ref p4, .ref p5, .ref q_1, .null, .null, .null, .int 0, .int 0, .int 0, .int 0, .int 0, .int 0, .int 0, .int 0, .int 0, .int 0, .int 0])), (q_1, .inr (0, [.int 16777216, .ref qa_2, .int 0])), (qa_2, .inl (cI, 48, .inl (fun _ => 0))), (q_4, .inr (0, [.int 16777216, .ref qa_5, .int 0])), (qa_5, .inl (cI, 32, .inl (fun _ => 0)))] := hD
  refine W.widen (k := 4) (n := 86) (Nat.le_of_ble_eq_true rfl) (Nat.le_of_ble_eq_true rfl) ?_
  refine va_putF (D := (dC, dI)) (ci := 5) (v := .ref q_4) (ty := (.object "FamilyKernel$Row")) (C := R_Par) (T := T_Par) (N := 20) hx hb hT in_Par ty_Par tyo_Par nm_Par hown hK hP hD hS 0 rfl rfl 6 (by decide) (hT _ vt_123) (fun _ h9 => h9) rfl hin rfl (by decide +kernel) rfl rfl (Nat.le_of_ble_eq_true rfl) d_Par_init_58 (fun H locs hP hD hS => ?_)
  have hP : va_P (dC, dI) classes [(h0, .inr (5, [.ref p1, .ref p2, .ref p3, .ref p4, .ref p5, .ref q_1, .ref q_4, .null, .null, .int 0, .int 0, .int 0, .int 0, .int 0, .int 0, .int 0, .int 0, .int 0, .int 0, .int 0])), (q_1, .inr (0, [.int 16777216, .ref qa_2, .int 0])), (qa_2, .inl (cI, 48, .inl (fun _ => 0))), (q_4, .inr (0, [.int 16777216, .ref qa_5, .int 0])), (qa_5, .inl (cI, 32, .inl (fun _ => 0)))] H := hP
  have hD : va_D A [(h0, .inr (5, [.ref p1, .ref p2, .ref p3, .ref p4, .ref p5, .ref q_1, .ref q_4, .null, .null, .int 0, .int 0, .int 0, .int 0, .int 0, .int 0, .int 0, .int 0, .int 0, .int 0, .int 0])), (q_1, .inr (0, [.int 16777216, .ref qa_2, .int 0])), (qa_2, .inl (cI, 48, .inl (fun _ => 0))), (q_4, .inr (0, [.int 16777216, .ref qa_5, .int 0])), (qa_5, .inl (cI, 32, .inl (fun _ => 0)))] := hD
  refine lv_aload_n hx hb d_Par_init_61 rfl (lv_at hl 0 rfl) ?_
  refine va_new (ci := 0) (fs := [.int 0, .null, .int 0]) (C := R_Row) (T := T_Row) (N := 3) hx hb hT in_Row ty_Row tyo_Row hown (hT _ vt_119) (hT _ vt_5) (hT _ vt_4) hK hP hD hS hA rfl df_Row (Nat.le_of_ble_eq_true rfl) (Nat.le_of_ble_eq_true rfl) d_Par_init_62 (fun q_7 H hP hD hS => ?_)
  have hP : va_P (dC, dI) classes [(h0, .inr (5, [.ref p1, .ref p2, .ref p3, .ref p4, .ref p5, .ref q_1, .ref q_4, .null, .null, .int 0, .int 0, .int 0, .int 0, .int 0, .int 0, .int 0, .int 0, .int 0, .int 0, .int 0])), (q_1, .inr (0, [.int 16777216, .ref qa_2, .int 0])), (qa_2, .inl (cI, 48, .inl (fun _ => 0))), (q_4, .inr (0, [.int 16777216, .ref qa_5, .int 0])), (qa_5, .inl (cI, 32, .inl (fun _ => 0))), (q_7, .inr (0, [.int 0, .null, .int 0]))] H := hP
  have hD : va_D A [(h0, .inr (5, [.ref p1, .ref p2, .ref p3, .ref p4, .ref p5, .ref q_1, .ref q_4, .null, .null, .int 0, .int 0, .int 0, .int 0, .int 0, .int 0, .int 0, .int 0, .int 0, .int 0, .int 0])), (q_1, .inr (0, [.int 16777216, .ref qa_2, .int 0])), (qa_2, .inl (cI, 48, .inl (fun _ => 0))), (q_4, .inr (0, [.int 16777216, .ref qa_5, .int 0])), (qa_5, .inl (cI, 32, .inl (fun _ => 0))), (q_7, .inr (0, [.int 0, .null, .int 0]))] := hD
  refine W.widen (k := 5) (n := 89) (Nat.le_of_ble_eq_true rfl) (Nat.le_of_ble_eq_true rfl) ?_
  refine lv_dup hx hb d_Par_init_65 rfl ?_
  refine lv_bipush (v := 32) hx hb d_Par_init_66 (by decide) ?_
  refine lv_ldc (v := 16777216) hx hb hown (hT _ vt_120) d_Par_init_68 ?_
  have hPc := hP.sub (ws' := [(q_7, .inr (0, [.int 0, .null, .int 0]))]) [5] rfl
  have hDc := hD.sub (ws' := [(q_7, .inr (0, [.int 0, .null, .int 0]))]) [5] (by decide) rfl
  have hKc := hK.sub (tys' := [(cI, .int)]) [0] rfl
  have hFc := va_free (wc := [(q_7, .inr (0, [.int 0, .null, .int 0]))]) hD hS hA [5] rfl
  refine va_callv (va_runI (As := [.int 32, .int 16777216]) (rest := [.ref q_7, .ref h0]) ⟨hx, hb, hml, hown, hT⟩ (c_Row_init l dC dI H.size q_7 32 cI 32 16777216 (by decide) (by decide) (by decide) (by decide)) (cwI 2 hT (gI vt_9) rfl rfl rfl (hT _ vt_4) (hT _ vt_121) (hT _ vt_8) rfl (by decide +kernel) ⟨Nat.le_of_ble_eq_true rfl, Nat.le_of_ble_eq_true rfl⟩) ⟨Pw_blind, Pw_of hPc hKc hDc⟩ rfl rfl hl.1 rfl (lv_room (Nat.le_of_ble_eq_true rfl)) d_Par_init_70 ⟨Nat.le_of_ble_eq_true rfl, Nat.le_of_ble_eq_true rfl⟩) hS (fun q _ h => hFc q h) hFc (fun u t H1 locs ht hvm hw hB hz1 hk1 hS => ?_)
  obtain ⟨qa_8, hP1, hK1, hD1⟩ := hB
  rw [ht] at hP1
  have hK1 := va_K.moved hvm.symm hK1
  obtain ⟨hP, hD⟩ := va_join (wr := [(h0, .inr (5, [.ref p1, .ref p2, .ref p3, .ref p4, .ref p5, .ref q_1, .ref q_4, .null, .null, .int 0, .int 0, .int 0, .int 0, .int 0, .int 0, .int 0, .int 0, .int 0, .int 0, .int 0])), (q_1, .inr (0, [.int 16777216, .ref qa_2, .int 0])), (qa_2, .inl (cI, 48, .inl (fun _ => 0))), (q_4, .inr (0, [.int 16777216, .ref qa_5, .int 0])), (qa_5, .inl (cI, 32, .inl (fun _ => 0)))]) (w1 := [(q_7, .inr (0, [.int 16777216, .ref qa_8, .int 0])), (qa_8, .inl (cI, 32, .inl (fun _ => 0)))]) hP hD [5] [0, 1, 2, 3, 4] rfl rfl (by decide) (by decide) hk1 hFc hP1 hD1
  generalize H1 = H at hP hS ⊢
  have hP : va_P (dC, dI) classes [(h0, .inr (5, [.ref p1, .ref p2, .ref p3, .ref p4, .ref p5, .ref q_1, .ref q_4, .null, .null, .int 0, .int 0, .int 0, .int 0, .int 0, .int 0, .int 0, .int 0, .int 0, .int 0, .int 0])), (q_1, .inr (0, [.int 16777216, .ref qa_2, .int 0])), (qa_2, .inl (cI, 48, .inl (fun _ => 0))), (q_4, .inr (0, [.int 16777216, .ref qa_5, .int 0])), (qa_5, .inl (cI, 32, .inl (fun _ => 0))), (q_7, .inr (0, [.int 16777216, .ref qa_8, .int 0])), (qa_8, .inl (cI, 32, .inl (fun _ => 0)))] H := hP
  have hD : va_D A [(h0, .inr (5, [.ref p1, .ref p2, .ref p3, .ref p4, .ref p5, .ref q_1, .ref q_4, .null, .null, .int 0, .int 0, .int 0, .int 0, .int 0, .int 0, .int 0, .int 0, .int 0, .int 0, .int 0])), (q_1, .inr (0, [.int 16777216, .ref qa_2, .int 0])), (qa_2, .inl (cI, 48, .inl (fun _ => 0))), (q_4, .inr (0, [.int 16777216, .ref qa_5, .int 0])), (qa_5, .inl (cI, 32, .inl (fun _ => 0))), (q_7, .inr (0, [.int 16777216, .ref qa_8, .int 0])), (qa_8, .inl (cI, 32, .inl (fun _ => 0)))] := hD
  refine W.widen (k := 6) (n := 121) (Nat.le_of_ble_eq_true rfl) (Nat.le_of_ble_eq_true rfl) ?_
  refine va_putF (D := (dC, dI)) (ci := 5) (v := .ref q_7) (ty := (.object "FamilyKernel$Row")) (C := R_Par) (T := T_Par) (N := 20) hx hb hT in_Par ty_Par tyo_Par nm_Par hown hK hP hD hS 0 rfl rfl 7 (by decide) (hT _ vt_124) (fun _ h9 => h9) rfl hin rfl (by decide +kernel) rfl rfl (Nat.le_of_ble_eq_true rfl) d_Par_init_73 (fun H locs hP hD hS => ?_)
  have hP : va_P (dC, dI) classes [(h0, .inr (5, [.ref p1, .ref p2, .ref p3, .ref p4, .ref p5, .ref q_1, .ref q_4, .ref q_7, .null, .int 0, .int 0, .int 0, .int 0, .int 0, .int 0, .int 0, .int 0, .int 0, .int 0, .int 0])), (q_1, .inr (0, [.int 16777216, .ref qa_2, .int 0])), (qa_2, .inl (cI, 48, .inl (fun _ => 0))), (q_4, .inr (0, [.int 16777216, .ref qa_5, .int 0])), (qa_5, .inl (cI, 32, .inl (fun _ => 0))), (q_7, .inr (0, [.int 16777216, .ref qa_8, .int 0])), (qa_8, .inl (cI, 32, .inl (fun _ => 0)))] H := hP
  have hD : va_D A [(h0, .inr (5, [.ref p1, .ref p2, .ref p3, .ref p4, .ref p5, .ref q_1, .ref q_4, .ref q_7, .null, .int 0, .int 0, .int 0, .int 0, .int 0, .int 0, .int 0, .int 0, .int 0, .int 0, .int 0])), (q_1, .inr (0, [.int 16777216, .ref qa_2, .int 0])), (qa_2, .inl (cI, 48, .inl (fun _ => 0))), (q_4, .inr (0, [.int 16777216, .ref qa_5, .int 0])), (qa_5, .inl (cI, 32, .inl (fun _ => 0))), (q_7, .inr (0, [.int 16777216, .ref qa_8, .int 0])), (qa_8, .inl (cI, 32, .inl (fun _ => 0)))] := hD
  refine lv_aload_n hx hb d_Par_init_76 rfl (lv_at hl 0 rfl) ?_
  refine va_new (ci := 0) (fs := [.int 0, .null, .int 0]) (C := R_Row) (T := T_Row) (N := 3) hx hb hT in_Row ty_Row tyo_Row hown (hT _ vt_119) (hT _ vt_5) (hT _ vt_4) hK hP hD hS hA rfl df_Row (Nat.le_of_ble_eq_true rfl) (Nat.le_of_ble_eq_true rfl) d_Par_init_77 (fun q_10 H hP hD hS => ?_)
  have hP : va_P (dC, dI) classes [(h0, .inr (5, [.ref p1, .ref p2, .ref p3, .ref p4, .ref p5, .ref q_1, .ref q_4, .ref q_7, .null, .int 0, .int 0, .int 0, .int 0, .int 0, .int 0, .int 0, .int 0, .int 0, .int 0, .int 0])), (q_1, .inr (0, [.int 16777216, .ref qa_2, .int 0])), (qa_2, .inl (cI, 48, .inl (fun _ => 0))), (q_4, .inr (0, [.int 16777216, .ref qa_5, .int 0])), (qa_5, .inl (cI, 32, .inl (fun _ => 0))), (q_7, .inr (0, [.int 16777216, .ref qa_8, .int 0])), (qa_8, .inl (cI, 32, .inl (fun _ => 0))), (q_10, .inr (0, [.int 0, .null, .int 0]))] H := hP
  have hD : va_D A [(h0, .inr (5, [.ref p1, .ref p2, .ref p3, .ref p4, .ref p5, .ref q_1, .ref q_4, .ref q_7, .null, .int 0, .int 0, .int 0, .int 0, .int 0, .int 0, .int 0, .int 0, .int 0, .int 0, .int 0])), (q_1, .inr (0, [.int 16777216, .ref qa_2, .int 0])), (qa_2, .inl (cI, 48, .inl (fun _ => 0))), (q_4, .inr (0, [.int 16777216, .ref qa_5, .int 0])), (qa_5, .inl (cI, 32, .inl (fun _ => 0))), (q_7, .inr (0, [.int 16777216, .ref qa_8, .int 0])), (qa_8, .inl (cI, 32, .inl (fun _ => 0))), (q_10, .inr (0, [.int 0, .null, .int 0]))] := hD
  refine W.widen (k := 7) (n := 124) (Nat.le_of_ble_eq_true rfl) (Nat.le_of_ble_eq_true rfl) ?_
  refine lv_dup hx hb d_Par_init_80 rfl ?_
  refine lv_bipush (v := 32) hx hb d_Par_init_81 (by decide) ?_
  refine lv_ldc (v := 16777216) hx hb hown (hT _ vt_120) d_Par_init_83 ?_
  have hPc := hP.sub (ws' := [(q_10, .inr (0, [.int 0, .null, .int 0]))]) [7] rfl
  have hDc := hD.sub (ws' := [(q_10, .inr (0, [.int 0, .null, .int 0]))]) [7] (by decide) rfl
  have hKc := hK.sub (tys' := [(cI, .int)]) [0] rfl
  have hFc := va_free (wc := [(q_10, .inr (0, [.int 0, .null, .int 0]))]) hD hS hA [7] rfl
  refine va_callv (va_runI (As := [.int 32, .int 16777216]) (rest := [.ref q_10, .ref h0]) ⟨hx, hb, hml, hown, hT⟩ (c_Row_init l dC dI H.size q_10 32 cI 32 16777216 (by decide) (by decide) (by decide) (by decide)) (cwI 2 hT (gI vt_9) rfl rfl rfl (hT _ vt_4) (hT _ vt_121) (hT _ vt_8) rfl (by decide +kernel) ⟨Nat.le_of_ble_eq_true rfl, Nat.le_of_ble_eq_true rfl⟩) ⟨Pw_blind, Pw_of hPc hKc hDc⟩ rfl rfl hl.1 rfl (lv_room (Nat.le_of_ble_eq_true rfl)) d_Par_init_85 ⟨Nat.le_of_ble_eq_true rfl, Nat.le_of_ble_eq_true rfl⟩) hS (fun q _ h => hFc q h) hFc (fun u t H1 locs ht hvm hw hB hz1 hk1 hS => ?_)
  obtain ⟨qa_11, hP1, hK1, hD1⟩ := hB
  rw [ht] at hP1
  have hK1 := va_K.moved hvm.symm hK1
  obtain ⟨hP, hD⟩ := va_join (wr := [(h0, .inr (5, [.ref p1, .ref p2, .ref p3, .ref p4, .ref p5, .ref q_1, .ref q_4, .ref q_7, .null, .int 0, .int 0, .int 0, .int 0, .int 0, .int 0, .int 0, .int 0, .int 0, .int 0, .int 0])), (q_1, .inr (0, [.int 16777216, .ref qa_2, .int 0])), (qa_2, .inl (cI, 48, .inl (fun _ => 0))), (q_4, .inr (0, [.int 16777216, .ref qa_5, .int 0])), (qa_5, .inl (cI, 32, .inl (fun _ => 0))), (q_7, .inr (0, [.int 16777216, .ref qa_8, .int 0])), (qa_8, .inl (cI, 32, .inl (fun _ => 0)))]) (w1 := [(q_10, .inr (0, [.int 16777216, .ref qa_11, .int 0])), (qa_11, .inl (cI, 32, .inl (fun _ => 0)))]) hP hD [7] [0, 1, 2, 3, 4, 5, 6] rfl rfl (by decide) (by decide) hk1 hFc hP1 hD1
  generalize H1 = H at hP hS ⊢
  have hP : va_P (dC, dI) classes [(h0, .inr (5, [.ref p1, .ref p2, .ref p3, .ref p4, .ref p5, .ref q_1, .ref q_4, .ref q_7, .null, .int 0, .int 0, .int 0, .int 0, .int 0, .int 0, .int 0, .int 0, .int 0, .int 0, .int 0])), (q_1, .inr (0, [.int 16777216, .ref qa_2, .int 0])), (qa_2, .inl (cI, 48, .inl (fun _ => 0))), (q_4, .inr (0, [.int 16777216, .ref qa_5, .int 0])), (qa_5, .inl (cI, 32, .inl (fun _ => 0))), (q_7, .inr (0, [.int 16777216, .ref qa_8, .int 0])), (qa_8, .inl (cI, 32, .inl (fun _ => 0))), (q_10, .inr (0, [.int 16777216, .ref qa_11, .int 0])), (qa_11, .inl (cI, 32, .inl (fun _ => 0)))] H := hP
  have hD : va_D A [(h0, .inr (5, [.ref p1, .ref p2, .ref p3, .ref p4, .ref p5, .ref q_1, .ref q_4, .ref q_7, .null, .int 0, .int 0, .int 0, .int 0, .int 0, .int 0, .int 0, .int 0, .int 0, .int 0, .int 0])), (q_1, .inr (0, [.int 16777216, .ref qa_2, .int 0])), (qa_2, .inl (cI, 48, .inl (fun _ => 0))), (q_4, .inr (0, [.int 16777216, .ref qa_5, .int 0])), (qa_5, .inl (cI, 32, .inl (fun _ => 0))), (q_7, .inr (0, [.int 16777216, .ref qa_8, .int 0])), (qa_8, .inl (cI, 32, .inl (fun _ => 0))), (q_10, .inr (0, [.int 16777216, .ref qa_11, .int 0])), (qa_11, .inl (cI, 32, .inl (fun _ => 0)))] := hD
  refine W.widen (k := 8) (n := 156) (Nat.le_of_ble_eq_true rfl) (Nat.le_of_ble_eq_true rfl) ?_
  refine va_putF (D := (dC, dI)) (ci := 5) (v := .ref q_10) (ty := (.object "FamilyKernel$Row")) (C := R_Par) (T := T_Par) (N := 20) hx hb hT in_Par ty_Par tyo_Par nm_Par hown hK hP hD hS 0 rfl rfl 8 (by decide) (hT _ vt_125) (fun _ h9 => h9) rfl hin rfl (by decide +kernel) rfl rfl (Nat.le_of_ble_eq_true rfl) d_Par_init_88 (fun H locs hP hD hS => ?_)
  have hP : va_P (dC, dI) classes [(h0, .inr (5, [.ref p1, .ref p2, .ref p3, .ref p4, .ref p5, .ref q_1, .ref q_4, .ref q_7, .ref q_10, .int 0, .int 0, .int 0, .int 0, .int 0, .int 0, .int 0, .int 0, .int 0, .int 0, .int 0])), (q_1, .inr (0, [.int 16777216, .ref qa_2, .int 0])), (qa_2, .inl (cI, 48, .inl (fun _ => 0))), (q_4, .inr (0, [.int 16777216, .ref qa_5, .int 0])), (qa_5, .inl (cI, 32, .inl (fun _ => 0))), (q_7, .inr (0, [.int 16777216, .ref qa_8, .int 0])), (qa_8, .inl (cI, 32, .inl (fun _ => 0))), (q_10, .inr (0, [.int 16777216, .ref qa_11, .int 0])), (qa_11, .inl (cI, 32, .inl (fun _ => 0)))] H := hP
  have hD : va_D A [(h0, .inr (5, [.ref p1, .ref p2, .ref p3, .ref p4, .ref p5, .ref q_1, .ref q_4, .ref q_7, .ref q_10, .int 0, .int 0, .int 0, .int 0, .int 0, .int 0, .int 0, .int 0, .int 0, .int 0, .int 0])), (q_1, .inr (0, [.int 16777216, .ref qa_2, .int 0])), (qa_2, .inl (cI, 48, .inl (fun _ => 0))), (q_4, .inr (0, [.int 16777216, .ref qa_5, .int 0])), (qa_5, .inl (cI, 32, .inl (fun _ => 0))), (q_7, .inr (0, [.int 16777216, .ref qa_8, .int 0])), (qa_8, .inl (cI, 32, .inl (fun _ => 0))), (q_10, .inr (0, [.int 16777216, .ref qa_11, .int 0])), (qa_11, .inl (cI, 32, .inl (fun _ => 0)))] := hD
  refine W.widen (k := 8) (n := 156) (Nat.le_of_ble_eq_true rfl) (Nat.le_of_ble_eq_true rfl) ?_
  have hP9 := hP.sub (ws' := [(h0, .inr (5, [.ref p1, .ref p2, .ref p3, .ref p4, .ref p5, .ref q_1, .ref q_4, .ref q_7, .ref q_10, .int 0, .int 0, .int 0, .int 0, .int 0, .int 0, .int 0, .int 0, .int 0, .int 0, .int 0])), (q_1, .inr (0, [.int 16777216, .ref qa_2, .int 0])), (qa_2, .inl (cI, 48, .inl (fun _ => 0))), (q_4, .inr (0, [.int 16777216, .ref qa_5, .int 0])), (qa_5, .inl (cI, 32, .inl (fun _ => 0))), (q_7, .inr (0, [.int 16777216, .ref qa_8, .int 0])), (qa_8, .inl (cI, 32, .inl (fun _ => 0))), (q_10, .inr (0, [.int 16777216, .ref qa_11, .int 0])), (qa_11, .inl (cI, 32, .inl (fun _ => 0)))]) [0, 1, 2, 3, 4, 5, 6, 7, 8] rfl
  have hD9 := hD.sub (ws' := [(h0, .inr (5, [.ref p1, .ref p2, .ref p3, .ref p4, .ref p5, .ref q_1, .ref q_4, .ref q_7, .ref q_10, .int 0, .int 0, .int 0, .int 0, .int 0, .int 0, .int 0, .int 0, .int 0, .int 0, .int 0])), (q_1, .inr (0, [.int 16777216, .ref qa_2, .int 0])), (qa_2, .inl (cI, 48, .inl (fun _ => 0))), (q_4, .inr (0, [.int 16777216, .ref qa_5, .int 0])), (qa_5, .inl (cI, 32, .inl (fun _ => 0))), (q_7, .inr (0, [.int 16777216, .ref qa_8, .int 0])), (qa_8, .inl (cI, 32, .inl (fun _ => 0))), (q_10, .inr (0, [.int 16777216, .ref qa_11, .int 0])), (qa_11, .inl (cI, 32, .inl (fun _ => 0)))]) [0, 1, 2, 3, 4, 5, 6, 7, 8] (by decide) rfl
  have hK9 := hK.sub (tys' := [(cI, .int)]) [0] rfl
  exact W.vret hx hb hr (fun t ht hW => ⟨⟨(), rfl, trivial, q_1, qa_2, q_4, qa_5, q_7, qa_8, q_10, qa_11, by rw [ht]; exact hP9, va_K.moved hW.alike hK9, hD9⟩, hS.F ht⟩) hS.2.2 d_Par_init_91
set_option maxHeartbeats 4000000 in
set_option maxRecDepth 100000 in
/-- Fra(..) -/
theorem c_Fra_init (l : Launch) (dC : Nat → ClassId) (dI : Nat → Nat → Nat) (sz : Nat) (h0 : Nat) (cI : ClassId) : Met l y_Fra_init w_Fra_init ({ frames := 20, cells := 4, slots := 198, locals := 600 }) (Pw dC dI [.ref h0] sz [(h0, .inr (6, [.null, .null, .int 0]))] [(cI, .int)]) (va_Qv (fun _ : Unit => True) (fun _ t => ∃ (r_cells a_cells r_types a_types : Nat), va_P (dC, dI) classes [(h0, .inr (6, [.ref r_cells, .ref r_types, .int 0])), (r_cells, .inr (0, [.int 16777216, .ref a_cells, .int 0])), (a_cells, .inl (cI, 160, .inl (fun _ => 0))), (r_types, .inr (0, [.int 16777216, .ref a_types, .int 0])), (a_types, .inl (cI, 32, .inl (fun _ => 0)))] t.heap ∧ va_K (dC, dI) classes [(cI, .int)] t ∧ va_D (va_A [(h0, .inr (6, [.null, .null, .int 0]))] sz) [(h0, .inr (6, [.ref r_cells, .ref r_types, .int 0])), (r_cells, .inr (0, [.int 16777216, .ref a_cells, .int 0])), (a_cells, .inl (cI, 160, .inl (fun _ => 0))), (r_types, .inr (0, [.int 16777216, .ref a_types, .int 0])), (a_types, .inl (cI, 32, .inl (fun _ => 0)))]) (va_A [(h0, .inr (6, [.null, .null, .int 0]))] sz)) 4 198 (va_A [(h0, .inr (6, [.null, .null, .int 0]))] sz) := by
  refine Met.ofW (cc := b_Fra_init) (maxL := 1) (ret := none) (by decide) rfl ?_
  intro p e s m args below meth c s₁ B hml hv
  obtain ⟨rfl, hsz, hP, hK, hD0⟩ := hv
  have hx := B.exec
  have hb := B.bytes
  have hr := B.returns
  have hT : ∀ w ∈ vT, w.before _ s = true := fun w h => atoms_spec (ws := w_Fra_init) B.pre w (List.mem_cons_of_mem _ h)
  have hown : s.vm.findClass R_Fra = some m.cls := findClass_of_methodNamed B.named
  have hlocks := B.notSynchronized
  have hin : meth.name = "<init>" := (name_of_methodNamed B.named B.method).1
  subst hsz
  have hD := hD0.self (sz := s.heap.size)
  generalize hAe : va_A [(h0, .inr (6, [.null, .null, .int 0]))] s.heap.size = A at hD ⊢
  have hA : ∀ q : Nat, s.heap.size ≤ q → A q := fun q h => by rw [← hAe]; exact Or.inr h
  have hS : va_S A s.heap s.heap [] := va_S.rf
  have hP : va_P (dC, dI) classes [(h0, .inr (6, [.null, .null, .int 0]))] s.heap := hP
  have hl := lv_entry ([.ref h0]) (n := 1) (Nat.le_of_ble_eq_true rfl)
  rw [lg_entry_eq]
  generalize (lg_sl ([.ref h0]) ++ List.replicate (1 - (lg_sl ([.ref h0])).length) Slot.unset).toArray = ls at hl ⊢
  have hl : lv_has ls 1 [(0, .ref h0)] := hl
  refine lv_aload_n hx hb d_Fra_init_0 rfl (lv_at hl 0 rfl) ?_
  refine W.objInit hx hb hown (hT _ vt_126) (hT _ vt_1) (hT _ vt_2) rfl (by rw [hml]; exact hl.1) rfl d_Fra_init_1 (Nat.le_of_ble_eq_true rfl) (Nat.le_of_ble_eq_true rfl) ?_
  refine W.eq (g2 := F0 m 4 ls []) rfl ?_
  refine lv_aload_n hx hb d_Fra_init_4 rfl (lv_at hl 0 rfl) ?_
  refine va_new (ci := 0) (fs := [.int 0, .null, .int 0]) (C := R_Row) (T := T_Row) (N := 3) hx hb hT in_Row ty_Row tyo_Row hown (hT _ vt_127) (hT _ vt_5) (hT _ vt_4) hK hP hD hS hA rfl df_Row (Nat.le_of_ble_eq_true rfl) (Nat.le_of_ble_eq_true rfl) d_Fra_init_5 (fun q_1 H hP hD hS => ?_)
  have hP : va_P (dC, dI) classes [(h0, .inr (6, [.null, .null, .int 0])), (q_1, .inr (0, [.int 0, .null, .int 0]))] H := hP
  have hD : va_D A [(h0, .inr (6, [.null, .null, .int 0])), (q_1, .inr (0, [.int 0, .null, .int 0]))] := hD
  refine W.widen (k := 1) (n := 3) (Nat.le_of_ble_eq_true rfl) (Nat.le_of_ble_eq_true rfl) ?_
  refine lv_dup hx hb d_Fra_init_8 rfl ?_
  refine lv_sipush (v := 160) hx hb d_Fra_init_9 (by decide) ?_
  refine lv_ldc (v := 16777216) hx hb hown (hT _ vt_128) d_Fra_init_12 ?_
  have hPc := hP.sub (ws' := [(q_1, .inr (0, [.int 0, .null, .int 0]))]) [1] rfl
  have hDc := hD.sub (ws' := [(q_1, .inr (0, [.int 0, .null, .int 0]))]) [1] (by decide) rfl
  have hKc := hK.sub (tys' := [(cI, .int)]) [0] rfl
  have hFc := va_free (wc := [(q_1, .inr (0, [.int 0, .null, .int 0]))]) hD hS hA [1] rfl
  refine va_callv (va_runI (As := [.int 160, .int 16777216]) (rest := [.ref q_1, .ref h0]) ⟨hx, hb, hml, hown, hT⟩ (c_Row_init l dC dI H.size q_1 160 cI 160 16777216 (by decide) (by decide) (by decide) (by decide)) (cwI 2 hT (gI vt_9) rfl rfl rfl (hT _ vt_4) (hT _ vt_129) (hT _ vt_8) rfl (by decide +kernel) ⟨Nat.le_of_ble_eq_true rfl, Nat.le_of_ble_eq_true rfl⟩) ⟨Pw_blind, Pw_of hPc hKc hDc⟩ rfl rfl hl.1 rfl (lv_room (Nat.le_of_ble_eq_true rfl)) d_Fra_init_14 ⟨Nat.le_of_ble_eq_true rfl, Nat.le_of_ble_eq_true rfl⟩) hS (fun q _ h => hFc q h) hFc (fun u t H1 locs ht hvm hw hB hz1 hk1 hS => ?_)
  obtain ⟨qa_2, hP1, hK1, hD1⟩ := hB
  rw [ht] at hP1
  have hK1 := va_K.moved hvm.symm hK1
  obtain ⟨hP, hD⟩ := va_join (wr := [(h0, .inr (6, [.null, .null, .int 0]))]) (w1 := [(q_1, .inr (0, [.int 16777216, .ref qa_2, .int 0])), (qa_2, .inl (cI, 160, .inl (fun _ => 0)))]) hP hD [1] [0] rfl rfl (by decide) (by decide) hk1 hFc hP1 hD1
  generalize H1 = H at hP hS ⊢
  have hP : va_P (dC, dI) classes [(h0, .inr (6, [.null, .null, .int 0])), (q_1, .inr (0, [.int 16777216, .ref qa_2, .int 0])), (qa_2, .inl (cI, 160, .inl (fun _ => 0)))] H := hP
  have hD : va_D A [(h0, .inr (6, [.null, .null, .int 0])), (q_1, .inr (0, [.int 16777216, .ref qa_2, .int 0])), (qa_2, .inl (cI, 160, .inl (fun _ => 0)))] := hD
  refine W.widen (k := 2) (n := 163) (Nat.le_of_ble_eq_true rfl) (Nat.le_of_ble_eq_true rfl) ?_
  refine va_putF (D := (dC, dI)) (ci := 6) (v := .ref q_1) (ty := (.object "FamilyKernel$Row")) (C := R_Fra) (T := T_Fra) (N := 3) hx hb hT in_Fra ty_Fra tyo_Fra nm_Fra hown hK hP hD hS 0 rfl rfl 0 (by decide) (hT _ vt_130) (fun _ h9 => h9) rfl hin rfl (by decide +kernel) rfl rfl (Nat.le_of_ble_eq_true rfl) d_Fra_init_17 (fun H locs hP hD hS => ?_)
  have hP : va_P (dC, dI) classes [(h0, .inr (6, [.ref q_1, .null, .int 0])), (q_1, .inr (0, [.int 16777216, .ref qa_2, .int 0])), (qa_2, .inl (cI, 160, .inl (fun _ => 0)))] H := hP
  have hD : va_D A [(h0, .inr (6, [.ref q_1, .null, .int 0])), (q_1, .inr (0, [.int 16777216, .ref qa_2, .int 0])), (qa_2, .inl (cI, 160, .inl (fun _ => 0)))] := hD
  refine lv_aload_n hx hb d_Fra_init_20 rfl (lv_at hl 0 rfl) ?_
  refine va_new (ci := 0) (fs := [.int 0, .null, .int 0]) (C := R_Row) (T := T_Row) (N := 3) hx hb hT in_Row ty_Row tyo_Row hown (hT _ vt_127) (hT _ vt_5) (hT _ vt_4) hK hP hD hS hA rfl df_Row (Nat.le_of_ble_eq_true rfl) (Nat.le_of_ble_eq_true rfl) d_Fra_init_21 (fun q_4 H hP hD hS => ?_)
  have hP : va_P (dC, dI) classes [(h0, .inr (6, [.ref q_1, .null, .int 0])), (q_1, .inr (0, [.int 16777216, .ref qa_2, .int 0])), (qa_2, .inl (cI, 160, .inl (fun _ => 0))), (q_4, .inr (0, [.int 0, .null, .int 0]))] H := hP
  have hD : va_D A [(h0, .inr (6, [.ref q_1, .null, .int 0])), (q_1, .inr (0, [.int 16777216, .ref qa_2, .int 0])), (qa_2, .inl (cI, 160, .inl (fun _ => 0))), (q_4, .inr (0, [.int 0, .null, .int 0]))] := hD
  refine W.widen (k := 3) (n := 166) (Nat.le_of_ble_eq_true rfl) (Nat.le_of_ble_eq_true rfl) ?_
  refine lv_dup hx hb d_Fra_init_24 rfl ?_
  refine lv_bipush (v := 32) hx hb d_Fra_init_25 (by decide) ?_
  refine lv_ldc (v := 16777216) hx hb hown (hT _ vt_128) d_Fra_init_27 ?_
  have hPc := hP.sub (ws' := [(q_4, .inr (0, [.int 0, .null, .int 0]))]) [3] rfl
  have hDc := hD.sub (ws' := [(q_4, .inr (0, [.int 0, .null, .int 0]))]) [3] (by decide) rfl
  have hKc := hK.sub (tys' := [(cI, .int)]) [0] rfl
  have hFc := va_free (wc := [(q_4, .inr (0, [.int 0, .null, .int 0]))]) hD hS hA [3] rfl
  refine va_callv (va_runI (As := [.int 32, .int 16777216]) (rest := [.ref q_4, .ref h0]) ⟨hx, hb, hml, hown, hT⟩ (c_Row_init l dC dI H.size q_4 32 cI 32 16777216 (by decide) (by decide) (by decide) (by decide)) (cwI 2 hT (gI vt_9) rfl rfl rfl (hT _ vt_4) (hT _ vt_129) (hT _ vt_8) rfl (by decide +kernel) ⟨Nat.le_of_ble_eq_true rfl, Nat.le_of_ble_eq_true rfl⟩) ⟨Pw_blind, Pw_of hPc hKc hDc⟩ rfl rfl hl.1 rfl (lv_room (Nat.le_of_ble_eq_true rfl)) d_Fra_init_29 ⟨Nat.le_of_ble_eq_true rfl, Nat.le_of_ble_eq_true rfl⟩) hS (fun q _ h => hFc q h) hFc (fun u t H1 locs ht hvm hw hB hz1 hk1 hS => ?_)
  obtain ⟨qa_5, hP1, hK1, hD1⟩ := hB
  rw [ht] at hP1
  have hK1 := va_K.moved hvm.symm hK1
  obtain ⟨hP, hD⟩ := va_join (wr := [(h0, .inr (6, [.ref q_1, .null, .int 0])), (q_1, .inr (0, [.int 16777216, .ref qa_2, .int 0])), (qa_2, .inl (cI, 160, .inl (fun _ => 0)))]) (w1 := [(q_4, .inr (0, [.int 16777216, .ref qa_5, .int 0])), (qa_5, .inl (cI, 32, .inl (fun _ => 0)))]) hP hD [3] [0, 1, 2] rfl rfl (by decide) (by decide) hk1 hFc hP1 hD1
  generalize H1 = H at hP hS ⊢
  have hP : va_P (dC, dI) classes [(h0, .inr (6, [.ref q_1, .null, .int 0])), (q_1, .inr (0, [.int 16777216, .ref qa_2, .int 0])), (qa_2, .inl (cI, 160, .inl (fun _ => 0))), (q_4, .inr (0, [.int 16777216, .ref qa_5, .int 0])), (qa_5, .inl (cI, 32, .inl (fun _ => 0)))] H := hP
  have hD : va_D A [(h0, .inr (6, [.ref q_1, .null, .int 0])), (q_1, .inr (0, [.int 16777216, .ref qa_2, .int 0])), (qa_2, .inl (cI, 160, .inl (fun _ => 0))), (q_4, .inr (0, [.int 16777216, .ref qa_5, .int 0])), (qa_5, .inl (cI, 32, .inl (fun _ => 0)))] := hD
  refine W.widen (k := 4) (n := 198) (Nat.le_of_ble_eq_true rfl) (Nat.le_of_ble_eq_true rfl) ?_
  refine va_putF (D := (dC, dI)) (ci := 6) (v := .ref q_4) (ty := (.object "FamilyKernel$Row")) (C := R_Fra) (T := T_Fra) (N := 3) hx hb hT in_Fra ty_Fra tyo_Fra nm_Fra hown hK hP hD hS 0 rfl rfl 1 (by decide) (hT _ vt_131) (fun _ h9 => h9) rfl hin rfl (by decide +kernel) rfl rfl (Nat.le_of_ble_eq_true rfl) d_Fra_init_32 (fun H locs hP hD hS => ?_)
  have hP : va_P (dC, dI) classes [(h0, .inr (6, [.ref q_1, .ref q_4, .int 0])), (q_1, .inr (0, [.int 16777216, .ref qa_2, .int 0])), (qa_2, .inl (cI, 160, .inl (fun _ => 0))), (q_4, .inr (0, [.int 16777216, .ref qa_5, .int 0])), (qa_5, .inl (cI, 32, .inl (fun _ => 0)))] H := hP
  have hD : va_D A [(h0, .inr (6, [.ref q_1, .ref q_4, .int 0])), (q_1, .inr (0, [.int 16777216, .ref qa_2, .int 0])), (qa_2, .inl (cI, 160, .inl (fun _ => 0))), (q_4, .inr (0, [.int 16777216, .ref qa_5, .int 0])), (qa_5, .inl (cI, 32, .inl (fun _ => 0)))] := hD
  refine W.widen (k := 4) (n := 198) (Nat.le_of_ble_eq_true rfl) (Nat.le_of_ble_eq_true rfl) ?_
  have hP9 := hP.sub (ws' := [(h0, .inr (6, [.ref q_1, .ref q_4, .int 0])), (q_1, .inr (0, [.int 16777216, .ref qa_2, .int 0])), (qa_2, .inl (cI, 160, .inl (fun _ => 0))), (q_4, .inr (0, [.int 16777216, .ref qa_5, .int 0])), (qa_5, .inl (cI, 32, .inl (fun _ => 0)))]) [0, 1, 2, 3, 4] rfl
  have hD9 := hD.sub (ws' := [(h0, .inr (6, [.ref q_1, .ref q_4, .int 0])), (q_1, .inr (0, [.int 16777216, .ref qa_2, .int 0])), (qa_2, .inl (cI, 160, .inl (fun _ => 0))), (q_4, .inr (0, [.int 16777216, .ref qa_5, .int 0])), (qa_5, .inl (cI, 32, .inl (fun _ => 0)))]) [0, 1, 2, 3, 4] (by decide) rfl
  have hK9 := hK.sub (tys' := [(cI, .int)]) [0] rfl
  exact W.vret hx hb hr (fun t ht hW => ⟨⟨(), rfl, trivial, q_1, qa_2, q_4, qa_5, by rw [ht]; exact hP9, va_K.moved hW.alike hK9, hD9⟩, hS.F ht⟩) hS.2.2 d_Fra_init_35
set_option maxHeartbeats 4000000 in
set_option maxRecDepth 100000 in
/-- Red(..) -/
theorem c_Red_init (l : Launch) (dC : Nat → ClassId) (dI : Nat → Nat → Nat) (sz : Nat) (h0 p1 p2 p3 p4 : Nat) (cI : ClassId) : Met l y_Red_init w_Red_init ({ frames := 20, cells := 2, slots := 35, locals := 600 }) (Pw dC dI [.ref h0, .ref p1, .ref p2, .ref p3, .ref p4] sz [(h0, .inr (7, [.null, .null, .null, .null, .null]))] [(cI, .int)]) (va_Qv (fun _ : Unit => True) (fun _ t => ∃ (r_given a_given : Nat), va_P (dC, dI) classes [(h0, .inr (7, [.ref p1, .ref p2, .ref p3, .ref p4, .ref r_given])), (r_given, .inr (0, [.int 16777216, .ref a_given, .int 0])), (a_given, .inl (cI, 32, .inl (fun _ => 0)))] t.heap ∧ va_K (dC, dI) classes [(cI, .int)] t ∧ va_D (va_A [(h0, .inr (7, [.null, .null, .null, .null, .null]))] sz) [(h0, .inr (7, [.ref p1, .ref p2, .ref p3, .ref p4, .ref r_given])), (r_given, .inr (0, [.int 16777216, .ref a_given, .int 0])), (a_given, .inl (cI, 32, .inl (fun _ => 0)))]) (va_A [(h0, .inr (7, [.null, .null, .null, .null, .null]))] sz)) 2 35 (va_A [(h0, .inr (7, [.null, .null, .null, .null, .null]))] sz) := by
  refine Met.ofW (cc := b_Red_init) (maxL := 5) (ret := none) (by decide) rfl ?_
  intro p e s m args below meth c s₁ B hml hv
  obtain ⟨rfl, hsz, hP, hK, hD0⟩ := hv
  have hx := B.exec
  have hb := B.bytes
  have hr := B.returns
  have hT : ∀ w ∈ vT, w.before _ s = true := fun w h => atoms_spec (ws := w_Red_init) B.pre w (List.mem_cons_of_mem _ h)
  have hown : s.vm.findClass R_Red = some m.cls := findClass_of_methodNamed B.named
  have hlocks := B.notSynchronized
  have hin : meth.name = "<init>" := (name_of_methodNamed B.named B.method).1
  subst hsz
  have hD := hD0.self (sz := s.heap.size)
  generalize hAe : va_A [(h0, .inr (7, [.null, .null, .null, .null, .null]))] s.heap.size = A at hD ⊢
  have hA : ∀ q : Nat, s.heap.size ≤ q → A q := fun q h => by rw [← hAe]; exact Or.inr h
  have hS : va_S A s.heap s.heap [] := va_S.rf
  have hP : va_P (dC, dI) classes [(h0, .inr (7, [.null, .null, .null, .null, .null]))] s.heap := hP
  have hl := lv_entry ([.ref h0, .ref p1, .ref p2, .ref p3, .ref p4]) (n := 5) (Nat.le_of_ble_eq_true rfl)
  rw [lg_entry_eq]
  generalize (lg_sl ([.ref h0, .ref p1, .ref p2, .ref p3, .ref p4]) ++ List.replicate (5 - (lg_sl ([.ref h0, .ref p1, .ref p2, .ref p3, .ref p4])).length) Slot.unset).toArray = ls at hl ⊢
  have hl : lv_has ls 5 [(0, .ref h0), (1, .ref p1), (2, .ref p2), (3, .ref p3), (4, .ref p4)] := hl
  refine lv_aload_n hx hb d_Red_init_0 rfl (lv_at hl 0 rfl) ?_
  refine W.objInit hx hb hown (hT _ vt_132) (hT _ vt_1) (hT _ vt_2) rfl (by rw [hml]; exact hl.1) rfl d_Red_init_1 (Nat.le_of_ble_eq_true rfl) (Nat.le_of_ble_eq_true rfl) ?_
  refine W.eq (g2 := F0 m 4 ls []) rfl ?_
  refine lv_aload_n hx hb d_Red_init_4 rfl (lv_at hl 0 rfl) ?_
  refine lv_aload_n hx hb d_Red_init_5 rfl (lv_at hl 1 rfl) ?_
  refine va_putF (D := (dC, dI)) (ci := 7) (v := .ref p1) (ty := (.object "FamilyKernel$Frames")) (C := R_Red) (T := T_Red) (N := 5) hx hb hT in_Red ty_Red tyo_Red nm_Red hown hK hP hD hS 0 rfl rfl 0 (by decide) (hT _ vt_133) (fun _ h9 => h9) rfl hin rfl (by decide +kernel) rfl rfl (Nat.le_of_ble_eq_true rfl) d_Red_init_6 (fun H locs hP hD hS => ?_)
  have hP : va_P (dC, dI) classes [(h0, .inr (7, [.ref p1, .null, .null, .null, .null]))] H := hP
  have hD : va_D A [(h0, .inr (7, [.ref p1, .null, .null, .null, .null]))] := hD
  refine lv_aload_n hx hb d_Red_init_9 rfl (lv_at hl 0 rfl) ?_
  refine lv_aload_n hx hb d_Red_init_10 rfl (lv_at hl 2 rfl) ?_
  refine va_putF (D := (dC, dI)) (ci := 7) (v := .ref p2) (ty := (.object "FamilyKernel$Meter")) (C := R_Red) (T := T_Red) (N := 5) hx hb hT in_Red ty_Red tyo_Red nm_Red hown hK hP hD hS 0 rfl rfl 1 (by decide) (hT _ vt_134) (fun _ h9 => h9) rfl hin rfl (by decide +kernel) rfl rfl (Nat.le_of_ble_eq_true rfl) d_Red_init_11 (fun H locs hP hD hS => ?_)
  have hP : va_P (dC, dI) classes [(h0, .inr (7, [.ref p1, .ref p2, .null, .null, .null]))] H := hP
  have hD : va_D A [(h0, .inr (7, [.ref p1, .ref p2, .null, .null, .null]))] := hD
  refine lv_aload_n hx hb d_Red_init_14 rfl (lv_at hl 0 rfl) ?_
  refine lv_aload_n hx hb d_Red_init_15 rfl (lv_at hl 3 rfl) ?_
  refine va_putF (D := (dC, dI)) (ci := 7) (v := .ref p3) (ty := (.object "FamilyKernel$Terms")) (C := R_Red) (T := T_Red) (N := 5) hx hb hT in_Red ty_Red tyo_Red nm_Red hown hK hP hD hS 0 rfl rfl 2 (by decide) (hT _ vt_135) (fun _ h9 => h9) rfl hin rfl (by decide +kernel) rfl rfl (Nat.le_of_ble_eq_true rfl) d_Red_init_16 (fun H locs hP hD hS => ?_)
  have hP : va_P (dC, dI) classes [(h0, .inr (7, [.ref p1, .ref p2, .ref p3, .null, .null]))] H := hP
  have hD : va_D A [(h0, .inr (7, [.ref p1, .ref p2, .ref p3, .null, .null]))] := hD
  refine lv_aload_n hx hb d_Red_init_19 rfl (lv_at hl 0 rfl) ?_
  refine lv_aload hx hb d_Red_init_20 (lv_at hl 4 rfl) ?_
  refine va_putF (D := (dC, dI)) (ci := 7) (v := .ref p4) (ty := (.object "FamilyKernel$Environment")) (C := R_Red) (T := T_Red) (N := 5) hx hb hT in_Red ty_Red tyo_Red nm_Red hown hK hP hD hS 0 rfl rfl 3 (by decide) (hT _ vt_136) (fun _ h9 => h9) rfl hin rfl (by decide +kernel) rfl rfl (Nat.le_of_ble_eq_true rfl) d_Red_init_22 (fun H locs hP hD hS => ?_)
  have hP : va_P (dC, dI) classes [(h0, .inr (7, [.ref p1, .ref p2, .ref p3, .ref p4, .null]))] H := hP
  have hD : va_D A [(h0, .inr (7, [.ref p1, .ref p2, .ref p3, .ref p4, .null]))] := hD
  refine lv_aload_n hx hb d_Red_init_25 rfl (lv_at hl 0 rfl) ?_
  refine va_new (ci := 0) (fs := [.int 0, .null, .int 0]) (C := R_Row) (T := T_Row) (N := 3) hx hb hT in_Row ty_Row tyo_Row hown (hT _ vt_137) (hT _ vt_5) (hT _ vt_4) hK hP hD hS hA rfl df_Row (Nat.le_of_ble_eq_true rfl) (Nat.le_of_ble_eq_true rfl) d_Red_init_26 (fun q_1 H hP hD hS => ?_)
  have hP : va_P (dC, dI) classes [(h0, .inr (7, [.ref p1, .ref p2, .ref p3, .ref p4, .null])), (q_1, .inr (0, [.int 0, .null, .int 0]))] H := hP
  have hD : va_D A [(h0, .inr (7, [.ref p1, .ref p2, .ref p3, .ref p4, .null])), (q_1, .inr (0, [.int 0, .null, .int 0]))] := hD
  refine W.widen (k := 1) (n := 3) (Nat.le_of_ble_eq_true rfl) (Nat.le_of_ble_eq_true rfl) ?_
  refine lv_dup hx hb d_Red_init_29 rfl ?_
  refine lv_bipush (v := 32) hx hb d_Red_init_30 (by decide) ?_
  refine lv_ldc (v := 16777216) hx hb hown (hT _ vt_138) d_Red_init_32 ?_
  have hPc := hP.sub (ws' := [(q_1, .inr (0, [.int 0, .null, .int 0]))]) [1] rfl
  have hDc := hD.sub (ws' := [(q_1, .inr (0, [.int 0, .null, .int 0]))]) [1] (by decide) rfl
  have hKc := hK.sub (tys' := [(cI, .int)]) [0] rfl
  have hFc := va_free (wc := [(q_1, .inr (0, [.int 0, .null, .int 0]))]) hD hS hA [1] rfl
  refine va_callv (va_runI (As := [.int 32, .int 16777216]) (rest := [.ref q_1, .ref h0]) ⟨hx, hb, hml, hown, hT⟩ (c_Row_init l dC dI H.size q_1 32 cI 32 16777216 (by decide) (by decide) (by decide) (by decide)) (cwI 2 hT (gI vt_9) rfl rfl rfl (hT _ vt_4) (hT _ vt_139) (hT _ vt_8) rfl (by decide +kernel) ⟨Nat.le_of_ble_eq_true rfl, Nat.le_of_ble_eq_true rfl⟩) ⟨Pw_blind, Pw_of hPc hKc hDc⟩ rfl rfl hl.1 rfl (lv_room (Nat.le_of_ble_eq_true rfl)) d_Red_init_34 ⟨Nat.le_of_ble_eq_true rfl, Nat.le_of_ble_eq_true rfl⟩) hS (fun q _ h => hFc q h) hFc (fun u t H1 locs ht hvm hw hB hz1 hk1 hS => ?_)
  obtain ⟨qa_2, hP1, hK1, hD1⟩ := hB
  rw [ht] at hP1
  have hK1 := va_K.moved hvm.symm hK1
  obtain ⟨hP, hD⟩ := va_join (wr := [(h0, .inr (7, [.ref p1, .ref p2, .ref p3, .ref p4, .null]))]) (w1 := [(q_1, .inr (0, [.int 16777216, .ref qa_2, .int 0])), (qa_2, .inl (cI, 32, .inl (fun _ => 0)))]) hP hD [1] [0] rfl rfl (by decide) (by decide) hk1 hFc hP1 hD1
  generalize H1 = H at hP hS ⊢
  have hP : va_P (dC, dI) classes [(h0, .inr (7, [.ref p1, .ref p2, .ref p3, .ref p4, .null])), (q_1, .inr (0, [.int 16777216, .ref qa_2, .int 0])), (qa_2, .inl (cI, 32, .inl (fun _ => 0)))] H := hP
  have hD : va_D A [(h0, .inr (7, [.ref p1, .ref p2, .ref p3, .ref p4, .null])), (q_1, .inr (0, [.int 16777216, .ref qa_2, .int 0])), (qa_2, .inl (cI, 32, .inl (fun _ => 0)))] := hD
  refine W.widen (k := 2) (n := 35) (Nat.le_of_ble_eq_true rfl) (Nat.le_of_ble_eq_true rfl) ?_
  refine va_putF (D := (dC, dI)) (ci := 7) (v := .ref q_1) (ty := (.object "FamilyKernel$Row")) (C := R_Red) (T := T_Red) (N := 5) hx hb hT in_Red ty_Red tyo_Red nm_Red hown hK hP hD hS 0 rfl rfl 4 (by decide) (hT _ vt_140) (fun _ h9 => h9) rfl hin rfl (by decide +kernel) rfl rfl (Nat.le_of_ble_eq_true rfl) d_Red_init_37 (fun H locs hP hD hS => ?_)
  have hP : va_P (dC, dI) classes [(h0, .inr (7, [.ref p1, .ref p2, .ref p3, .ref p4, .ref q_1])), (q_1, .inr (0, [.int 16777216, .ref qa_2, .int 0])), (qa_2, .inl (cI, 32, .inl (fun _ => 0)))] H := hP
  have hD : va_D A [(h0, .inr (7, [.ref p1, .ref p2, .ref p3, .ref p4, .ref q_1])), (q_1, .inr (0, [.int 16777216, .ref qa_2, .int 0])), (qa_2, .inl (cI, 32, .inl (fun _ => 0)))] := hD
  refine W.widen (k := 2) (n := 35) (Nat.le_of_ble_eq_true rfl) (Nat.le_of_ble_eq_true rfl) ?_
  have hP9 := hP.sub (ws' := [(h0, .inr (7, [.ref p1, .ref p2, .ref p3, .ref p4, .ref q_1])), (q_1, .inr (0, [.int 16777216, .ref qa_2, .int 0])), (qa_2, .inl (cI, 32, .inl (fun _ => 0)))]) [0, 1, 2] rfl
  have hD9 := hD.sub (ws' := [(h0, .inr (7, [.ref p1, .ref p2, .ref p3, .ref p4, .ref q_1])), (q_1, .inr (0, [.int 16777216, .ref qa_2, .int 0])), (qa_2, .inl (cI, 32, .inl (fun _ => 0)))]) [0, 1, 2] (by decide) rfl
  have hK9 := hK.sub (tys' := [(cI, .int)]) [0] rfl
  exact W.vret hx hb hr (fun t ht hW => ⟨⟨(), rfl, trivial, q_1, qa_2, by rw [ht]; exact hP9, va_K.moved hW.alike hK9, hD9⟩, hS.F ht⟩) hS.2.2 d_Red_init_40
set_option maxHeartbeats 4000000 in
set_option maxRecDepth 100000 in
/-- Typ(..) -/
theorem c_Typ_init (l : Launch) (dC : Nat → ClassId) (dI : Nat → Nat → Nat) (sz : Nat) (h0 p1 p2 p3 p4 : Nat) (cI : ClassId) : Met l y_Typ_init w_Typ_init ({ frames := 20, cells := 0, slots := 0, locals := 600 }) (Pw dC dI [.ref h0, .ref p1, .ref p2, .ref p3, .ref p4] sz [(h0, .inr (8, [.null, .null, .null, .null]))] [(cI, .int)]) (va_Qv (fun _ : Unit => True) (fun _ t => va_P (dC, dI) classes [(h0, .inr (8, [.ref p1, .ref p2, .ref p3, .ref p4]))] t.heap ∧ va_K (dC, dI) classes [(cI, .int)] t ∧ va_D (va_A [(h0, .inr (8, [.null, .null, .null, .null]))] sz) [(h0, .inr (8, [.ref p1, .ref p2, .ref p3, .ref p4]))]) (va_A [(h0, .inr (8, [.null, .null, .null, .null]))] sz)) 0 0 (va_A [(h0, .inr (8, [.null, .null, .null, .null]))] sz) := by
  refine Met.ofW (cc := b_Typ_init) (maxL := 5) (ret := none) (by decide) rfl ?_
  intro p e s m args below meth c s₁ B hml hv
  obtain ⟨rfl, hsz, hP, hK, hD0⟩ := hv
  have hx := B.exec
  have hb := B.bytes
  have hr := B.returns
  have hT : ∀ w ∈ vT, w.before _ s = true := fun w h => atoms_spec (ws := w_Typ_init) B.pre w (List.mem_cons_of_mem _ h)
  have hown : s.vm.findClass R_Typ = some m.cls := findClass_of_methodNamed B.named
  have hlocks := B.notSynchronized
  have hin : meth.name = "<init>" := (name_of_methodNamed B.named B.method).1
  subst hsz
  have hD := hD0.self (sz := s.heap.size)
  generalize hAe : va_A [(h0, .inr (8, [.null, .null, .null, .null]))] s.heap.size = A at hD ⊢
  have hA : ∀ q : Nat, s.heap.size ≤ q → A q := fun q h => by rw [← hAe]; exact Or.inr h
  have hS : va_S A s.heap s.heap [] := va_S.rf
  have hP : va_P (dC, dI) classes [(h0, .inr (8, [.null, .null, .null, .null]))] s.heap := hP
  have hl := lv_entry ([.ref h0, .ref p1, .ref p2, .ref p3, .ref p4]) (n := 5) (Nat.le_of_ble_eq_true rfl)
  rw [lg_entry_eq]
  generalize (lg_sl ([.ref h0, .ref p1, .ref p2, .ref p3, .ref p4]) ++ List.replicate (5 - (lg_sl ([.ref h0, .ref p1, .ref p2, .ref p3, .ref p4])).length) Slot.unset).toArray = ls at hl ⊢
  have hl : lv_has ls 5 [(0, .ref h0), (1, .ref p1), (2, .ref p2), (3, .ref p3), (4, .ref p4)] := hl
  refine lv_aload_n hx hb d_Typ_init_0 rfl (lv_at hl 0 rfl) ?_
  refine W.objInit hx hb hown (hT _ vt_141) (hT _ vt_1) (hT _ vt_2) rfl (by rw [hml]; exact hl.1) rfl d_Typ_init_1 (Nat.le_of_ble_eq_true rfl) (Nat.le_of_ble_eq_true rfl) ?_
  refine W.eq (g2 := F0 m 4 ls []) rfl ?_
  refine lv_aload_n hx hb d_Typ_init_4 rfl (lv_at hl 0 rfl) ?_
  refine lv_aload_n hx hb d_Typ_init_5 rfl (lv_at hl 1 rfl) ?_
  refine va_putF (D := (dC, dI)) (ci := 8) (v := .ref p1) (ty := (.object "FamilyKernel$Frames")) (C := R_Typ) (T := T_Typ) (N := 4) hx hb hT in_Typ ty_Typ tyo_Typ nm_Typ hown hK hP hD hS 0 rfl rfl 0 (by decide) (hT _ vt_142) (fun _ h9 => h9) rfl hin rfl (by decide +kernel) rfl rfl (Nat.le_of_ble_eq_true rfl) d_Typ_init_6 (fun H locs hP hD hS => ?_)
  have hP : va_P (dC, dI) classes [(h0, .inr (8, [.ref p1, .null, .null, .null]))] H := hP
  have hD : va_D A [(h0, .inr (8, [.ref p1, .null, .null, .null]))] := hD
  refine lv_aload_n hx hb d_Typ_init_9 rfl (lv_at hl 0 rfl) ?_
  refine lv_aload_n hx hb d_Typ_init_10 rfl (lv_at hl 2 rfl) ?_
  refine va_putF (D := (dC, dI)) (ci := 8) (v := .ref p2) (ty := (.object "FamilyKernel$Meter")) (C := R_Typ) (T := T_Typ) (N := 4) hx hb hT in_Typ ty_Typ tyo_Typ nm_Typ hown hK hP hD hS 0 rfl rfl 1 (by decide) (hT _ vt_143) (fun _ h9 => h9) rfl hin rfl (by decide +kernel) rfl rfl (Nat.le_of_ble_eq_true rfl) d_Typ_init_11 (fun H locs hP hD hS => ?_)
  have hP : va_P (dC, dI) classes [(h0, .inr (8, [.ref p1, .ref p2, .null, .null]))] H := hP
  have hD : va_D A [(h0, .inr (8, [.ref p1, .ref p2, .null, .null]))] := hD
  refine lv_aload_n hx hb d_Typ_init_14 rfl (lv_at hl 0 rfl) ?_
  refine lv_aload_n hx hb d_Typ_init_15 rfl (lv_at hl 3 rfl) ?_
  refine va_putF (D := (dC, dI)) (ci := 8) (v := .ref p3) (ty := (.object "FamilyKernel$Terms")) (C := R_Typ) (T := T_Typ) (N := 4) hx hb hT in_Typ ty_Typ tyo_Typ nm_Typ hown hK hP hD hS 0 rfl rfl 2 (by decide) (hT _ vt_144) (fun _ h9 => h9) rfl hin rfl (by decide +kernel) rfl rfl (Nat.le_of_ble_eq_true rfl) d_Typ_init_16 (fun H locs hP hD hS => ?_)
  have hP : va_P (dC, dI) classes [(h0, .inr (8, [.ref p1, .ref p2, .ref p3, .null]))] H := hP
  have hD : va_D A [(h0, .inr (8, [.ref p1, .ref p2, .ref p3, .null]))] := hD
  refine lv_aload_n hx hb d_Typ_init_19 rfl (lv_at hl 0 rfl) ?_
  refine lv_aload hx hb d_Typ_init_20 (lv_at hl 4 rfl) ?_
  refine va_putF (D := (dC, dI)) (ci := 8) (v := .ref p4) (ty := (.object "FamilyKernel$Environment")) (C := R_Typ) (T := T_Typ) (N := 4) hx hb hT in_Typ ty_Typ tyo_Typ nm_Typ hown hK hP hD hS 0 rfl rfl 3 (by decide) (hT _ vt_145) (fun _ h9 => h9) rfl hin rfl (by decide +kernel) rfl rfl (Nat.le_of_ble_eq_true rfl) d_Typ_init_22 (fun H locs hP hD hS => ?_)
  have hP : va_P (dC, dI) classes [(h0, .inr (8, [.ref p1, .ref p2, .ref p3, .ref p4]))] H := hP
  have hD : va_D A [(h0, .inr (8, [.ref p1, .ref p2, .ref p3, .ref p4]))] := hD
  refine W.widen (k := 0) (n := 0) (Nat.le_of_ble_eq_true rfl) (Nat.le_of_ble_eq_true rfl) ?_
  have hP9 := hP.sub (ws' := [(h0, .inr (8, [.ref p1, .ref p2, .ref p3, .ref p4]))]) [0] rfl
  have hD9 := hD.sub (ws' := [(h0, .inr (8, [.ref p1, .ref p2, .ref p3, .ref p4]))]) [0] (by decide) rfl
  have hK9 := hK.sub (tys' := [(cI, .int)]) [0] rfl
  exact W.vret hx hb hr (fun t ht hW => ⟨⟨(), rfl, trivial, by rw [ht]; exact hP9, va_K.moved hW.alike hK9, hD9⟩, hS.F ht⟩) hS.2.2 d_Typ_init_25
set_option maxHeartbeats 4000000 in
set_option maxRecDepth 100000 in
/-- Fam(..) -/
theorem c_Fam_init (l : Launch) (dC : Nat → ClassId) (dI : Nat → Nat → Nat) (sz : Nat) (h0 p1 p2 p3 p4 p5 : Nat) (cI : ClassId) : Met l y_Fam_init w_Fam_init ({ frames := 20, cells := 10, slots := 95, locals := 600 }) (Pw dC dI [.ref h0, .ref p1, .ref p2, .ref p3, .ref p4, .ref p5] sz [(h0, .inr (9, [.null, .null, .null, .null, .null, .null, .null, .null, .null, .null, .int 0, .int 0, .int 0, .int 0, .int 0, .int 0, .int 0, .int 0]))] [(cI, .int)]) (va_Qv (fun _ : Unit => True) (fun _ t => ∃ (r_sorts a_sorts r_domains a_domains r_hypotheses a_hypotheses r_within a_within r_minors a_minors : Nat), va_P (dC, dI) classes [(h0, .inr (9, [.ref p1, .ref p2, .ref p3, .ref p4, .ref p5, .ref r_sorts, .ref r_domains, .ref r_hypotheses, .ref r_within, .ref r_minors, .int 0, .int 0, .int 0, .int 0, .int 0, .int 0, .int 0, .int 0])), (r_sorts, .inr (0, [.int 16777216, .ref a_sorts, .int 0])), (a_sorts, .inl (cI, 16, .inl (fun _ => 0))), (r_domains, .inr (0, [.int 16777216, .ref a_domains, .int 0])), (a_domains, .inl (cI, 16, .inl (fun _ => 0))), (r_hypotheses, .inr (0, [.int 16777216, .ref a_hypotheses, .int 0])), (a_hypotheses, .inl (cI, 16, .inl (fun _ => 0))), (r_within, .inr (0, [.int 16777216, .ref a_within, .int 0])), (a_within, .inl (cI, 16, .inl (fun _ => 0))), (r_minors, .inr (0, [.int 16777216, .ref a_minors, .int 0])), (a_minors, .inl (cI, 16, .inl (fun _ => 0)))] t.heap ∧ va_K (dC, dI) classes [(cI, .int)] t ∧ va_D (va_A [(h0, .inr (9, [.null, .null, .null, .null, .null, .null, .null, .null, .null, .null, .int 0, .int 0, .int 0, .int 0, .int 0, .int 0, .int 0, .int 0]))] sz) [(h0, .inr (9, [.ref p1, .ref p2, .ref p3, .ref p4, .ref p5, .ref r_sorts, .ref r_domains, .ref r_hypotheses, .ref r_within, .ref r_minors, .int 0, .int 0, .int 0, .int 0, .int 0, .int 0, .int 0, .int 0])), (r_sorts, .inr (0, [.int 16777216, .ref a_sorts, .int 0])), (a_sorts, .inl (cI, 16, .inl (fun _ => 0))), (r_domains, .inr (0, [.int 16777216, .ref a_domains, .int 0])), (a_domains, .inl (cI, 16, .inl (fun _ => 0))), (r_hypotheses, .inr (0, [.int 16777216, .ref a_hypotheses, .int 0])), (a_hypotheses, .inl (cI, 16, .inl (fun _ => 0))), (r_within, .inr (0, [.int 16777216, .ref a_within, .int 0])), (a_within, .inl (cI, 16, .inl (fun _ => 0))), (r_minors, .inr (0, [.int 16777216, .ref a_minors, .int 0])), (a_minors, .inl (cI, 16, .inl (fun _ => 0)))]) (va_A [(h0, .inr (9, [.null, .null, .null, .null, .null, .null, .null, .null, .null, .null, .int 0, .int 0, .int 0, .int 0, .int 0, .int 0, .int 0, .int 0]))] sz)) 10 95 (va_A [(h0, .inr (9, [.null, .null, .null, .null, .null, .null, .null, .null, .null, .null, .int 0, .int 0, .int 0, .int 0, .int 0, .int 0, .int 0, .int 0]))] sz) := by
  refine Met.ofW (cc := b_Fam_init) (maxL := 6) (ret := none) (by decide) rfl ?_
  intro p e s m args below meth c s₁ B hml hv
  obtain ⟨rfl, hsz, hP, hK, hD0⟩ := hv
  have hx := B.exec
  have hb := B.bytes
  have hr := B.returns
  have hT : ∀ w ∈ vT, w.before _ s = true := fun w h => atoms_spec (ws := w_Fam_init) B.pre w (List.mem_cons_of_mem _ h)
  have hown : s.vm.findClass R_Fam = some m.cls := findClass_of_methodNamed B.named
  have hlocks := B.notSynchronized
  have hin : meth.name = "<init>" := (name_of_methodNamed B.named B.method).1
  subst hsz
  have hD := hD0.self (sz := s.heap.size)
  generalize hAe : va_A [(h0, .inr (9, [.null, .null, .null, .null, .null, .null, .null, .null, .null, .null, .int 0, .int 0, .int 0, .int 0, .int 0, .int 0, .int 0, .int 0]))] s.heap.size = A at hD ⊢
  have hA : ∀ q : Nat, s.heap.size ≤ q → A q := fun q h => by rw [← hAe]; exact Or.inr h
  have hS : va_S A s.heap s.heap [] := va_S.rf
  have hP : va_P (dC, dI) classes [(h0, .inr (9, [.null, .null, .null, .null, .null, .null, .null, .null, .null, .null, .int 0, .int 0, .int 0, .int 0, .int 0, .int 0, .int 0, .int 0]))] s.heap := hP
  have hl := lv_entry ([.ref h0, .ref p1, .ref p2, .ref p3, .ref p4, .ref p5]) (n := 6) (Nat.le_of_ble_eq_true rfl)
  rw [lg_entry_eq]
  generalize (lg_sl ([.ref h0, .ref p1, .ref p2, .ref p3, .ref p4, .ref p5]) ++ List.replicate (6 - (lg_sl ([.ref h0, .ref p1, .ref p2, .ref p3, .ref p4, .ref p5])).length) Slot.unset).toArray = ls at hl ⊢
  have hl : lv_has ls 6 [(0, .ref h0), (1, .ref p1), (2, .ref p2), (3, .ref p3), (4, .ref p4), (5, .ref p5)] := hl
  refine lv_aload_n hx hb d_Fam_init_0 rfl (lv_at hl 0 rfl) ?_
  refine W.objInit hx hb hown (hT _ vt_146) (hT _ vt_1) (hT _ vt_2) rfl (by rw [hml]; exact hl.1) rfl d_Fam_init_1 (Nat.le_of_ble_eq_true rfl) (Nat.le_of_ble_eq_true rfl) ?_
  refine W.eq (g2 := F0 m 4 ls []) rfl ?_
  refine lv_aload_n hx hb d_Fam_init_4 rfl (lv_at hl 0 rfl) ?_
  refine lv_aload_n hx hb d_Fam_init_5 rfl (lv_at hl 1 rfl) ?_
  refine va_putF (D := (dC, dI)) (ci := 9) (v := .ref p1) (ty := (.object "FamilyKernel$Frames")) (C := R_Fam) (T := T_Fam) (N := 18) hx hb hT in_Fam ty_Fam tyo_Fam nm_Fam hown hK hP hD hS 0 rfl rfl 0 (by decide) (hT _ vt_147) (fun _ h9 => h9) rfl hin rfl (by decide +kernel) rfl rfl (Nat.le_of_ble_eq_true rfl) d_Fam_init_6 (fun H locs hP hD hS => ?_)
  have hP : va_P (dC, dI) classes [(h0, .inr (9, [.ref p1, .null, .null, .null, .null, .null, .null, .null, .null, .null, .int 0, .int 0, .int 0, .int 0, .int 0, .int 0, .int 0, .int 0]))] H := hP
  have hD : va_D A [(h0, .inr (9, [.ref p1, .null, .null, .null, .null, .null, .null, .null, .null, .null, .int 0, .int 0, .int 0, .int 0, .int 0, .int 0, .int 0, .int 0]))] := hD
  refine lv_aload_n hx hb d_Fam_init_9 rfl (lv_at hl 0 rfl) ?_
  refine lv_aload_n hx hb d_Fam_init_10 rfl (lv_at hl 2 rfl) ?_
  refine va_putF (D := (dC, dI)) (ci := 9) (v := .ref p2) (ty := (.object "FamilyKernel$Meter")) (C := R_Fam) (T := T_Fam) (N := 18) hx hb hT in_Fam ty_Fam tyo_Fam nm_Fam hown hK hP hD hS 0 rfl rfl 1 (by decide) (hT _ vt_148) (fun _ h9 => h9) rfl hin rfl (by decide +kernel) rfl rfl (Nat.le_of_ble_eq_true rfl) d_Fam_init_11 (fun H locs hP hD hS => ?_)
  have hP : va_P (dC, dI) classes [(h0, .inr (9, [.ref p1, .ref p2, .null, .null, .null, .null, .null, .null, .null, .null, .int 0, .int 0, .int 0, .int 0, .int 0, .int 0, .int 0, .int 0]))] H := hP
  have hD : va_D A [(h0, .inr (9, [.ref p1, .ref p2, .null, .null, .null, .null, .null, .null, .null, .null, .int 0, .int 0, .int 0, .int 0, .int 0, .int 0, .int 0, .int 0]))] := hD
  refine lv_aload_n hx hb d_Fam_init_14 rfl (lv_at hl 0 rfl) ?_
  refine lv_aload_n hx hb d_Fam_init_15 rfl (lv_at hl 3 rfl) ?_
  refine va_putF (D := (dC, dI)) (ci := 9) (v := .ref p3) (ty := (.object "FamilyKernel$Terms")) (C := R_Fam) (T := T_Fam) (N := 18) hx hb hT in_Fam ty_Fam tyo_Fam nm_Fam hown hK hP hD hS 0 rfl rfl 2 (by decide) (hT _ vt_149) (fun _ h9 => h9) rfl hin rfl (by decide +kernel) rfl rfl (Nat.le_of_ble_eq_true rfl) d_Fam_init_16 (fun H locs hP hD hS => ?_)
  have hP : va_P (dC, dI) classes [(h0, .inr (9, [.ref p1, .ref p2, .ref p3, .null, .null, .null, .null, .null, .null, .null, .int 0, .int 0, .int 0, .int 0, .int 0, .int 0, .int 0, .int 0]))] H := hP
  have hD : va_D A [(h0, .inr (9, [.ref p1, .ref p2, .ref p3, .null, .null, .null, .null, .null, .null, .null, .int 0, .int 0, .int 0, .int 0, .int 0, .int 0, .int 0, .int 0]))] := hD
  refine lv_aload_n hx hb d_Fam_init_19 rfl (lv_at hl 0 rfl) ?_
  refine lv_aload hx hb d_Fam_init_20 (lv_at hl 4 rfl) ?_
  refine va_putF (D := (dC, dI)) (ci := 9) (v := .ref p4) (ty := (.object "FamilyKernel$Environment")) (C := R_Fam) (T := T_Fam) (N := 18) hx hb hT in_Fam ty_Fam tyo_Fam nm_Fam hown hK hP hD hS 0 rfl rfl 3 (by decide) (hT _ vt_150) (fun _ h9 => h9) rfl hin rfl (by decide +kernel) rfl rfl (Nat.le_of_ble_eq_true rfl) d_Fam_init_22 (fun H locs hP hD hS => ?_)
  have hP : va_P (dC, dI) classes [(h0, .inr (9, [.ref p1, .ref p2, .ref p3, .ref p4, .null, .null, .null, .null, .null, .null, .int 0, .int 0, .int 0, .int 0, .int 0, .int 0, .int 0, .int 0]))] H := hP
  have hD : va_D A [(h0, .inr (9, [.ref p1, .ref p2, .ref p3, .ref p4, .null, .null, .null, .null, .null, .null, .int 0, .int 0, .int 0, .int 0, .int 0, .int 0, .int 0, .int 0]))] := hD
  refine lv_aload_n hx hb d_Fam_init_25 rfl (lv_at hl 0 rfl) ?_
  refine lv_aload hx hb d_Fam_init_26 (lv_at hl 5 rfl) ?_
  refine va_putF (D := (dC, dI)) (ci := 9) (v := .ref p5) (ty := (.object "FamilyKernel$Parser")) (C := R_Fam) (T := T_Fam) (N := 18) hx hb hT in_Fam ty_Fam tyo_Fam nm_Fam hown hK hP hD hS 0 rfl rfl 4 (by decide) (hT _ vt_151) (fun _ h9 => h9) rfl hin rfl (by decide +kernel) rfl rfl (Nat.le_of_ble_eq_true rfl) d_Fam_init_28 (fun H locs hP hD hS => ?_)
  have hP : va_P (dC, dI) classes [(h0, .inr (9, [.ref p1, .ref p2, .ref p3, .ref p4, .ref p5, .null, .null, .null, .null, .null, .int 0, .int 0, .int 0, .int 0, .int 0, .int 0, .int 0, .int 0]))] H := hP
  have hD : va_D A [(h0, .inr (9, [.ref p1, .ref p2, .ref p3, .ref p4, .ref p5, .null, .null, .null, .null, .null, .int 0, .int 0, .int 0, .int 0, .int 0, .int 0, .int 0, .int 0]))] := hD
  refine lv_aload_n hx hb d_Fam_init_31 rfl (lv_at hl 0 rfl) ?_
  refine va_new (ci := 0) (fs := [.int 0, .null, .int 0]) (C := R_Row) (T := T_Row) (N := 3) hx hb hT in_Row ty_Row tyo_Row hown (hT _ vt_152) (hT _ vt_5) (hT _ vt_4) hK hP hD hS hA rfl df_Row (Nat.le_of_ble_eq_true rfl) (Nat.le_of_ble_eq_true rfl) d_Fam_init_32 (fun q_1 H hP hD hS => ?_)
  have hP : va_P (dC, dI) classes [(h0, .inr (9, [.ref p1, .ref p2, .ref p3, .ref p4, .ref p5, .null, .null, .null, .null, .null, .int 0, .int 0, .int 0, .int 0, .int 0, .int 0, .int 0, .int 0])), (q_1, .inr (0, [.int 0, .null, .int 0]))] H := hP
  have hD : va_D A [(h0, .inr (9, [.ref p1, .ref p2, .ref p3, .ref p4, .ref p5, .null, .null, .null, .null, .null, .int 0, .int 0, .int 0, .int 0, .int 0, .int 0, .int 0, .int 0])), (q_1, .inr (0, [.int 0, .null, .int 0]))] := hD
  refine W.widen (k := 1) (n := 3) (Nat.le_of_ble_eq_true rfl) (Nat.le_of_ble_eq_true rfl) ?_
  refine lv_dup hx hb d_Fam_init_35 rfl ?_
  refine lv_bipush (v := 16) hx hb d_Fam_init_36 (by decide) ?_
  refine lv_ldc (v := 16777216) hx hb hown (hT _ vt_153) d_Fam_init_38 ?_
  have hPc := hP.sub (ws' := [(q_1, .inr (0, [.int 0, .null, .int 0]))]) [1] rfl
  have hDc := hD.sub (ws' := [(q_1, .inr (0, [.int 0, .null, .int 0]))]) [1] (by decide) rfl
  have hKc := hK.sub (tys' := [(cI, .int)]) [0] rfl
  have hFc := va_free (wc := [(q_1, .inr (0, [.int 0, .null, .int 0]))]) hD hS hA [1] rfl
  refine va_callv (va_runI (As := [.int 16, .int 16777216]) (rest := [.ref q_1, .ref h0]) ⟨hx, hb, hml, hown, hT⟩ (c_Row_init l dC dI H.size q_1 16 cI 16 16777216 (by decide) (by decide) (by decide) (by decide)) (cwI 2 hT (gI vt_9) rfl rfl rfl (hT _ vt_4) (hT _ vt_154) (hT _ vt_8) rfl (by decide +kernel) ⟨Nat.le_of_ble_eq_true rfl, Nat.le_of_ble_eq_true rfl⟩) ⟨Pw_blind, Pw_of hPc hKc hDc⟩ rfl rfl hl.1 rfl (lv_room (Nat.le_of_ble_eq_true rfl)) d_Fam_init_40 ⟨Nat.le_of_ble_eq_true rfl, Nat.le_of_ble_eq_true rfl⟩) hS (fun q _ h => hFc q h) hFc (fun u t H1 locs ht hvm hw hB hz1 hk1 hS => ?_)
  obtain ⟨qa_2, hP1, hK1, hD1⟩ := hB
  rw [ht] at hP1
  have hK1 := va_K.moved hvm.symm hK1
  obtain ⟨hP, hD⟩ := va_join (wr := [(h0, .inr (9, [.ref p1, .ref p2, .ref p3, .ref p4, .ref p5, .null, .null, .null, .null, .null, .int 0, .int 0, .int 0, .int 0, .int 0, .int 0, .int 0, .int 0]))]) (w1 := [(q_1, .inr (0, [.int 16777216, .ref qa_2, .int 0])), (qa_2, .inl (cI, 16, .inl (fun _ => 0)))]) hP hD [1] [0] rfl rfl (by decide) (by decide) hk1 hFc hP1 hD1
  generalize H1 = H at hP hS ⊢
  have hP : va_P (dC, dI) classes [(h0, .inr (9, [.ref p1, .ref p2, .ref p3, .ref p4, .ref p5, .null, .null, .null, .null, .null, .int 0, .int 0, .int 0, .int 0, .int 0, .int 0, .int 0, .int 0])), (q_1, .inr (0, [.int 16777216, .ref qa_2, .int 0])), (qa_2, .inl (cI, 16, .inl (fun _ => 0)))] H := hP
  have hD : va_D A [(h0, .inr (9, [.ref p1, .ref p2, .ref p3, .ref p4, .ref p5, .null, .null, .null, .null, .null, .int 0, .int 0, .int 0, .int 0, .int 0, .int 0, .int 0, .int 0])), (q_1, .inr (0, [.int 16777216, .ref qa_2, .int 0])), (qa_2, .inl (cI, 16, .inl (fun _ => 0)))] := hD
  refine W.widen (k := 2) (n := 19) (Nat.le_of_ble_eq_true rfl) (Nat.le_of_ble_eq_true rfl) ?_
  refine va_putF (D := (dC, dI)) (ci := 9) (v := .ref q_1) (ty := (.object "FamilyKernel$Row")) (C := R_Fam) (T := T_Fam) (N := 18) hx hb hT in_Fam ty_Fam tyo_Fam nm_Fam hown hK hP hD hS 0 rfl rfl 5 (by decide) (hT _ vt_155) (fun _ h9 => h9) rfl hin rfl (by decide +kernel) rfl rfl (Nat.le_of_ble_eq_true rfl) d_Fam_init_43 (fun H locs hP hD hS => ?_)
  have hP : va_P (dC, dI) classes [(h0, .inr (9, [.ref p1, .ref p2, .ref p3, .ref p4, .ref p5, .ref q_1, .null, .null, .null, .null, .int 0, .int 0, .int 0, .int 0, .int 0, .int 0, .int 0, .int 0])), (q_1, .inr (0, [.int 16777216, .ref qa_2, .int 0])), (qa_2, .inl (cI, 16, .inl (fun _ => 0)))] H := hP
  have hD : va_D A [(h0, .inr (9, [.ref p1, .ref p2, .ref p3, .ref p4, .ref p5, .ref q_1, .null, .null, .null, .null, .int 0, .int 0, .int 0, .int 0, .int 0, .int 0, .int 0, .int 0])), (q_1, .inr (0, [.int 16777216, .ref qa_2, .int 0])), (qa_2, .inl (cI, 16, .inl (fun _ => 0)))] := hD
  refine lv_aload_n hx hb d_Fam_init_46 rfl (lv_at hl 0 rfl) ?_
  refine va_new (ci := 0) (fs := [.int 0, .null, .int 0]) (C := R_Row) (T := T_Row) (N := 3) hx hb hT in_Row ty_Row tyo_Row hown (hT _ vt_152) (hT _ vt_5) (hT _ vt_4) hK hP hD hS hA rfl df_Row (Nat.le_of_ble_eq_true rfl) (Nat.le_of_ble_eq_true rfl) d_Fam_init_47 (fun q_4 H hP hD hS => ?_)
  have hP : va_P (dC, dI) classes [(h0, .inr (9, [.ref p1, .ref p2, .ref p3, .ref p4, .ref p5, .ref q_1, .null, .null, .null, .null, .int 0, .int 0, .int 0, .int 0, .int 0, .int 0, .int 0, .int 0])), (q_1, .inr (0, [.int 16777216, .ref qa_2, .int 0])), (qa_2, .inl (cI, 16, .inl (fun _ => 0))), (q_4, .inr (0, [.int 0, .null, .int 0]))] H := hP
  have hD : va_D A [(h0, .inr (9, [.ref p1, .ref p2, .ref p3, .ref p4, .ref p5, .ref q_1, .null, .null, .null, .null, .int 0, .int 0, .int 0, .int 0, .int 0, .int 0, .int 0, .int 0])), (q_1, .inr (0, [.int 16777216, .ref qa_2, .int 0])), (qa_2, .inl (cI, 16, .inl (fun _ => 0))), (q_4, .inr (0, [.int 0, .null, .int 0]))] := hD
  refine W.widen (k := 3) (n := 22) (Nat.le_of_ble_eq_true rfl) (Nat.le_of_ble_eq_true rfl) ?_
  refine lv_dup hx hb d_Fam_init_50 rfl ?_
  refine lv_bipush (v := 16) hx hb d_Fam_init_51 (by decide) ?_
  refine lv_ldc (v := 16777216) hx hb hown (hT _ vt_153) d_Fam_init_53 ?_
  have hPc := hP.sub (ws' := [(q_4, .inr (0, [.int 0, .null, .int 0]))]) [3] rfl
  have hDc := hD.sub (ws' := [(q_4, .inr (0, [.int 0, .null, .int 0]))]) [3] (by decide) rfl
  have hKc := hK.sub (tys' := [(cI, .int)]) [0] rfl
  have hFc := va_free (wc := [(q_4, .inr (0, [.int 0, .null, .int 0]))]) hD hS hA [3] rfl
  refine va_callv (va_runI (As := [.int 16, .int 16777216]) (rest := [.ref q_4, .ref h0]) ⟨hx, hb, hml, hown, hT⟩ (c_Row_init l dC dI H.size q_4 16 cI 16 16777216 (by decide) (by decide) (by decide) (by decide)) (cwI 2 hT (gI vt_9) rfl rfl rfl (hT _ vt_4) (hT _ vt_154) (hT _ vt_8) rfl (by decide +kernel) ⟨Nat.le_of_ble_eq_true rfl, Nat.le_of_ble_eq_true rfl⟩) ⟨Pw_blind, Pw_of hPc hKc hDc⟩ rfl rfl hl.1 rfl (lv_room (Nat.le_of_ble_eq_true rfl)) d_Fam_init_55 ⟨Nat.le_of_ble_eq_true rfl, Nat.le_of_ble_eq_true rfl⟩) hS (fun q _ h => hFc q h) hFc (fun u t H1 locs ht hvm hw hB hz1 hk1 hS => ?_)
  obtain ⟨qa_5, hP1, hK1, hD1⟩ := hB
  rw [ht] at hP1
  have hK1 := va_K.moved hvm.symm hK1
  obtain ⟨hP, hD⟩ := va_join (wr := [(h0, .inr (9, [.ref p1, .ref p2, .ref p3, .ref p4, .ref p5, .ref q_1, .null, .null, .null, .null, .int 0, .int 0, .int 0, .int 0, .int 0, .int 0, .int 0, .int 0])), (q_1, .inr (0, [.int 16777216, .ref qa_2, .int 0])), (qa_2, .inl (cI, 16, .inl (fun _ => 0)))]) (w1 := [(q_4, .inr (0, [.int 16777216, .ref qa_5, .int 0])), (qa_5, .inl (cI, 16, .inl (fun _ => 0)))]) hP hD [3] [0, 1, 2] rfl rfl (by decide) (by decide) hk1 hFc hP1 hD1
  generalize H1 = H at hP hS ⊢
  have hP : va_P (dC, dI) classes [(h0, .inr (9, [.ref p1, .ref p2, .ref p3, .ref p4, .ref p5, .ref q_1, .null, .null, .null, .null, .int 0, .int 0, .int 0, .int 0, .int 0, .int 0, .int 0, .int 0])), (q_1, .inr (0, [.int 16777216, .ref qa_2, .int 0])), (qa_2, .inl (cI, 16, .inl (fun _ => 0))), (q_4, .inr (0, [.int 16777216, .ref qa_5, .int 0])), (qa_5, .inl (cI, 16, .inl (fun _ => 0)))] H := hP
  have hD : va_D A [(h0, .inr (9, [.ref p1, .ref p2, .ref p3, .ref p4, .ref p5, .ref q_1, .null, .null, .null, .null, .int 0, .int 0, .int 0, .int 0, .int 0, .int 0, .int 0, .int 0])), (q_1, .inr (0, [.int 16777216, .ref qa_2, .int 0])), (qa_2, .inl (cI, 16, .inl (fun _ => 0))), (q_4, .inr (0, [.int 16777216, .ref qa_5, .int 0])), (qa_5, .inl (cI, 16, .inl (fun _ => 0)))] := hD
  refine W.widen (k := 4) (n := 38) (Nat.le_of_ble_eq_true rfl) (Nat.le_of_ble_eq_true rfl) ?_
  refine va_putF (D := (dC, dI)) (ci := 9) (v := .ref q_4) (ty := (.object "FamilyKernel$Row")) (C := R_Fam) (T := T_Fam) (N := 18) hx hb hT in_Fam ty_Fam tyo_Fam nm_Fam hown hK hP hD hS 0 rfl rfl 6 (by decide) (hT _ vt_156) (fun _ h9 => h9) rfl hin rfl (by decide +kernel) rfl rfl (Nat.le_of_ble_eq_true rfl) d_Fam_init_58 (fun H locs hP hD hS => ?_)
  have hP : va_P (dC, dI) classes [(h0, .inr (9, [.ref p1, .ref p2, .ref p3, .ref p4, .ref p5, .ref q_1, .ref q_4, .null, .null, .null, .int 0, .int 0, .int 0, .int 0, .int 0, .int 0, .int 0, .int 0])), (q_1, .inr (0, [.int 16777216, .ref qa_2, .int 0])), (qa_2, .inl (cI, 16, .inl (fun _ => 0))), (q_4, .inr (0, [.int 16777216, .ref qa_5, .int 0])), (qa_5, .inl (cI, 16, .inl (fun _ => 0)))] H := hP
  have hD : va_D A [(h0, .inr (9, [.ref p1, .ref p2, .ref p3, .ref p4, .ref p5, .ref q_1, .ref q_4, .null, .null, .null, .int 0, .int 0, .int 0, .int 0, .int 0, .int 0, .int 0, .int 0])), (q_1, .inr (0, [.int 16777216, .ref qa_2, .int 0])), (qa_2, .inl (cI, 16, .inl (fun _ => 0))), (q_4, .inr (0, [.int 16777216, .ref qa_5, .int 0])), (qa_5, .inl (cI, 16, .inl (fun _ => 0)))] := hD
  refine lv_aload_n hx hb d_Fam_init_61 rfl (lv_at hl 0 rfl) ?_
  refine va_new (ci := 0) (fs := [.int 0, .null, .int 0]) (C := R_Row) (T := T_Row) (N := 3) hx hb hT in_Row ty_Row tyo_Row hown (hT _ vt_152) (hT _ vt_5) (hT _ vt_4) hK hP hD hS hA rfl df_Row (Nat.le_of_ble_eq_true rfl) (Nat.le_of_ble_eq_true rfl) d_Fam_init_62 (fun q_7 H hP hD hS => ?_)
  have hP : va_P (dC, dI) classes [(h0, .inr (9, [.ref p1, .ref p2, .ref p3, .ref p4, .ref p5, .ref q_1, .ref q_4, .null, .null, .null, .int 0, .int 0, .int 0, .int 0, .int 0, .int 0, .int 0, .int 0])), (q_1, .inr (0, [.int 16777216, .ref qa_2, .int 0])), (qa_2, .inl (cI, 16, .inl (fun _ => 0))), (q_4, .inr (0, [.int 16777216, .ref qa_5, .int 0])), (qa_5, .inl (cI, 16, .inl (fun _ => 0))), (q_7, .inr (0, [.int 0, .null, .int 0]))] H := hP
  have hD : va_D A [(h0, .inr (9, [.ref p1, .ref p2, .ref p3, .ref p4, .ref p5, .ref q_1, .ref q_4, .null, .null, .null, .int 0, .int 0, .int 0, .int 0, .int 0, .int 0, .int 0, .int 0])), (q_1, .inr (0, [.int 16777216, .ref qa_2, .int 0])), (qa_2, .inl (cI, 16, .inl (fun _ => 0))), (q_4, .inr (0, [.int 16777216, .ref qa_5, .int 0])), (qa_5, .inl (cI, 16, .inl (fun _ => 0))), (q_7, .inr (0, [.int 0, .null, .int 0]))] := hD
  refine W.widen (k := 5) (n := 41) (Nat.le_of_ble_eq_true rfl) (Nat.le_of_ble_eq_true rfl) ?_
  refine lv_dup hx hb d_Fam_init_65 rfl ?_
  refine lv_bipush (v := 16) hx hb d_Fam_init_66 (by decide) ?_
  refine lv_ldc (v := 16777216) hx hb hown (hT _ vt_153) d_Fam_init_68 ?_
  have hPc := hP.sub (ws' := [(q_7, .inr (0, [.int 0, .null, .int 0]))]) [5] rfl
  have hDc := hD.sub (ws' := [(q_7, .inr (0, [.int 0, .null, .int 0]))]) [5] (by decide) rfl
  have hKc := hK.sub (tys' := [(cI, .int)]) [0] rfl
  have hFc := va_free (wc := [(q_7, .inr (0, [.int 0, .null, .int 0]))]) hD hS hA [5] rfl
  refine va_callv (va_runI (As := [.int 16, .int 16777216]) (rest := [.ref q_7, .ref h0]) ⟨hx, hb, hml, hown, hT⟩ (c_Row_init l dC dI H.size q_7 16 cI 16 16777216 (by decide) (by decide) (by decide) (by decide)) (cwI 2 hT (gI vt_9) rfl rfl rfl (hT _ vt_4) (hT _ vt_154) (hT _ vt_8) rfl (by decide +kernel) ⟨Nat.le_of_ble_eq_true rfl, Nat.le_of_ble_eq_true rfl⟩) ⟨Pw_blind, Pw_of hPc hKc hDc⟩ rfl rfl hl.1 rfl (lv_room (Nat.le_of_ble_eq_true rfl)) d_Fam_init_70 ⟨Nat.le_of_ble_eq_true rfl, Nat.le_of_ble_eq_true rfl⟩) hS (fun q _ h => hFc q h) hFc (fun u t H1 locs ht hvm hw hB hz1 hk1 hS => ?_)
  obtain ⟨qa_8, hP1, hK1, hD1⟩ := hB
  rw [ht] at hP1
  have hK1 := va_K.moved hvm.symm hK1
  obtain ⟨hP, hD⟩ := va_join (wr := [(h0, .inr (9, [.ref p1, .ref p2, .ref p3, .ref p4, .ref p5, .ref q_1, .ref q_4, .null, .null, .null, .int 0, .int 0, .int 0, .int 0, .int 0, .int 0, .int 0, .int 0])), (q_1, .inr (0, [.int 16777216, .ref qa_2, .int 0])), (qa_2, .inl (cI, 16, .inl (fun _ => 0))), (q_4, .inr (0, [.int 16777216, .ref qa_5, .int 0])), (qa_5, .inl (cI, 16, .inl (fun _ => 0)))]) (w1 := [(q_7, .inr (0, [.int 16777216, .ref qa_8, .int 0])), (qa_8, .inl (cI, 16, .inl (fun _ => 0)))]) hP hD [5] [0, 1, 2, 3, 4] rfl rfl (by decide) (by decide) hk1 hFc hP1 hD1
  generalize H1 = H at hP hS ⊢
  have hP : va_P (dC, dI) classes [(h0, .inr (9, [.ref p1, .ref p2, .ref p3, .ref p4, .ref p5, .ref q_1, .ref q_4, .null, .null, .null, .int 0, .int 0, .int 0, .int 0, .int 0, .int 0, .int 0, .int 0])), (q_1, .inr (0, [.int 16777216, .ref qa_2, .int 0])), (qa_2, .inl (cI, 16, .inl (fun _ => 0))), (q_4, .inr (0, [.int 16777216, .ref qa_5, .int 0])), (qa_5, .inl (cI, 16, .inl (fun _ => 0))), (q_7, .inr (0, [.int 16777216, .ref qa_8, .int 0])), (qa_8, .inl (cI, 16, .inl (fun _ => 0)))] H := hP
  have hD : va_D A [(h0, .inr (9, [.ref p1, .ref p2, .ref p3, .ref p4, .ref p5, .ref q_1, .ref q_4, .null, .null, .null, .int 0, .int 0, .int 0, .int 0, .int 0, .int 0, .int 0, .int 0])), (q_1, .inr (0, [.int 16777216, .ref qa_2, .int 0])), (qa_2, .inl (cI, 16, .inl (fun _ => 0))), (q_4, .inr (0, [.int 16777216, .ref qa_5, .int 0])), (qa_5, .inl (cI, 16, .inl (fun _ => 0))), (q_7, .inr (0, [.int 16777216, .ref qa_8, .int 0])), (qa_8, .inl (cI, 16, .inl (fun _ => 0)))] := hD
  refine W.widen (k := 6) (n := 57) (Nat.le_of_ble_eq_true rfl) (Nat.le_of_ble_eq_true rfl) ?_
  refine va_putF (D := (dC, dI)) (ci := 9) (v := .ref q_7) (ty := (.object "FamilyKernel$Row")) (C := R_Fam) (T := T_Fam) (N := 18) hx hb hT in_Fam ty_Fam tyo_Fam nm_Fam hown hK hP hD hS 0 rfl rfl 7 (by decide) (hT _ vt_157) (fun _ h9 => h9) rfl hin rfl (by decide +kernel) rfl rfl (Nat.le_of_ble_eq_true rfl) d_Fam_init_73 (fun H locs hP hD hS => ?_)
  have hP : va_P (dC, dI) classes [(h0, .inr (9, [.ref p1, .ref p2, .ref p3, .ref p4, .ref p5, .ref q_1, .ref q_4, .ref q_7, .null, .null, .int 0, .int 0, .int 0, .int 0, .int 0, .int 0, .int 0, .int 0])), (q_1, .inr (0, [.int 16777216, .ref qa_2, .int 0])), (qa_2, .inl (cI, 16, .inl (fun _ => 0))), (q_4, .inr (0, [.int 16777216, .ref qa_5, .int 0])), (qa_5, .inl (cI, 16, .inl (fun _ => 0))), (q_7, .inr (0, [.int 16777216, .ref qa_8, .int 0])), (qa_8, .inl (cI, 16, .inl (fun _ => 0)))] H := hP
  have hD : va_D A [(h0, .inr (9, [.ref p1, .ref p2, .ref p3, .ref p4, .ref p5, .ref q_1, .ref q_4, .ref q_7, .null, .null, .int 0, .int 0, .int 0, .int 0, .int 0, .int 0, .int 0, .int 0])), (q_1, .inr (0, [.int 16777216, .ref qa_2, .int 0])), (qa_2, .inl (cI, 16, .inl (fun _ => 0))), (q_4, .inr (0, [.int 16777216, .ref qa_5, .int 0])), (qa_5, .inl (cI, 16, .inl (fun _ => 0))), (q_7, .inr (0, [.int 16777216, .ref qa_8, .int 0])), (qa_8, .inl (cI, 16, .inl (fun _ => 0)))] := hD
  refine lv_aload_n hx hb d_Fam_init_76 rfl (lv_at hl 0 rfl) ?_
  refine va_new (ci := 0) (fs := [.int 0, .null, .int 0]) (C := R_Row) (T := T_Row) (N := 3) hx hb hT in_Row ty_Row tyo_Row hown (hT _ vt_152) (hT _ vt_5) (hT _ vt_4) hK hP hD hS hA rfl df_Row (Nat.le_of_ble_eq_true rfl) (Nat.le_of_ble_eq_true rfl) d_Fam_init_77 (fun q_10 H hP hD hS => ?_)
  have hP : va_P (dC, dI) classes [(h0, .inr (9, [.ref p1, .ref p2, .ref p3, .ref p4, .ref p5, .ref q_1, .ref q_4, .ref q_7, .null, .null, .int 0, .int 0, .int 0, .int 0, .int 0, .int 0, .int 0, .int 0])), (q_1, .inr (0, [.int 16777216, .ref qa_2, .int 0])), (qa_2, .inl (cI, 16, .inl (fun _ => 0))), (q_4, .inr (0, [.int 16777216, .ref qa_5, .int 0])), (qa_5, .inl (cI, 16, .inl (fun _ => 0))), (q_7, .inr (0, [.int 16777216, .ref qa_8, .int 0])), (qa_8, .inl (cI, 16, .inl (fun _ => 0))), (q_10, .inr (0, [.int 0, .null, .int 0]))] H := hP
  have hD : va_D A [(h0, .inr (9, [.ref p1, .ref p2, .ref p3, .ref p4, .ref p5, .ref q_1, .ref q_4, .ref q_7, .null, .null, .int 0, .int 0, .int 0, .int 0, .int 0, .int 0, .int 0, .int 0])), (q_1, .inr (0, [.int 16777216, .ref qa_2, .int 0])), (qa_2, .inl (cI, 16, .inl (fun _ => 0))), (q_4, .inr (0, [.int 16777216, .ref qa_5, .int 0])), (qa_5, .inl (cI, 16, .inl (fun _ => 0))), (q_7, .inr (0, [.int 16777216, .ref qa_8, .int 0])), (qa_8, .inl (cI, 16, .inl (fun _ => 0))), (q_10, .inr (0, [.int 0, .null, .int 0]))] := hD
  refine W.widen (k := 7) (n := 60) (Nat.le_of_ble_eq_true rfl) (Nat.le_of_ble_eq_true rfl) ?_
  refine lv_dup hx hb d_Fam_init_80 rfl ?_
  refine lv_bipush (v := 16) hx hb d_Fam_init_81 (by decide) ?_
  refine lv_ldc (v := 16777216) hx hb hown (hT _ vt_153) d_Fam_init_83 ?_
  have hPc := hP.sub (ws' := [(q_10, .inr (0, [.int 0, .null, .int 0]))]) [7] rfl
  have hDc := hD.sub (ws' := [(q_10, .inr (0, [.int 0, .null, .int 0]))]) [7] (by decide) rfl
  have hKc := hK.sub (tys' := [(cI, .int)]) [0] rfl
  have hFc := va_free (wc := [(q_10, .inr (0, [.int 0, .null, .int 0]))]) hD hS hA [7] rfl
  refine va_callv (va_runI (As := [.int 16, .int 16777216]) (rest := [.ref q_10, .ref h0]) ⟨hx, hb, hml, hown, hT⟩ (c_Row_init l dC dI H.size q_10 16 cI 16 16777216 (by decide) (by decide) (by decide) (by decide)) (cwI 2 hT (gI vt_9) rfl rfl rfl (hT _ vt_4) (hT _ vt_154) (hT _ vt_8) rfl (by decide +kernel) ⟨Nat.le_of_ble_eq_true rfl, Nat.le_of_ble_eq_true rfl⟩) ⟨Pw_blind, Pw_of hPc hKc hDc⟩ rfl rfl hl.1 rfl (lv_room (Nat.le_of_ble_eq_true rfl)) d_Fam_init_85 ⟨Nat.le_of_ble_eq_true rfl, Nat.le_of_ble_eq_true rfl⟩) hS (fun q _ h => hFc q h) hFc (fun u t H1 locs ht hvm hw hB hz1 hk1 hS => ?_)
  obtain ⟨qa_11, hP1, hK1, hD1⟩ := hB
  rw [ht] at hP1
  have hK1 := va_K.moved hvm.symm hK1
  obtain ⟨hP, hD⟩ := va_join (wr := [(h0, .inr (9, [.ref p1, .ref p2, .ref p3, .ref p4, .ref p5, .ref q_1, .ref q_4, .ref q_7, .null, .null, .int 0, .int 0, .int 0, .int 0, .int 0, .int 0, .int 0, .int 0])), (q_1, .inr (0, [.int 16777216, .ref qa_2, .int 0])), (qa_2, .inl (cI, 16, .inl (fun _ => 0))), (q_4, .inr (0, [.int 16777216, .ref qa_5, .int 0])), (qa_5, .inl (cI, 16, .inl (fun _ => 0))), (q_7, .inr (0, [.int 16777216, .ref qa_8, .int 0])), (qa_8, .inl (cI, 16, .inl (fun _ => 0)))]) (w1 := [(q_10, .inr (0, [.int 16777216, .ref qa_11, .int 0])), (qa_11, .inl (cI, 16, .inl (fun _ => 0)))]) hP hD [7] [0, 1, 2, 3, 4, 5, 6] rfl rfl (by decide) (by decide) hk1 hFc hP1 hD1
  generalize H1 = H at hP hS ⊢
  have hP : va_P (dC, dI) classes [(h0, .inr (9, [.ref p1, .ref p2, .ref p3, .ref p4, .ref p5, .ref q_1, .ref q_4, .ref q_7, .null, .null, .int 0, .int 0, .int 0, .int 0, .int 0, .int 0, .int 0, .int 0])), (q_1, .inr (0, [.int 16777216, .ref qa_2, .int 0])), (qa_2, .inl (cI, 16, .inl (fun _ => 0))), (q_4, .inr (0, [.int 16777216, .ref qa_5, .int 0])), (qa_5, .inl (cI, 16, .inl (fun _ => 0))), (q_7, .inr (0, [.int 16777216, .ref qa_8, .int 0])), (qa_8, .inl (cI, 16, .inl (fun _ => 0))), (q_10, .inr (0, [.int 16777216, .ref qa_11, .int 0])), (qa_11, .inl (cI, 16, .inl (fun _ => 0)))] H := hP
  have hD : va_D A [(h0, .inr (9, [.ref p1, .ref p2, .ref p3, .ref p4, .ref p5, .ref q_1, .ref q_4, .ref q_7, .null, .null, .int 0, .int 0, .int 0, .int 0, .int 0, .int 0, .int 0, .int 0])), (q_1, .inr (0, [.int 16777216, .ref qa_2, .int 0])), (qa_2, .inl (cI, 16, .inl (fun _ => 0))), (q_4, .inr (0, [.int 16777216, .ref qa_5, .int 0])), (qa_5, .inl (cI, 16, .inl (fun _ => 0))), (q_7, .inr (0, [.int 16777216, .ref qa_8, .int 0])), (qa_8, .inl (cI, 16, .inl (fun _ => 0))), (q_10, .inr (0, [.int 16777216, .ref qa_11, .int 0])), (qa_11, .inl (cI, 16, .inl (fun _ => 0)))] := hD
  refine W.widen (k := 8) (n := 76) (Nat.le_of_ble_eq_true rfl) (Nat.le_of_ble_eq_true rfl) ?_
  refine va_putF (D := (dC, dI)) (ci := 9) (v := .ref q_10) (ty := (.object "FamilyKernel$Row")) (C := R_Fam) (T := T_Fam) (N := 18) hx hb hT in_Fam ty_Fam tyo_Fam nm_Fam hown hK hP hD hS 0 rfl rfl 8 (by decide) (hT _ vt_158) (fun _ h9 => h9) rfl hin rfl (by decide +kernel) rfl rfl (Nat.le_of_ble_eq_true rfl) d_Fam_init_88 (fun H locs hP hD hS => ?_)
  have hP : va_P (dC, dI) classes [(h0, .inr (9, [.ref p1, .ref p2, .ref p3, .ref p4, .ref p5, .ref q_1, .ref q_4, .ref q_7, .ref q_10, .null, .int 0, .int 0, .int 0, .int 0, .int 0, .int 0, .int 0, .int 0])), (q_1, .inr (0, [.int 16777216, .ref qa_2, .int 0])), (qa_2, .inl (cI, 16, .inl (fun _ => 0))), (q_4, .inr (0, [.int 16777216, .ref qa_5, .int 0])), (qa_5, .inl (cI, 16, .inl (fun _ => 0))), (q_7, .inr (0, [.int 16777216, .ref qa_8, .int 0])), (qa_8, .inl (cI, 16, .inl (fun _ => 0))), (q_10, .inr (0, [.int 16777216, .ref qa_11, .int 0])), (qa_11, .inl (cI, 16, .inl (fun _ => 0)))] H := hP
  have hD : va_D A [(h0, .inr (9, [.ref p1, .ref p2, .ref p3, .ref p4, .ref p5, .ref q_1, .ref q_4, .ref q_7, .ref q_10, .null, .int 0, .int 0, .int 0, .int 0, .int 0, .int 0, .int 0, .int 0])), (q_1, .inr (0, [.int 16777216, .ref qa_2, .int 0])), (qa_2, .inl (cI, 16, .inl (fun _ => 0))), (q_4, .inr (0, [.int 16777216, .ref qa_5, .int 0])), (qa_5, .inl (cI, 16, .inl (fun _ => 0))), (q_7, .inr (0, [.int 16777216, .ref qa_8, .int 0])), (qa_8, .inl (cI, 16, .inl (fun _ => 0))), (q_10, .inr (0, [.int 16777216, .ref qa_11, .int 0])), (qa_11, .inl (cI, 16, .inl (fun _ => 0)))] := hD
  refine lv_aload_n hx hb d_Fam_init_91 rfl (lv_at hl 0 rfl) ?_
  refine va_new (ci := 0) (fs := [.int 0, .null, .int 0]) (C := R_Row) (T := T_Row) (N := 3) hx hb hT in_Row ty_Row tyo_Row hown (hT _ vt_152) (hT _ vt_5) (hT _ vt_4) hK hP hD hS hA rfl df_Row (Nat.le_of_ble_eq_true rfl) (Nat.le_of_ble_eq_true rfl) d_Fam_init_92 (fun q_13 H hP hD hS => ?_)
  have hP : va_P (dC, dI) classes [(h0, .inr (9, [.ref p1, .ref p2, .ref p3, .ref p4, .ref p5, .ref q_1, .ref q_4, .ref q_7, .ref q_10, .null, .int 0, .int 0, .int 0, .int 0, .int 0, .int 0, .int 0, .int 0])), (q_1, .inr (0, [.int 16777216, .ref qa_2, .int 0])), (qa_2, .inl (cI, 16, .inl (fun _ => 0))), (q_4, .inr (0, [.int 16777216, .ref qa_5, .int 0])), (qa_5, .inl (cI, 16, .inl (fun _ => 0))), (q_7, .inr (0, [.int 16777216, .ref qa_8, .int 0])), (qa_8, .inl (cI, 16, .inl (fun _ => 0))), (q_10, .inr (0, [.int 16777216, .ref qa_11, .int 0])), (qa_11, .inl (cI, 16, .inl (fun _ => 0))), (q_13, .inr (0, [.int 0, .null, .int 0]))] H := hP
  have hD : va_D A [(h0, .inr (9, [.ref p1, .ref p2, .ref p3, .ref p4, .ref p5, .ref q_1, .ref q_4, .ref q_7, .ref q_10, .null, .int 0, .int 0, .int 0, .int 0, .int 0, .int 0, .int 0, .int 0])), (q_1, .inr (0, [.int 16777216, .ref qa_2, .int 0])), (qa_2, .inl (cI, 16, .inl (fun _ => 0))), (q_4, .inr (0, [.int 16777216, .ref qa_5, .int 0])), (qa_5, .inl (cI, 16, .inl (fun _ => 0))), (q_7, .inr (0, [.int 16777216, .ref qa_8, .int 0])), (qa_8, .inl (cI, 16, .inl (fun _ => 0))), (q_10, .inr (0, [.int 16777216, .ref qa_11, .int 0])), (qa_11, .inl (cI, 16, .inl (fun _ => 0))), (q_13, .inr (0, [.int 0, .null, .int 0]))] := hD
  refine W.widen (k := 9) (n := 79) (Nat.le_of_ble_eq_true rfl) (Nat.le_of_ble_eq_true rfl) ?_
  refine lv_dup hx hb d_Fam_init_95 rfl ?_
  refine lv_bipush (v := 16) hx hb d_Fam_init_96 (by decide) ?_
  refine lv_ldc (v := 16777216) hx hb hown (hT _ vt_153) d_Fam_init_98 ?_
  have hPc := hP.sub (ws' := [(q_13, .inr (0, [.int 0, .null, .int 0]))]) [9] rfl
  have hDc := hD.sub (ws' := [(q_13, .inr (0, [.int 0, .null, .int 0]))]) [9] (by decide) rfl
  have hKc := hK.sub (tys' := [(cI, .int)]) [0] rfl
  have hFc := va_free (wc := [(q_13, .inr (0, [.int 0, .null, .int 0]))]) hD hS hA [9] rfl
  refine va_callv (va_runI (As := [.int 16, .int 16777216]) (rest := [.ref q_13, .ref h0]) ⟨hx, hb, hml, hown, hT⟩ (c_Row_init l dC dI H.size q_13 16 cI 16 16777216 (by decide) (by decide) (by decide) (by decide)) (cwI 2 hT (gI vt_9) rfl rfl rfl (hT _ vt_4) (hT _ vt_154) (hT _ vt_8) rfl (by decide +kernel) ⟨Nat.le_of_ble_eq_true rfl, Nat.le_of_ble_eq_true rfl⟩) ⟨Pw_blind, Pw_of hPc hKc hDc⟩ rfl rfl hl.1 rfl (lv_room (Nat.le_of_ble_eq_true rfl)) d_Fam_init_100 ⟨Nat.le_of_ble_eq_true rfl, Nat.le_of_ble_eq_true rfl⟩) hS (fun q _ h => hFc q h) hFc (fun u t H1 locs ht hvm hw hB hz1 hk1 hS => ?_)
  obtain ⟨qa_14, hP1, hK1, hD1⟩ := hB
  rw [ht] at hP1
  have hK1 := va_K.moved hvm.symm hK1
  obtain ⟨hP, hD⟩ := va_join (wr := [(h0, .inr (9, [.ref p1, .ref p2, .ref p3, .ref p4, .ref p5, .ref q_1, .ref q_4, .ref q_7, .ref q_10, .null, .int 0, .int 0, .int 0, .int 0, .int 0, .int 0, .int 0, .int 0])), (q_1, .inr (0, [.int 16777216, .ref qa_2, .int 0])), (qa_2, .inl (cI, 16, .inl (fun _ => 0))), (q_4, .inr (0, [.int 16777216, .ref qa_5, .int 0])), (qa_5, .inl (cI, 16, .inl (fun _ => 0))), (q_7, .inr (0, [.int 16777216, .ref qa_8, .int 0])), (qa_8, .inl (cI, 16, .inl (fun _ => 0))), (q_10, .inr (0, [.int 16777216, .ref qa_11, .int 0])), (qa_11, .inl (cI, 16, .inl (fun _ => 0)))]) (w1 := [(q_13, .inr (0, [.int 16777216, .ref qa_14, .int 0])), (qa_14, .inl (cI, 16, .inl (fun _ => 0)))]) hP hD [9] [0, 1, 2, 3, 4, 5, 6, 7, 8] rfl rfl (by decide) (by decide) hk1 hFc hP1 hD1
  generalize H1 = H at hP hS ⊢
  have hP : va_P (dC, dI) classes [(h0, .inr (9, [.ref p1, .ref p2, .ref p3, .ref p4, .ref p5, .ref q_1, .ref q_4, .ref q_7, .ref q_10, .null, .int 0, .int 0, .int 0, .int 0, .int 0, .int 0, .int 0, .int 0])), (q_1, .inr (0, [.int 16777216, .ref qa_2, .int 0])), (qa_2, .inl (cI, 16, .inl (fun _ => 0))), (q_4, .inr (0, [.int 16777216, .ref qa_5, .int 0])), (qa_5, .inl (cI, 16, .inl (fun _ => 0))), (q_7, .inr (0, [.int 16777216, .ref qa_8, .int 0])), (qa_8, .inl (cI, 16, .inl (fun _ => 0))), (q_10, .inr (0, [.int 16777216, .ref qa_11, .int 0])), (qa_11, .inl (cI, 16, .inl (fun _ => 0))), (q_13, .inr (0, [.int 16777216, .ref qa_14, .int 0])), (qa_14, .inl (cI, 16, .inl (fun _ => 0)))] H := hP
  have hD : va_D A [(h0, .inr (9, [.ref p1, .ref p2, .ref p3, .ref p4, .ref p5, .ref q_1, .ref q_4, .ref q_7, .ref q_10, .null, .int 0, .int 0, .int 0, .int 0, .int 0, .int 0, .int 0, .int 0])), (q_1, .inr (0, [.int 16777216, .ref qa_2, .int 0])), (qa_2, .inl (cI, 16, .inl (fun _ => 0))), (q_4, .inr (0, [.int 16777216, .ref qa_5, .int 0])), (qa_5, .inl (cI, 16, .inl (fun _ => 0))), (q_7, .inr (0, [.int 16777216, .ref qa_8, .int 0])), (qa_8, .inl (cI, 16, .inl (fun _ => 0))), (q_10, .inr (0, [.int 16777216, .ref qa_11, .int 0])), (qa_11, .inl (cI, 16, .inl (fun _ => 0))), (q_13, .inr (0, [.int 16777216, .ref qa_14, .int 0])), (qa_14, .inl (cI, 16, .inl (fun _ => 0)))] := hD
  refine W.widen (k := 10) (n := 95) (Nat.le_of_ble_eq_true rfl) (Nat.le_of_ble_eq_true rfl) ?_
  refine va_putF (D := (dC, dI)) (ci := 9) (v := .ref q_13) (ty := (.object "FamilyKernel$Row")) (C := R_Fam) (T := T_Fam) (N := 18) hx hb hT in_Fam ty_Fam tyo_Fam nm_Fam hown hK hP hD hS 0 rfl rfl 9 (by decide) (hT _ vt_159) (fun _ h9 => h9) rfl hin rfl (by decide +kernel) rfl rfl (Nat.le_of_ble_eq_true rfl) d_Fam_init_103 (fun H locs hP hD hS => ?_)
  have hP : va_P (dC, dI) classes [(h0, .inr (9, [.ref p1, .ref p2, .ref p3, .ref p4, .ref p5, .ref q_1, .ref q_4, .ref q_7, .ref q_10, .ref q_13, .int 0, .int 0, .int 0, .int 0, .int 0, .int 0, .int 0, .int 0])), (q_1, .inr (0, [.int 16777216, .ref qa_2, .int 0])), (qa_2, .inl (cI, 16, .inl (fun _ => 0))), (q_4, .inr (0, [.int 16777216, .ref qa_5, .int 0])), (qa_5, .inl (cI, 16, .inl (fun _ => 0))), (q_7, .inr (0, [.int 16777216, .ref qa_8, .int 0])), (qa_8, .inl (cI, 16, .inl (fun _ => 0))), (q_10, .inr (0, [.int 16777216, .ref qa_11, .int 0])), (qa_11, .inl (cI, 16, .inl (fun _ => 0))), (q_13, .inr (0, [.int 16777216, .ref qa_14, .int 0])), (qa_14, .inl (cI, 16, .inl (fun _ => 0)))] H := hP
  have hD : va_D A [(h0, .inr (9, [.ref p1, .ref p2, .ref p3, .ref p4, .ref p5, .ref q_1, .ref q_4, .ref q_7, .ref q_10, .ref q_13, .int 0, .int 0, .int 0, .int 0, .int 0, .int 0, .int 0, .int 0])), (q_1, .inr (0, [.int 16777216, .ref qa_2, .int 0])), (qa_2, .inl (cI, 16, .inl (fun _ => 0))), (q_4, .inr (0, [.int 16777216, .ref qa_5, .int 0])), (qa_5, .inl (cI, 16, .inl (fun _ => 0))), (q_7, .inr (0, [.int 16777216, .ref qa_8, .int 0])), (qa_8, .inl (cI, 16, .inl (fun _ => 0))), (q_10, .inr (0, [.int 16777216, .ref qa_11, .int 0])), (qa_11, .inl (cI, 16, .inl (fun _ => 0))), (q_13, .inr (0, [.int 16777216, .ref qa_14, .int 0])), (qa_14, .inl (cI, 16, .inl (fun _ => 0)))] := hD
  refine W.widen (k := 10) (n := 95) (Nat.le_of_ble_eq_true rfl) (Nat.le_of_ble_eq_true rfl) ?_
  have hP9 := hP.sub (ws' := [(h0, .inr (9, [.ref p1, .ref p2, .ref p3, .ref p4, .ref p5, .ref q_1, .ref q_4, .ref q_7, .ref q_10, .ref q_13, .int 0, .int 0, .int 0, .int 0, .int 0, .int 0, .int 0, .int 0])), (q_1, .inr (0, [.int 16777216, .ref qa_2, .int 0])), (qa_2, .inl (cI, 16, .inl (fun _ => 0))), (q_4, .inr (0, [.int 16777216, .ref qa_5, .int 0])), (qa_5, .inl (cI, 16, .inl (fun _ => 0))), (q_7, .inr (0, [.int 16777216, .ref qa_8, .int 0])), (qa_8, .inl (cI, 16, .inl (fun _ => 0))), (q_10, .inr (0, [.int 16777216, .ref qa_11, .int 0])), (qa_11, .inl (cI, 16, .inl (fun _ => 0))), (q_13, .inr (0, [.int 16777216, .ref qa_14, .int 0])), (qa_14, .inl (cI, 16, .inl (fun _ => 0)))]) [0, 1, 2, 3, 4, 5, 6, 7, 8, 9, 10] rfl
  have hD9 := hD.sub (ws' := [(h0, .inr (9, [.ref p1, .ref p2, .ref p3, .ref p4, .ref p5, .ref q_1, .ref q_4, .ref q_7, .ref q_10, .ref q_13, .int 0, .int 0, .int 0, .int 0, .int 0, .int 0, .int 0, .int 0])), (q_1, .inr (0, [.int 16777216, .ref qa_2, .int 0])), (qa_2, .inl (cI, 16, .inl (fun _ => 0))), (q_4, .inr (0, [.int 16777216, .ref qa_5, .int 0])), (qa_5, .inl (cI, 16, .inl (fun _ => 0))), (q_7, .inr (0, [.int 16777216, .ref qa_8, .int 0])), (qa_8, .inl (cI, 16, .inl (fun _ => 0))), (q_10, .inr (0, [.int 16777216, .ref qa_11, .int 0])), (qa_11, .inl (cI, 16, .inl (fun _ => 0))), (q_13, .inr (0, [.int 16777216, .ref qa_14, .int 0])), (qa_14, .inl (cI, 16, .inl (fun _ => 0)))]) [0, 1, 2, 3, 4, 5, 6, 7, 8, 9, 10] (by decide) rfl
  have hK9 := hK.sub (tys' := [(cI, .int)]) [0] rfl
  exact W.vret hx hb hr (fun t ht hW => ⟨⟨(), rfl, trivial, q_1, qa_2, q_4, qa_5, q_7, qa_8, q_10, qa_11, q_13, qa_14, by rw [ht]; exact hP9, va_K.moved hW.alike hK9, hD9⟩, hS.F ht⟩) hS.2.2 d_Fam_init_106
set_option maxHeartbeats 4000000 in
set_option maxRecDepth 100000 in
/-- Pri(..) -/
theorem c_Pri_init (l : Launch) (dC : Nat → ClassId) (dI : Nat → Nat → Nat) (sz : Nat) (h0 p1 p2 p3 : Nat) (cI : ClassId) : Met l y_Pri_init w_Pri_init ({ frames := 20, cells := 2, slots := 99, locals := 600 }) (Pw dC dI [.ref h0, .ref p1, .ref p2, .ref p3] sz [(h0, .inr (10, [.null, .null, .null, .null]))] [(cI, .int)]) (va_Qv (fun _ : Unit => True) (fun _ t => ∃ (r_todo a_todo : Nat), va_P (dC, dI) classes [(h0, .inr (10, [.ref p1, .ref p2, .ref p3, .ref r_todo])), (r_todo, .inr (0, [.int 16777216, .ref a_todo, .int 0])), (a_todo, .inl (cI, 96, .inl (fun _ => 0)))] t.heap ∧ va_K (dC, dI) classes [(cI, .int)] t ∧ va_D (va_A [(h0, .inr (10, [.null, .null, .null, .null]))] sz) [(h0, .inr (10, [.ref p1, .ref p2, .ref p3, .ref r_todo])), (r_todo, .inr (0, [.int 16777216, .ref a_todo, .int 0])), (a_todo, .inl (cI, 96, .inl (fun _ => 0)))]) (va_A [(h0, .inr (10, [.null, .null, .null, .null]))] sz)) 2 99 (va_A [(h0, .inr (10, [.null, .null, .null, .null]))] sz) := by
  refine Met.ofW (cc := b_Pri_init) (maxL := 4) (ret := none) (by decide) rfl ?_
  intro p e s m args below meth c s₁ B hml hv
  obtain ⟨rfl, hsz, hP, hK, hD0⟩ := hv
  have hx := B.exec
  have hb := B.bytes
  have hr := B.returns
  have hT : ∀ w ∈ vT, w.before _ s = true := fun w h => atoms_spec (ws := w_Pri_init) B.pre w (List.mem_cons_of_mem _ h)
  have hown : s.vm.findClass R_Pri = some m.cls := findClass_of_methodNamed B.named
  have hlocks := B.notSynchronized
  have hin : meth.name = "<init>" := (name_of_methodNamed B.named B.method).1
  subst hsz
  have hD := hD0.self (sz := s.heap.size)
  generalize hAe : va_A [(h0, .inr (10, [.null, .null, .null, .null]))] s.heap.size = A at hD ⊢
  have hA : ∀ q : Nat, s.heap.size ≤ q → A q := fun q h => by rw [← hAe]; exact Or.inr h
  have hS : va_S A s.heap s.heap [] := va_S.rf
  have hP : va_P (dC, dI) classes [(h0, .inr (10, [.null, .null, .null, .null]))] s.heap := hP
  have hl := lv_entry ([.ref h0, .ref p1, .ref p2, .ref p3]) (n := 4) (Nat.le_of_ble_eq_true rfl)
  rw [lg_entry_eq]
  generalize (lg_sl ([.ref h0, .ref p1, .ref p2, .ref p3]) ++ List.replicate (4 - (lg_sl ([.ref h0, .ref p1, .ref p2, .ref p3])).length) Slot.unset).toArray = ls at hl ⊢
  have hl : lv_has ls 4 [(0, .ref h0), (1, .ref p1), (2, .ref p2), (3, .ref p3)] := hl
  refine lv_aload_n hx hb d_Pri_init_0 rfl (lv_at hl 0 rfl) ?_
  refine W.objInit hx hb hown (hT _ vt_160) (hT _ vt_1) (hT _ vt_2) rfl (by rw [hml]; exact hl.1) rfl d_Pri_init_1 (Nat.le_of_ble_eq_true rfl) (Nat.le_of_ble_eq_true rfl) ?_
  refine W.eq (g2 := F0 m 4 ls []) rfl ?_
  refine lv_aload_n hx hb d_Pri_init_4 rfl (lv_at hl 0 rfl) ?_
  refine lv_aload_n hx hb d_Pri_init_5 rfl (lv_at hl 1 rfl) ?_
  refine va_putF (D := (dC, dI)) (ci := 10) (v := .ref p1) (ty := (.object "FamilyKernel$Row")) (C := R_Pri) (T := T_Pri) (N := 4) hx hb hT in_Pri ty_Pri tyo_Pri nm_Pri hown hK hP hD hS 0 rfl rfl 0 (by decide) (hT _ vt_161) (fun _ h9 => h9) rfl hin rfl (by decide +kernel) rfl rfl (Nat.le_of_ble_eq_true rfl) d_Pri_init_6 (fun H locs hP hD hS => ?_)
  have hP : va_P (dC, dI) classes [(h0, .inr (10, [.ref p1, .null, .null, .null]))] H := hP
  have hD : va_D A [(h0, .inr (10, [.ref p1, .null, .null, .null]))] := hD
  refine lv_aload_n hx hb d_Pri_init_9 rfl (lv_at hl 0 rfl) ?_
  refine lv_aload_n hx hb d_Pri_init_10 rfl (lv_at hl 2 rfl) ?_
  refine va_putF (D := (dC, dI)) (ci := 10) (v := .ref p2) (ty := (.object "FamilyKernel$Terms")) (C := R_Pri) (T := T_Pri) (N := 4) hx hb hT in_Pri ty_Pri tyo_Pri nm_Pri hown hK hP hD hS 0 rfl rfl 1 (by decide) (hT _ vt_162) (fun _ h9 => h9) rfl hin rfl (by decide +kernel) rfl rfl (Nat.le_of_ble_eq_true rfl) d_Pri_init_11 (fun H locs hP hD hS => ?_)
  have hP : va_P (dC, dI) classes [(h0, .inr (10, [.ref p1, .ref p2, .null, .null]))] H := hP
  have hD : va_D A [(h0, .inr (10, [.ref p1, .ref p2, .null, .null]))] := hD
  refine lv_aload_n hx hb d_Pri_init_14 rfl (lv_at hl 0 rfl) ?_
  refine lv_aload_n hx hb d_Pri_init_15 rfl (lv_at hl 3 rfl) ?_
  refine va_putF (D := (dC, dI)) (ci := 10) (v := .ref p3) (ty := (.object "FamilyKernel$Environment")) (C := R_Pri) (T := T_Pri) (N := 4) hx hb hT in_Pri ty_Pri tyo_Pri nm_Pri hown hK hP hD hS 0 rfl rfl 2 (by decide) (hT _ vt_163) (fun _ h9 => h9) rfl hin rfl (by decide +kernel) rfl rfl (Nat.le_of_ble_eq_true rfl) d_Pri_init_16 (fun H locs hP hD hS => ?_)
  have hP : va_P (dC, dI) classes [(h0, .inr (10, [.ref p1, .ref p2, .ref p3, .null]))] H := hP
  have hD : va_D A [(h0, .inr (10, [.ref p1, .ref p2, .ref p3, .null]))] := hD
  refine lv_aload_n hx hb d_Pri_init_19 rfl (lv_at hl 0 rfl) ?_
  refine va_new (ci := 0) (fs := [.int 0, .null, .int 0]) (C := R_Row) (T := T_Row) (N := 3) hx hb hT in_Row ty_Row tyo_Row hown (hT _ vt_164) (hT _ vt_5) (hT _ vt_4) hK hP hD hS hA rfl df_Row (Nat.le_of_ble_eq_true rfl) (Nat.le_of_ble_eq_true rfl) d_Pri_init_20 (fun q_1 H hP hD hS => ?_)
  have hP : va_P (dC, dI) classes [(h0, .inr (10, [.ref p1, .ref p2, .ref p3, .null])), (q_1, .inr (0, [.int 0, .null, .int 0]))] H := hP
  have hD : va_D A [(h0, .inr (10, [.ref p1, .ref p2, .ref p3, .null])), (q_1, .inr (0, [.int 0, .null, .int 0]))] := hD
  refine W.widen (k := 1) (n := 3) (Nat.le_of_ble_eq_true rfl) (Nat.le_of_ble_eq_true rfl) ?_
  refine lv_dup hx hb d_Pri_init_23 rfl ?_
  refine lv_bipush (v := 96) hx hb d_Pri_init_24 (by decide) ?_
  refine lv_ldc (v := 16777216) hx hb hown (hT _ vt_165) d_Pri_init_26 ?_
  have hPc := hP.sub (ws' := [(q_1, .inr (0, [.int 0, .null, .int 0]))]) [1] rfl
  have hDc := hD.sub (ws' := [(q_1, .inr (0, [.int 0, .null, .int 0]))]) [1] (by decide) rfl
  have hKc := hK.sub (tys' := [(cI, .int)]) [0] rfl
  have hFc := va_free (wc := [(q_1, .inr (0, [.int 0, .null, .int 0]))]) hD hS hA [1] rfl
  refine va_callv (va_runI (As := [.int 96, .int 16777216]) (rest := [.ref q_1, .ref h0]) ⟨hx, hb, hml, hown, hT⟩ (c_Row_init l dC dI H.size q_1 96 cI 96 16777216 (by decide) (by decide) (by decide) (by decide)) (cwI 2 hT (gI vt_9) rfl rfl rfl (hT _ vt_4) (hT _ vt_166) (hT _ vt_8) rfl (by decide +kernel) ⟨Nat.le_of_ble_eq_true rfl, Nat.le_of_ble_eq_true rfl⟩) ⟨Pw_blind, Pw_of hPc hKc hDc⟩ rfl rfl hl.1 rfl (lv_room (Nat.le_of_ble_eq_true rfl)) d_Pri_init_28 ⟨Nat.le_of_ble_eq_true rfl, Nat.le_of_ble_eq_true rfl⟩) hS (fun q _ h => hFc q h) hFc (fun u t H1 locs ht hvm hw hB hz1 hk1 hS => ?_)
  obtain ⟨qa_2, hP1, hK1, hD1⟩ := hB
  rw [ht] at hP1
  have hK1 := va_K.moved hvm.symm hK1
  obtain ⟨hP, hD⟩ := va_join (wr := [(h0, .inr (10, [.ref p1, .ref p2, .ref p3, .null]))]) (w1 := [(q_1, .inr (0, [.int 16777216, .ref qa_2, .int 0])), (qa_2, .inl (cI, 96, .inl (fun _ => 0)))]) hP hD [1] [0] rfl rfl (by decide) (by decide) hk1 hFc hP1 hD1
  generalize H1 = H at hP hS ⊢
  have hP : va_P (dC, dI) classes [(h0, .inr (10, [.ref p1, .ref p2, .ref p3, .null])), (q_1, .inr (0, [.int 16777216, .ref qa_2, .int 0])), (qa_2, .inl (cI, 96, .inl (fun _ => 0)))] H := hP
  have hD : va_D A [(h0, .inr (10, [.ref p1, .ref p2, .ref p3, .null])), (q_1, .inr (0, [.int 16777216, .ref qa_2, .int 0])), (qa_2, .inl (cI, 96, .inl (fun _ => 0)))] := hD
  refine W.widen (k := 2) (n := 99) (Nat.le_of_ble_eq_true rfl) (Nat.le_of_ble_eq_true rfl) ?_
  refine va_putF (D := (dC, dI)) (ci := 10) (v := .ref q_1) (ty := (.object "FamilyKernel$Row")) (C := R_Pri) (T := T_Pri) (N := 4) hx hb hT in_Pri ty_Pri tyo_Pri nm_Pri hown hK hP hD hS 0 rfl rfl 3 (by decide) (hT _ vt_167) (fun _ h9 => h9) rfl hin rfl (by decide +kernel) rfl rfl (Nat.le_of_ble_eq_true rfl) d_Pri_init_31 (fun H locs hP hD hS => ?_)
  have hP : va_P (dC, dI) classes [(h0, .inr (10, [.ref p1, .ref p2, .ref p3, .ref q_1])), (q_1, .inr (0, [.int 16777216, .ref qa_2, .int 0])), (qa_2, .inl (cI, 96, .inl (fun _ => 0)))] H := hP
  have hD : va_D A [(h0, .inr (10, [.ref p1, .ref p2, .ref p3, .ref q_1])), (q_1, .inr (0, [.int 16777216, .ref qa_2, .int 0])), (qa_2, .inl (cI, 96, .inl (fun _ => 0)))] := hD
  refine W.widen (k := 2) (n := 99) (Nat.le_of_ble_eq_true rfl) (Nat.le_of_ble_eq_true rfl) ?_
  have hP9 := hP.sub (ws' := [(h0, .inr (10, [.ref p1, .ref p2, .ref p3, .ref q_1])), (q_1, .inr (0, [.int 16777216, .ref qa_2, .int 0])), (qa_2, .inl (cI, 96, .inl (fun _ => 0)))]) [0, 1, 2] rfl
  have hD9 := hD.sub (ws' := [(h0, .inr (10, [.ref p1, .ref p2, .ref p3, .ref q_1])), (q_1, .inr (0, [.int 16777216, .ref qa_2, .int 0])), (qa_2, .inl (cI, 96, .inl (fun _ => 0)))]) [0, 1, 2] (by decide) rfl
  have hK9 := hK.sub (tys' := [(cI, .int)]) [0] rfl
  exact W.vret hx hb hr (fun t ht hW => ⟨⟨(), rfl, trivial, q_1, qa_2, by rw [ht]; exact hP9, va_K.moved hW.alike hK9, hD9⟩, hS.F ht⟩) hS.2.2 d_Pri_init_34
