set_option maxHeartbeats 4000000 in
set_option maxRecDepth 100000 in
/-- Meter(..) -/
theorem c_Meter_init (l : Launch) (dC : Nat → ClassId) (dI : Nat → Nat → Nat) (sz : Nat) (h0 : Nat) : Met l y_Meter_init w_Meter_init ({ frames := 20, cells := 0, slots := 0, locals := 600 }) (Pw dC dI [.ref h0] sz [(h0, .inr (1, [.int 0, .int 0, .int 0, .int 0]))] []) (va_Qv (fun _ : Unit => True) (fun _ t => va_P (dC, dI) classes [(h0, .inr (1, [.int 0, .int 0, .int 0, .int 0]))] t.heap ∧ va_K (dC, dI) classes [] t ∧ va_D (va_A [(h0, .inr (1, [.int 0, .int 0, .int 0, .int 0]))] sz) [(h0, .inr (1, [.int 0, .int 0, .int 0, .int 0]))]) (va_A [(h0, .inr (1, [.int 0, .int 0, .int 0, .int 0]))] sz)) 0 0 (va_A [(h0, .inr (1, [.int 0, .int 0, .int 0, .int 0]))] sz) := by
  refine Met.ofW (cc := b_Meter_init) (maxL := 1) (ret := none) (by decide) rfl ?_
  intro p e s m args below meth c s₁ B hml hv
  obtain ⟨rfl, hsz, hP, hK, hD0⟩ := hv
  have hx := B.exec
  have hb := B.bytes
  have hr := B.returns
  have hT : ∀ w ∈ vT, w.before _ s = true := fun w h => atoms_spec (ws := w_Meter_init) B.pre w (List.mem_cons_of_mem _ h)
  have hown : s.vm.findClass R_Meter = some m.cls := findClass_of_methodNamed B.named
  have hlocks := B.notSynchronized
  have hin : meth.name = "<init>" := (name_of_methodNamed B.named B.method).1
  subst hsz
  have hD := hD0.self (sz := s.heap.size)
  generalize hAe : va_A [(h0, .inr (1, [.int 0, .int 0, .int 0, .int 0]))] s.heap.size = A at hD ⊢
  have hA : ∀ q : Nat, s.heap.size ≤ q → A q := fun q h => by rw [← hAe]; exact Or.inr h
  have hS : va_S A s.heap s.heap [] := va_S.rf
  have hP : va_P (dC, dI) classes [(h0, .inr (1, [.int 0, .int 0, .int 0, .int 0]))] s.heap := hP
  have hl := lv_entry ([.ref h0]) (n := 1) (Nat.le_of_ble_eq_true rfl)
  rw [lg_entry_eq]
  generalize (lg_sl ([.ref h0]) ++ List.replicate (1 - (lg_sl ([.ref h0])).length) Slot.unset).toArray = ls at hl ⊢
  have hl : lv_has ls 1 [(0, .ref h0)] := hl
  refine lv_aload_n hx hb d_Meter_init_0 rfl (lv_at hl 0 rfl) ?_
  refine W.objInit hx hb hown (hT _ vt_7) (hT _ vt_1) (hT _ vt_2) rfl (by rw [hml]; exact hl.1) rfl d_Meter_init_1 (Nat.le_of_ble_eq_true rfl) (Nat.le_of_ble_eq_true rfl) ?_
  refine W.eq (g2 := F0 m 4 ls []) rfl ?_
  refine W.widen (k := 0) (n := 0) (Nat.le_of_ble_eq_true rfl) (Nat.le_of_ble_eq_true rfl) ?_
  have hP9 := hP.sub (ws' := [(h0, .inr (1, [.int 0, .int 0, .int 0, .int 0]))]) [0] rfl
  have hD9 := hD.sub (ws' := [(h0, .inr (1, [.int 0, .int 0, .int 0, .int 0]))]) [0] (by decide) rfl
  have hK9 := hK.sub (tys' := []) [] rfl
  exact W.vret hx hb hr (fun t ht hW => ⟨⟨(), rfl, trivial, by rw [ht]; exact hP9, va_K.moved hW.alike hK9, hD9⟩, hS.F ht⟩) hS.2.2 d_Meter_init_4
set_option maxHeartbeats 4000000 in
set_option maxRecDepth 100000 in
/-- Env(..) -/
theorem c_Env_init (l : Launch) (dC : Nat → ClassId) (dI : Nat → Nat → Nat) (sz : Nat) (h0 : Nat) : Met l y_Env_init w_Env_init ({ frames := 20, cells := 4, slots := 166, locals := 600 }) (Pw dC dI [.ref h0] sz [(h0, .inr (3, [.null, .null, .int 0]))] []) (va_Qv (fun _ : Unit => True) (fun _ t => ∃ (r_facts : Nat) (a_facts : Nat) (r_names : Nat), va_P (dC, dI) classes [(h0, .inr (3, [.ref r_facts, .ref r_names, .int 0])), (r_facts, .inr (0, [.int 16777216, .ref a_facts, .int 0]))] t.heap ∧ va_K (dC, dI) classes [] t ∧ va_D (va_A [(h0, .inr (3, [.null, .null, .int 0]))] sz) [(h0, .inr (3, [.ref r_facts, .ref r_names, .int 0])), (r_facts, .inr (0, [.int 16777216, .ref a_facts, .int 0]))]) (va_A [(h0, .inr (3, [.null, .null, .int 0]))] sz)) 4 166 (va_A [(h0, .inr (3, [.null, .null, .int 0]))] sz) := by
  refine Met.ofW (cc := b_Env_init) (maxL := 1) (ret := none) (by decide) rfl ?_
  intro p e s m args below meth c s₁ B hml hv
  obtain ⟨rfl, hsz, hP, hK, hD0⟩ := hv
  have hx := B.exec
  have hb := B.bytes
  have hr := B.returns
  have hT : ∀ w ∈ vT, w.before _ s = true := fun w h => atoms_spec (ws := w_Env_init) B.pre w (List.mem_cons_of_mem _ h)
  have hown : s.vm.findClass R_Env = some m.cls := findClass_of_methodNamed B.named
  have hlocks := B.notSynchronized
  have hin : meth.name = "<init>" := (name_of_methodNamed B.named B.method).1
  subst hsz
  have hD := hD0.self (sz := s.heap.size)
  generalize hAe : va_A [(h0, .inr (3, [.null, .null, .int 0]))] s.heap.size = A at hD ⊢
  have hA : ∀ q : Nat, s.heap.size ≤ q → A q := fun q h => by rw [← hAe]; exact Or.inr h
  have hS : va_S A s.heap s.heap [] := va_S.rf
  have hP : va_P (dC, dI) classes [(h0, .inr (3, [.null, .null, .int 0]))] s.heap := hP
  have hl := lv_entry ([.ref h0]) (n := 1) (Nat.le_of_ble_eq_true rfl)
  rw [lg_entry_eq]
  generalize (lg_sl ([.ref h0]) ++ List.replicate (1 - (lg_sl ([.ref h0])).length) Slot.unset).toArray = ls at hl ⊢
  have hl : lv_has ls 1 [(0, .ref h0)] := hl
  refine lv_aload_n hx hb d_Env_init_0 rfl (lv_at hl 0 rfl) ?_
  refine W.objInit hx hb hown (hT _ vt_8) (hT _ vt_1) (hT _ vt_2) rfl (by rw [hml]; exact hl.1) rfl d_Env_init_1 (Nat.le_of_ble_eq_true rfl) (Nat.le_of_ble_eq_true rfl) ?_
  refine W.eq (g2 := F0 m 4 ls []) rfl ?_
  refine lv_aload_n hx hb d_Env_init_4 rfl (lv_at hl 0 rfl) ?_
  refine va_new (ci := 0) (fs := [.int 0, .null, .int 0]) (C := R_Row) (T := T_Row) (N := 3) hx hb hT in_Row ty_Row tyo_Row hown (hT _ vt_9) (hT _ vt_10) (hT _ vt_11) hK hP hD hS hA rfl df_Row (Nat.le_of_ble_eq_true rfl) (Nat.le_of_ble_eq_true rfl) d_Env_init_5 (fun q_1 H hP hD hS => ?_)
  have hP : va_P (dC, dI) classes [(h0, .inr (3, [.null, .null, .int 0])), (q_1, .inr (0, [.int 0, .null, .int 0]))] H := hP
  have hD : va_D A [(h0, .inr (3, [.null, .null, .int 0])), (q_1, .inr (0, [.int 0, .null, .int 0]))] := hD
  refine W.widen (k := 1) (n := 3) (Nat.le_of_ble_eq_true rfl) (Nat.le_of_ble_eq_true rfl) ?_
  refine lv_dup hx hb d_Env_init_8 rfl ?_
  refine lv_bipush (v := 96) hx hb d_Env_init_9 (by decide) ?_
  refine lv_ldc (v := 16777216) hx hb hown (hT _ vt_12) d_Env_init_11 ?_
  have hPc := hP.sub (ws' := [(q_1, .inr (0, [.int 0, .null, .int 0]))]) [1] rfl
  have hDc := hD.sub (ws' := [(q_1, .inr (0, [.int 0, .null, .int 0]))]) [1] (by decide) rfl
  have hKc := hK.sub (tys' := []) [] rfl
  have hFc := va_free (wc := [(q_1, .inr (0, [.int 0, .null, .int 0]))]) hD hS hA [1] rfl
  refine va_callv (va_runI (As := [.int 96, .int 16777216]) (rest := [.ref q_1, .ref h0]) ⟨hx, hb, hml, hown, hT⟩ (c_Row_init l dC dI H.size q_1 96 96 16777216 (by decide) (by decide) (by decide) (by decide)) (cwI 2 hT (gI vt_13) rfl rfl rfl (hT _ vt_11) (hT _ vt_14) (hT _ vt_15) rfl (by decide +kernel) ⟨Nat.le_of_ble_eq_true rfl, Nat.le_of_ble_eq_true rfl⟩) ⟨Pw_blind, Pw_of hPc hKc hDc⟩ rfl rfl hl.1 rfl (lv_room (Nat.le_of_ble_eq_true rfl)) d_Env_init_13 ⟨Nat.le_of_ble_eq_true rfl, Nat.le_of_ble_eq_true rfl⟩) hS (fun q _ h => hFc q h) hFc (fun u t H1 locs ht hvm hw hB hz1 hk1 hS => ?_)
  obtain ⟨qa_2, cR_3, hP1, hK1, hD1⟩ := hB
  rw [ht] at hP1
  have hK1 := va_K.moved hvm.symm hK1
  obtain ⟨hP, hD⟩ := va_join (wr := [(h0, .inr (3, [.null, .null, .int 0]))]) (w1 := [(q_1, .inr (0, [.int 16777216, .ref qa_2, .int 0])), (qa_2, .inl (cR_3, 96, .inl (fun _ => 0)))]) hP hD [1] [0] rfl rfl (by decide) (by decide) hk1 hFc hP1 hD1
  have hK := hK.app hK1
  have hK : va_K (dC, dI) classes [(cR_3, .int)] s := hK
  generalize H1 = H at hP hS ⊢
  have hP : va_P (dC, dI) classes [(h0, .inr (3, [.null, .null, .int 0])), (q_1, .inr (0, [.int 16777216, .ref qa_2, .int 0])), (qa_2, .inl (cR_3, 96, .inl (fun _ => 0)))] H := hP
  have hD : va_D A [(h0, .inr (3, [.null, .null, .int 0])), (q_1, .inr (0, [.int 16777216, .ref qa_2, .int 0])), (qa_2, .inl (cR_3, 96, .inl (fun _ => 0)))] := hD
  refine W.widen (k := 2) (n := 99) (Nat.le_of_ble_eq_true rfl) (Nat.le_of_ble_eq_true rfl) ?_
  refine va_putF (D := (dC, dI)) (ci := 3) (v := .ref q_1) (ty := (.object "FamilyKernel$Row")) (C := R_Env) (T := T_Env) (N := 3) hx hb hT in_Env ty_Env tyo_Env nm_Env hown hK hP hD hS 0 rfl rfl 0 (by decide) (hT _ vt_16) (fun _ h9 => h9) rfl hin rfl (by decide +kernel) rfl rfl (Nat.le_of_ble_eq_true rfl) d_Env_init_16 (fun H locs hP hD hS => ?_)
  have hP : va_P (dC, dI) classes [(h0, .inr (3, [.ref q_1, .null, .int 0])), (q_1, .inr (0, [.int 16777216, .ref qa_2, .int 0])), (qa_2, .inl (cR_3, 96, .inl (fun _ => 0)))] H := hP
  have hD : va_D A [(h0, .inr (3, [.ref q_1, .null, .int 0])), (q_1, .inr (0, [.int 16777216, .ref qa_2, .int 0])), (qa_2, .inl (cR_3, 96, .inl (fun _ => 0)))] := hD
  have hP := hP.sub (ws' := [(h0, .inr (3, [.ref q_1, .null, .int 0])), (q_1, .inr (0, [.int 16777216, .ref qa_2, .int 0]))]) [0, 1] rfl
  have hD := hD.sub (ws' := [(h0, .inr (3, [.ref q_1, .null, .int 0])), (q_1, .inr (0, [.int 16777216, .ref qa_2, .int 0]))]) [0, 1] (by decide) rfl
  have hK := hK.sub (tys' := []) [] rfl
  refine lv_aload_n hx hb d_Env_init_19 rfl (lv_at hl 0 rfl) ?_
  refine va_new (ci := 0) (fs := [.int 0, .null, .int 0]) (C := R_Row) (T := T_Row) (N := 3) hx hb hT in_Row ty_Row tyo_Row hown (hT _ vt_9) (hT _ vt_10) (hT _ vt_11) hK hP hD hS hA rfl df_Row (Nat.le_of_ble_eq_true rfl) (Nat.le_of_ble_eq_true rfl) d_Env_init_20 (fun q_5 H hP hD hS => ?_)
  have hP : va_P (dC, dI) classes [(h0, .inr (3, [.ref q_1, .null, .int 0])), (q_1, .inr (0, [.int 16777216, .ref qa_2, .int 0])), (q_5, .inr (0, [.int 0, .null, .int 0]))] H := hP
  have hD : va_D A [(h0, .inr (3, [.ref q_1, .null, .int 0])), (q_1, .inr (0, [.int 16777216, .ref qa_2, .int 0])), (q_5, .inr (0, [.int 0, .null, .int 0]))] := hD
  refine W.widen (k := 3) (n := 102) (Nat.le_of_ble_eq_true rfl) (Nat.le_of_ble_eq_true rfl) ?_
  refine lv_dup hx hb d_Env_init_23 rfl ?_
  refine lv_bipush (v := 64) hx hb d_Env_init_24 (by decide) ?_
  refine lv_ldc (v := 16777216) hx hb hown (hT _ vt_12) d_Env_init_26 ?_
  have hPc := hP.sub (ws' := [(q_5, .inr (0, [.int 0, .null, .int 0]))]) [2] rfl
  have hDc := hD.sub (ws' := [(q_5, .inr (0, [.int 0, .null, .int 0]))]) [2] (by decide) rfl
  have hKc := hK.sub (tys' := []) [] rfl
  have hFc := va_free (wc := [(q_5, .inr (0, [.int 0, .null, .int 0]))]) hD hS hA [2] rfl
  refine va_callv (va_runI (As := [.int 64, .int 16777216]) (rest := [.ref q_5, .ref h0]) ⟨hx, hb, hml, hown, hT⟩ (c_Row_init l dC dI H.size q_5 64 64 16777216 (by decide) (by decide) (by decide) (by decide)) (cwI 2 hT (gI vt_13) rfl rfl rfl (hT _ vt_11) (hT _ vt_14) (hT _ vt_15) rfl (by decide +kernel) ⟨Nat.le_of_ble_eq_true rfl, Nat.le_of_ble_eq_true rfl⟩) ⟨Pw_blind, Pw_of hPc hKc hDc⟩ rfl rfl hl.1 rfl (lv_room (Nat.le_of_ble_eq_true rfl)) d_Env_init_28 ⟨Nat.le_of_ble_eq_true rfl, Nat.le_of_ble_eq_true rfl⟩) hS (fun q _ h => hFc q h) hFc (fun u t H1 locs ht hvm hw hB hz1 hk1 hS => ?_)
  obtain ⟨qa_6, cR_7, hP1, hK1, hD1⟩ := hB
  rw [ht] at hP1
  have hK1 := va_K.moved hvm.symm hK1
  obtain ⟨hP, hD⟩ := va_join (wr := [(h0, .inr (3, [.ref q_1, .null, .int 0])), (q_1, .inr (0, [.int 16777216, .ref qa_2, .int 0]))]) (w1 := [(q_5, .inr (0, [.int 16777216, .ref qa_6, .int 0])), (qa_6, .inl (cR_7, 64, .inl (fun _ => 0)))]) hP hD [2] [0, 1] rfl rfl (by decide) (by decide) hk1 hFc hP1 hD1
  have hK := hK.app hK1
  have hK : va_K (dC, dI) classes [(cR_7, .int)] s := hK
  generalize H1 = H at hP hS ⊢
  have hP : va_P (dC, dI) classes [(h0, .inr (3, [.ref q_1, .null, .int 0])), (q_1, .inr (0, [.int 16777216, .ref qa_2, .int 0])), (q_5, .inr (0, [.int 16777216, .ref qa_6, .int 0])), (qa_6, .inl (cR_7, 64, .inl (fun _ => 0)))] H := hP
  have hD : va_D A [(h0, .inr (3, [.ref q_1, .null, .int 0])), (q_1, .inr (0, [.int 16777216, .ref qa_2, .int 0])), (q_5, .inr (0, [.int 16777216, .ref qa_6, .int 0])), (qa_6, .inl (cR_7, 64, .inl (fun _ => 0)))] := hD
  refine W.widen (k := 4) (n := 166) (Nat.le_of_ble_eq_true rfl) (Nat.le_of_ble_eq_true rfl) ?_
  refine va_putF (D := (dC, dI)) (ci := 3) (v := .ref q_5) (ty := (.object "FamilyKernel$Row")) (C := R_Env) (T := T_Env) (N := 3) hx hb hT in_Env ty_Env tyo_Env nm_Env hown hK hP hD hS 0 rfl rfl 1 (by decide) (hT _ vt_17) (fun _ h9 => h9) rfl hin rfl (by decide +kernel) rfl rfl (Nat.le_of_ble_eq_true rfl) d_Env_init_31 (fun H locs hP hD hS => ?_)
  have hP : va_P (dC, dI) classes [(h0, .inr (3, [.ref q_1, .ref q_5, .int 0])), (q_1, .inr (0, [.int 16777216, .ref qa_2, .int 0])), (q_5, .inr (0, [.int 16777216, .ref qa_6, .int 0])), (qa_6, .inl (cR_7, 64, .inl (fun _ => 0)))] H := hP
  have hD : va_D A [(h0, .inr (3, [.ref q_1, .ref q_5, .int 0])), (q_1, .inr (0, [.int 16777216, .ref qa_2, .int 0])), (q_5, .inr (0, [.int 16777216, .ref qa_6, .int 0])), (qa_6, .inl (cR_7, 64, .inl (fun _ => 0)))] := hD
  have hP := hP.sub (ws' := [(h0, .inr (3, [.ref q_1, .ref q_5, .int 0])), (q_1, .inr (0, [.int 16777216, .ref qa_2, .int 0]))]) [0, 1] rfl
  have hD := hD.sub (ws' := [(h0, .inr (3, [.ref q_1, .ref q_5, .int 0])), (q_1, .inr (0, [.int 16777216, .ref qa_2, .int 0]))]) [0, 1] (by decide) rfl
  have hK := hK.sub (tys' := []) [] rfl
  refine W.widen (k := 4) (n := 166) (Nat.le_of_ble_eq_true rfl) (Nat.le_of_ble_eq_true rfl) ?_
  have hP9 := hP.sub (ws' := [(h0, .inr (3, [.ref q_1, .ref q_5, .int 0])), (q_1, .inr (0, [.int 16777216, .ref qa_2, .int 0]))]) [0, 1] rfl
  have hD9 := hD.sub (ws' := [(h0, .inr (3, [.ref q_1, .ref q_5, .int 0])), (q_1, .inr (0, [.int 16777216, .ref qa_2, .int 0]))]) [0, 1] (by decide) rfl
  have hK9 := hK.sub (tys' := []) [] rfl
  exact W.vret hx hb hr (fun t ht hW => ⟨⟨(), rfl, trivial, q_1, qa_2, q_5, by rw [ht]; exact hP9, va_K.moved hW.alike hK9, hD9⟩, hS.F ht⟩) hS.2.2 d_Env_init_34
set_option maxHeartbeats 4000000 in
set_option maxRecDepth 100000 in
/-- Lex(..) -/
theorem c_Lex_init (l : Launch) (dC : Nat → ClassId) (dI : Nat → Nat → Nat) (sz : Nat) (h0 tx : Nat) : Met l y_Lex_init w_Lex_init ({ frames := 20, cells := 2, slots := 67, locals := 600 }) (Pw dC dI [.ref h0, .ref tx] sz [(h0, .inr (4, [.null, .null, .int 0, .int 0, .int 0, .int 0, .int 0]))] []) (va_Qv (fun _ : Unit => True) (fun _ t => ∃ (r_tokens : Nat) (a_tokens : Nat) (c_tokens : ClassId), va_P (dC, dI) classes [(h0, .inr (4, [.ref tx, .ref r_tokens, .int 0, .int 0, .int 0, .int 0, .int 0])), (r_tokens, .inr (0, [.int 16777216, .ref a_tokens, .int 0])), (a_tokens, .inl (c_tokens, 64, .inl (fun _ => 0)))] t.heap ∧ va_K (dC, dI) classes [(c_tokens, .int)] t ∧ va_D (va_A [(h0, .inr (4, [.null, .null, .int 0, .int 0, .int 0, .int 0, .int 0]))] sz) [(h0, .inr (4, [.ref tx, .ref r_tokens, .int 0, .int 0, .int 0, .int 0, .int 0])), (r_tokens, .inr (0, [.int 16777216, .ref a_tokens, .int 0])), (a_tokens, .inl (c_tokens, 64, .inl (fun _ => 0)))]) (va_A [(h0, .inr (4, [.null, .null, .int 0, .int 0, .int 0, .int 0, .int 0]))] sz)) 2 67 (va_A [(h0, .inr (4, [.null, .null, .int 0, .int 0, .int 0, .int 0, .int 0]))] sz) := by
  refine Met.ofW (cc := b_Lex_init) (maxL := 2) (ret := none) (by decide) rfl ?_
  intro p e s m args below meth c s₁ B hml hv
  obtain ⟨rfl, hsz, hP, hK, hD0⟩ := hv
  have hx := B.exec
  have hb := B.bytes
  have hr := B.returns
  have hT : ∀ w ∈ vT, w.before _ s = true := fun w h => atoms_spec (ws := w_Lex_init) B.pre w (List.mem_cons_of_mem _ h)
  have hown : s.vm.findClass R_Lex = some m.cls := findClass_of_methodNamed B.named
  have hlocks := B.notSynchronized
  have hin : meth.name = "<init>" := (name_of_methodNamed B.named B.method).1
  subst hsz
  have hD := hD0.self (sz := s.heap.size)
  generalize hAe : va_A [(h0, .inr (4, [.null, .null, .int 0, .int 0, .int 0, .int 0, .int 0]))] s.heap.size = A at hD ⊢
  have hA : ∀ q : Nat, s.heap.size ≤ q → A q := fun q h => by rw [← hAe]; exact Or.inr h
  have hS : va_S A s.heap s.heap [] := va_S.rf
  have hP : va_P (dC, dI) classes [(h0, .inr (4, [.null, .null, .int 0, .int 0, .int 0, .int 0, .int 0]))] s.heap := hP
  have hl := lv_entry ([.ref h0, .ref tx]) (n := 2) (Nat.le_of_ble_eq_true rfl)
  rw [lg_entry_eq]
  generalize (lg_sl ([.ref h0, .ref tx]) ++ List.replicate (2 - (lg_sl ([.ref h0, .ref tx])).length) Slot.unset).toArray = ls at hl ⊢
  have hl : lv_has ls 2 [(0, .ref h0), (1, .ref tx)] := hl
  refine lv_aload_n hx hb d_Lex_init_0 rfl (lv_at hl 0 rfl) ?_
  refine W.objInit hx hb hown (hT _ vt_18) (hT _ vt_1) (hT _ vt_2) rfl (by rw [hml]; exact hl.1) rfl d_Lex_init_1 (Nat.le_of_ble_eq_true rfl) (Nat.le_of_ble_eq_true rfl) ?_
  refine W.eq (g2 := F0 m 4 ls []) rfl ?_
  refine lv_aload_n hx hb d_Lex_init_4 rfl (lv_at hl 0 rfl) ?_
  refine lv_aload_n hx hb d_Lex_init_5 rfl (lv_at hl 1 rfl) ?_
  refine va_putF (D := (dC, dI)) (ci := 4) (v := .ref tx) (ty := (.object "FamilyKernel$Row")) (C := R_Lex) (T := T_Lex) (N := 7) hx hb hT in_Lex ty_Lex tyo_Lex nm_Lex hown hK hP hD hS 0 rfl rfl 0 (by decide) (hT _ vt_19) (fun _ h9 => h9) rfl hin rfl (by decide +kernel) rfl rfl (Nat.le_of_ble_eq_true rfl) d_Lex_init_6 (fun H locs hP hD hS => ?_)
  have hP : va_P (dC, dI) classes [(h0, .inr (4, [.ref tx, .null, .int 0, .int 0, .int 0, .int 0, .int 0]))] H := hP
  have hD : va_D A [(h0, .inr (4, [.ref tx, .null, .int 0, .int 0, .int 0, .int 0, .int 0]))] := hD
  refine lv_aload_n hx hb d_Lex_init_9 rfl (lv_at hl 0 rfl) ?_
  refine va_new (ci := 0) (fs := [.int 0, .null, .int 0]) (C := R_Row) (T := T_Row) (N := 3) hx hb hT in_Row ty_Row tyo_Row hown (hT _ vt_20) (hT _ vt_10) (hT _ vt_11) hK hP hD hS hA rfl df_Row (Nat.le_of_ble_eq_true rfl) (Nat.le_of_ble_eq_true rfl) d_Lex_init_10 (fun q_1 H hP hD hS => ?_)
  have hP : va_P (dC, dI) classes [(h0, .inr (4, [.ref tx, .null, .int 0, .int 0, .int 0, .int 0, .int 0])), (q_1, .inr (0, [.int 0, .null, .int 0]))] H := hP
  have hD : va_D A [(h0, .inr (4, [.ref tx, .null, .int 0, .int 0, .int 0, .int 0, .int 0])), (q_1, .inr (0, [.int 0, .null, .int 0]))] := hD
  refine W.widen (k := 1) (n := 3) (Nat.le_of_ble_eq_true rfl) (Nat.le_of_ble_eq_true rfl) ?_
  refine lv_dup hx hb d_Lex_init_13 rfl ?_
  refine lv_bipush (v := 64) hx hb d_Lex_init_14 (by decide) ?_
  refine lv_ldc (v := 16777216) hx hb hown (hT _ vt_21) d_Lex_init_16 ?_
  have hPc := hP.sub (ws' := [(q_1, .inr (0, [.int 0, .null, .int 0]))]) [1] rfl
  have hDc := hD.sub (ws' := [(q_1, .inr (0, [.int 0, .null, .int 0]))]) [1] (by decide) rfl
  have hKc := hK.sub (tys' := []) [] rfl
  have hFc := va_free (wc := [(q_1, .inr (0, [.int 0, .null, .int 0]))]) hD hS hA [1] rfl
  refine va_callv (va_runI (As := [.int 64, .int 16777216]) (rest := [.ref q_1, .ref h0]) ⟨hx, hb, hml, hown, hT⟩ (c_Row_init l dC dI H.size q_1 64 64 16777216 (by decide) (by decide) (by decide) (by decide)) (cwI 2 hT (gI vt_13) rfl rfl rfl (hT _ vt_11) (hT _ vt_22) (hT _ vt_15) rfl (by decide +kernel) ⟨Nat.le_of_ble_eq_true rfl, Nat.le_of_ble_eq_true rfl⟩) ⟨Pw_blind, Pw_of hPc hKc hDc⟩ rfl rfl hl.1 rfl (lv_room (Nat.le_of_ble_eq_true rfl)) d_Lex_init_18 ⟨Nat.le_of_ble_eq_true rfl, Nat.le_of_ble_eq_true rfl⟩) hS (fun q _ h => hFc q h) hFc (fun u t H1 locs ht hvm hw hB hz1 hk1 hS => ?_)
  obtain ⟨qa_2, cR_3, hP1, hK1, hD1⟩ := hB
  rw [ht] at hP1
  have hK1 := va_K.moved hvm.symm hK1
  obtain ⟨hP, hD⟩ := va_join (wr := [(h0, .inr (4, [.ref tx, .null, .int 0, .int 0, .int 0, .int 0, .int 0]))]) (w1 := [(q_1, .inr (0, [.int 16777216, .ref qa_2, .int 0])), (qa_2, .inl (cR_3, 64, .inl (fun _ => 0)))]) hP hD [1] [0] rfl rfl (by decide) (by decide) hk1 hFc hP1 hD1
  have hK := hK.app hK1
  have hK : va_K (dC, dI) classes [(cR_3, .int)] s := hK
  generalize H1 = H at hP hS ⊢
  have hP : va_P (dC, dI) classes [(h0, .inr (4, [.ref tx, .null, .int 0, .int 0, .int 0, .int 0, .int 0])), (q_1, .inr (0, [.int 16777216, .ref qa_2, .int 0])), (qa_2, .inl (cR_3, 64, .inl (fun _ => 0)))] H := hP
  have hD : va_D A [(h0, .inr (4, [.ref tx, .null, .int 0, .int 0, .int 0, .int 0, .int 0])), (q_1, .inr (0, [.int 16777216, .ref qa_2, .int 0])), (qa_2, .inl (cR_3, 64, .inl (fun _ => 0)))] := hD
  refine W.widen (k := 2) (n := 67) (Nat.le_of_ble_eq_true rfl) (Nat.le_of_ble_eq_true rfl) ?_
  refine va_putF (D := (dC, dI)) (ci := 4) (v := .ref q_1) (ty := (.object "FamilyKernel$Row")) (C := R_Lex) (T := T_Lex) (N := 7) hx hb hT in_Lex ty_Lex tyo_Lex nm_Lex hown hK hP hD hS 0 rfl rfl 1 (by decide) (hT _ vt_23) (fun _ h9 => h9) rfl hin rfl (by decide +kernel) rfl rfl (Nat.le_of_ble_eq_true rfl) d_Lex_init_21 (fun H locs hP hD hS => ?_)
  have hP : va_P (dC, dI) classes [(h0, .inr (4, [.ref tx, .ref q_1, .int 0, .int 0, .int 0, .int 0, .int 0])), (q_1, .inr (0, [.int 16777216, .ref qa_2, .int 0])), (qa_2, .inl (cR_3, 64, .inl (fun _ => 0)))] H := hP
  have hD : va_D A [(h0, .inr (4, [.ref tx, .ref q_1, .int 0, .int 0, .int 0, .int 0, .int 0])), (q_1, .inr (0, [.int 16777216, .ref qa_2, .int 0])), (qa_2, .inl (cR_3, 64, .inl (fun _ => 0)))] := hD
  refine W.widen (k := 2) (n := 67) (Nat.le_of_ble_eq_true rfl) (Nat.le_of_ble_eq_true rfl) ?_
  have hP9 := hP.sub (ws' := [(h0, .inr (4, [.ref tx, .ref q_1, .int 0, .int 0, .int 0, .int 0, .int 0])), (q_1, .inr (0, [.int 16777216, .ref qa_2, .int 0])), (qa_2, .inl (cR_3, 64, .inl (fun _ => 0)))]) [0, 1, 2] rfl
  have hD9 := hD.sub (ws' := [(h0, .inr (4, [.ref tx, .ref q_1, .int 0, .int 0, .int 0, .int 0, .int 0])), (q_1, .inr (0, [.int 16777216, .ref qa_2, .int 0])), (qa_2, .inl (cR_3, 64, .inl (fun _ => 0)))]) [0, 1, 2] (by decide) rfl
  have hK9 := hK.sub (tys' := [(cR_3, .int)]) [0] rfl
  exact W.vret hx hb hr (fun t ht hW => ⟨⟨(), rfl, trivial, q_1, qa_2, cR_3, by rw [ht]; exact hP9, va_K.moved hW.alike hK9, hD9⟩, hS.F ht⟩) hS.2.2 d_Lex_init_24
set_option maxHeartbeats 4000000 in
set_option maxRecDepth 100000 in
/-- Terms(..) -/
theorem c_Terms_init (l : Launch) (dC : Nat → ClassId) (dI : Nat → Nat → Nat) (sz : Nat) (h0 me : Nat) : Met l y_Terms_init w_Terms_init ({ frames := 20, cells := 11, slots := 1481, locals := 600 }) (Pw dC dI [.ref h0, .ref me] sz [(h0, .inr (2, [.null, .null, .null, .null, .null, .null, .null, .null, .null, .int 0]))] []) (va_Qv (fun _ : Unit => True) (fun _ t => ∃ (r_todo : Nat) (r_offsets : Nat) (r_built : Nat) (a_infos : Nat) (a_lefts : Nat) (a_rights : Nat) (a_links : Nat) (a_heads : Nat), va_P (dC, dI) classes [(h0, .inr (2, [.ref me, .ref r_todo, .ref r_offsets, .ref r_built, .ref a_infos, .ref a_lefts, .ref a_rights, .ref a_links, .ref a_heads, .int 0]))] t.heap ∧ va_K (dC, dI) classes [] t ∧ va_D (va_A [(h0, .inr (2, [.null, .null, .null, .null, .null, .null, .null, .null, .null, .int 0]))] sz) [(h0, .inr (2, [.ref me, .ref r_todo, .ref r_offsets, .ref r_built, .ref a_infos, .ref a_lefts, .ref a_rights, .ref a_links, .ref a_heads, .int 0]))]) (va_A [(h0, .inr (2, [.null, .null, .null, .null, .null, .null, .null, .null, .null, .int 0]))] sz)) 11 1481 (va_A [(h0, .inr (2, [.null, .null, .null, .null, .null, .null, .null, .null, .null, .int 0]))] sz) := by
  refine Met.ofW (cc := b_Terms_init) (maxL := 2) (ret := none) (by decide) rfl ?_
  intro p e s m args below meth c s₁ B hml hv
  obtain ⟨rfl, hsz, hP, hK, hD0⟩ := hv
  have hx := B.exec
  have hb := B.bytes
  have hr := B.returns
  have hT : ∀ w ∈ vT, w.before _ s = true := fun w h => atoms_spec (ws := w_Terms_init) B.pre w (List.mem_cons_of_mem _ h)
  have hown : s.vm.findClass R_Terms = some m.cls := findClass_of_methodNamed B.named
  have hlocks := B.notSynchronized
  have hin : meth.name = "<init>" := (name_of_methodNamed B.named B.method).1
  subst hsz
  have hD := hD0.self (sz := s.heap.size)
  generalize hAe : va_A [(h0, .inr (2, [.null, .null, .null, .null, .null, .null, .null, .null, .null, .int 0]))] s.heap.size = A at hD ⊢
  have hA : ∀ q : Nat, s.heap.size ≤ q → A q := fun q h => by rw [← hAe]; exact Or.inr h
  have hS : va_S A s.heap s.heap [] := va_S.rf
  have hP : va_P (dC, dI) classes [(h0, .inr (2, [.null, .null, .null, .null, .null, .null, .null, .null, .null, .int 0]))] s.heap := hP
  have hl := lv_entry ([.ref h0, .ref me]) (n := 2) (Nat.le_of_ble_eq_true rfl)
  rw [lg_entry_eq]
  generalize (lg_sl ([.ref h0, .ref me]) ++ List.replicate (2 - (lg_sl ([.ref h0, .ref me])).length) Slot.unset).toArray = ls at hl ⊢
  have hl : lv_has ls 2 [(0, .ref h0), (1, .ref me)] := hl
  refine lv_aload_n hx hb d_Terms_init_0 rfl (lv_at hl 0 rfl) ?_
  refine W.objInit hx hb hown (hT _ vt_24) (hT _ vt_1) (hT _ vt_2) rfl (by rw [hml]; exact hl.1) rfl d_Terms_init_1 (Nat.le_of_ble_eq_true rfl) (Nat.le_of_ble_eq_true rfl) ?_
  refine W.eq (g2 := F0 m 4 ls []) rfl ?_
  refine lv_aload_n hx hb d_Terms_init_4 rfl (lv_at hl 0 rfl) ?_
  refine lv_aload_n hx hb d_Terms_init_5 rfl (lv_at hl 1 rfl) ?_
  refine va_putF (D := (dC, dI)) (ci := 2) (v := .ref me) (ty := (.object "FamilyKernel$Meter")) (C := R_Terms) (T := T_Terms) (N := 10) hx hb hT in_Terms ty_Terms tyo_Terms nm_Terms hown hK hP hD hS 0 rfl rfl 0 (by decide) (hT _ vt_25) (fun _ h9 => h9) rfl hin rfl (by decide +kernel) rfl rfl (Nat.le_of_ble_eq_true rfl) d_Terms_init_6 (fun H locs hP hD hS => ?_)
  have hP : va_P (dC, dI) classes [(h0, .inr (2, [.ref me, .null, .null, .null, .null, .null, .null, .null, .null, .int 0]))] H := hP
  have hD : va_D A [(h0, .inr (2, [.ref me, .null, .null, .null, .null, .null, .null, .null, .null, .int 0]))] := hD
  refine lv_aload_n hx hb d_Terms_init_9 rfl (lv_at hl 0 rfl) ?_
  refine va_new (ci := 0) (fs := [.int 0, .null, .int 0]) (C := R_Row) (T := T_Row) (N := 3) hx hb hT in_Row ty_Row tyo_Row hown (hT _ vt_26) (hT _ vt_10) (hT _ vt_11) hK hP hD hS hA rfl df_Row (Nat.le_of_ble_eq_true rfl) (Nat.le_of_ble_eq_true rfl) d_Terms_init_10 (fun q_1 H hP hD hS => ?_)
  have hP : va_P (dC, dI) classes [(h0, .inr (2, [.ref me, .null, .null, .null, .null, .null, .null, .null, .null, .int 0])), (q_1, .inr (0, [.int 0, .null, .int 0]))] H := hP
  have hD : va_D A [(h0, .inr (2, [.ref me, .null, .null, .null, .null, .null, .null, .null, .null, .int 0])), (q_1, .inr (0, [.int 0, .null, .int 0]))] := hD
  refine W.widen (k := 1) (n := 3) (Nat.le_of_ble_eq_true rfl) (Nat.le_of_ble_eq_true rfl) ?_
  refine lv_dup hx hb d_Terms_init_13 rfl ?_
  refine lv_bipush (v := 64) hx hb d_Terms_init_14 (by decide) ?_
  refine lv_ldc (v := 16777216) hx hb hown (hT _ vt_27) d_Terms_init_16 ?_
  have hPc := hP.sub (ws' := [(q_1, .inr (0, [.int 0, .null, .int 0]))]) [1] rfl
  have hDc := hD.sub (ws' := [(q_1, .inr (0, [.int 0, .null, .int 0]))]) [1] (by decide) rfl
  have hKc := hK.sub (tys' := []) [] rfl
  have hFc := va_free (wc := [(q_1, .inr (0, [.int 0, .null, .int 0]))]) hD hS hA [1] rfl
  refine va_callv (va_runI (As := [.int 64, .int 16777216]) (rest := [.ref q_1, .ref h0]) ⟨hx, hb, hml, hown, hT⟩ (c_Row_init l dC dI H.size q_1 64 64 16777216 (by decide) (by decide) (by decide) (by decide)) (cwI 2 hT (gI vt_13) rfl rfl rfl (hT _ vt_11) (hT _ vt_28) (hT _ vt_15) rfl (by decide +kernel) ⟨Nat.le_of_ble_eq_true rfl, Nat.le_of_ble_eq_true rfl⟩) ⟨Pw_blind, Pw_of hPc hKc hDc⟩ rfl rfl hl.1 rfl (lv_room (Nat.le_of_ble_eq_true rfl)) d_Terms_init_18 ⟨Nat.le_of_ble_eq_true rfl, Nat.le_of_ble_eq_true rfl⟩) hS (fun q _ h => hFc q h) hFc (fun u t H1 locs ht hvm hw hB hz1 hk1 hS => ?_)
  obtain ⟨qa_2, cR_3, hP1, hK1, hD1⟩ := hB
  rw [ht] at hP1
  have hK1 := va_K.moved hvm.symm hK1
  obtain ⟨hP, hD⟩ := va_join (wr := [(h0, .inr (2, [.ref me, .null, .null, .null, .null, .null, .null, .null, .null, .int 0]))]) (w1 := [(q_1, .inr (0, [.int 16777216, .ref qa_2, .int 0])), (qa_2, .inl (cR_3, 64, .inl (fun _ => 0)))]) hP hD [1] [0] rfl rfl (by decide) (by decide) hk1 hFc hP1 hD1
  have hK := hK.app hK1
  have hK : va_K (dC, dI) classes [(cR_3, .int)] s := hK
  generalize H1 = H at hP hS ⊢
  have hP : va_P (dC, dI) classes [(h0, .inr (2, [.ref me, .null, .null, .null, .null, .null, .null, .null, .null, .int 0])), (q_1, .inr (0, [.int 16777216, .ref qa_2, .int 0])), (qa_2, .inl (cR_3, 64, .inl (fun _ => 0)))] H := hP
  have hD : va_D A [(h0, .inr (2, [.ref me, .null, .null, .null, .null, .null, .null, .null, .null, .int 0])), (q_1, .inr (0, [.int 16777216, .ref qa_2, .int 0])), (qa_2, .inl (cR_3, 64, .inl (fun _ => 0)))] := hD
  refine W.widen (k := 2) (n := 67) (Nat.le_of_ble_eq_true rfl) (Nat.le_of_ble_eq_true rfl) ?_
  refine va_putF (D := (dC, dI)) (ci := 2) (v := .ref q_1) (ty := (.object "FamilyKernel$Row")) (C := R_Terms) (T := T_Terms) (N := 10) hx hb hT in_Terms ty_Terms tyo_Terms nm_Terms hown hK hP hD hS 0 rfl rfl 1 (by decide) (hT _ vt_29) (fun _ h9 => h9) rfl hin rfl (by decide +kernel) rfl rfl (Nat.le_of_ble_eq_true rfl) d_Terms_init_21 (fun H locs hP hD hS => ?_)
  have hP : va_P (dC, dI) classes [(h0, .inr (2, [.ref me, .ref q_1, .null, .null, .null, .null, .null, .null, .null, .int 0])), (q_1, .inr (0, [.int 16777216, .ref qa_2, .int 0])), (qa_2, .inl (cR_3, 64, .inl (fun _ => 0)))] H := hP
  have hD : va_D A [(h0, .inr (2, [.ref me, .ref q_1, .null, .null, .null, .null, .null, .null, .null, .int 0])), (q_1, .inr (0, [.int 16777216, .ref qa_2, .int 0])), (qa_2, .inl (cR_3, 64, .inl (fun _ => 0)))] := hD
  have hP := hP.sub (ws' := [(h0, .inr (2, [.ref me, .ref q_1, .null, .null, .null, .null, .null, .null, .null, .int 0]))]) [0] rfl
  have hD := hD.sub (ws' := [(h0, .inr (2, [.ref me, .ref q_1, .null, .null, .null, .null, .null, .null, .null, .int 0]))]) [0] (by decide) rfl
  have hK := hK.sub (tys' := []) [] rfl
  refine lv_aload_n hx hb d_Terms_init_24 rfl (lv_at hl 0 rfl) ?_
  refine va_new (ci := 0) (fs := [.int 0, .null, .int 0]) (C := R_Row) (T := T_Row) (N := 3) hx hb hT in_Row ty_Row tyo_Row hown (hT _ vt_26) (hT _ vt_10) (hT _ vt_11) hK hP hD hS hA rfl df_Row (Nat.le_of_ble_eq_true rfl) (Nat.le_of_ble_eq_true rfl) d_Terms_init_25 (fun q_5 H hP hD hS => ?_)
  have hP : va_P (dC, dI) classes [(h0, .inr (2, [.ref me, .ref q_1, .null, .null, .null, .null, .null, .null, .null, .int 0])), (q_5, .inr (0, [.int 0, .null, .int 0]))] H := hP
  have hD : va_D A [(h0, .inr (2, [.ref me, .ref q_1, .null, .null, .null, .null, .null, .null, .null, .int 0])), (q_5, .inr (0, [.int 0, .null, .int 0]))] := hD
  refine W.widen (k := 3) (n := 70) (Nat.le_of_ble_eq_true rfl) (Nat.le_of_ble_eq_true rfl) ?_
  refine lv_dup hx hb d_Terms_init_28 rfl ?_
  refine lv_bipush (v := 64) hx hb d_Terms_init_29 (by decide) ?_
  refine lv_ldc (v := 16777216) hx hb hown (hT _ vt_27) d_Terms_init_31 ?_
  have hPc := hP.sub (ws' := [(q_5, .inr (0, [.int 0, .null, .int 0]))]) [1] rfl
  have hDc := hD.sub (ws' := [(q_5, .inr (0, [.int 0, .null, .int 0]))]) [1] (by decide) rfl
  have hKc := hK.sub (tys' := []) [] rfl
  have hFc := va_free (wc := [(q_5, .inr (0, [.int 0, .null, .int 0]))]) hD hS hA [1] rfl
  refine va_callv (va_runI (As := [.int 64, .int 16777216]) (rest := [.ref q_5, .ref h0]) ⟨hx, hb, hml, hown, hT⟩ (c_Row_init l dC dI H.size q_5 64 64 16777216 (by decide) (by decide) (by decide) (by decide)) (cwI 2 hT (gI vt_13) rfl rfl rfl (hT _ vt_11) (hT _ vt_28) (hT _ vt_15) rfl (by decide +kernel) ⟨Nat.le_of_ble_eq_true rfl, Nat.le_of_ble_eq_true rfl⟩) ⟨Pw_blind, Pw_of hPc hKc hDc⟩ rfl rfl hl.1 rfl (lv_room (Nat.le_of_ble_eq_true rfl)) d_Terms_init_33 ⟨Nat.le_of_ble_eq_true rfl, Nat.le_of_ble_eq_true rfl⟩) hS (fun q _ h => hFc q h) hFc (fun u t H1 locs ht hvm hw hB hz1 hk1 hS => ?_)
  obtain ⟨qa_6, cR_7, hP1, hK1, hD1⟩ := hB
  rw [ht] at hP1
  have hK1 := va_K.moved hvm.symm hK1
  obtain ⟨hP, hD⟩ := va_join (wr := [(h0, .inr (2, [.ref me, .ref q_1, .null, .null, .null, .null, .null, .null, .null, .int 0]))]) (w1 := [(q_5, .inr (0, [.int 16777216, .ref qa_6, .int 0])), (qa_6, .inl (cR_7, 64, .inl (fun _ => 0)))]) hP hD [1] [0] rfl rfl (by decide) (by decide) hk1 hFc hP1 hD1
  have hK := hK.app hK1
  have hK : va_K (dC, dI) classes [(cR_7, .int)] s := hK
  generalize H1 = H at hP hS ⊢
  have hP : va_P (dC, dI) classes [(h0, .inr (2, [.ref me, .ref q_1, .null, .null, .null, .null, .null, .null, .null, .int 0])), (q_5, .inr (0, [.int 16777216, .ref qa_6, .int 0])), (qa_6, .inl (cR_7, 64, .inl (fun _ => 0)))] H := hP
  have hD : va_D A [(h0, .inr (2, [.ref me, .ref q_1, .null, .null, .null, .null, .null, .null, .null, .int 0])), (q_5, .inr (0, [.int 16777216, .ref qa_6, .int 0])), (qa_6, .inl (cR_7, 64, .inl (fun _ => 0)))] := hD
  refine W.widen (k := 4) (n := 134) (Nat.le_of_ble_eq_true rfl) (Nat.le_of_ble_eq_true rfl) ?_
  refine va_putF (D := (dC, dI)) (ci := 2) (v := .ref q_5) (ty := (.object "FamilyKernel$Row")) (C := R_Terms) (T := T_Terms) (N := 10) hx hb hT in_Terms ty_Terms tyo_Terms nm_Terms hown hK hP hD hS 0 rfl rfl 2 (by decide) (hT _ vt_30) (fun _ h9 => h9) rfl hin rfl (by decide +kernel) rfl rfl (Nat.le_of_ble_eq_true rfl) d_Terms_init_36 (fun H locs hP hD hS => ?_)
  have hP : va_P (dC, dI) classes [(h0, .inr (2, [.ref me, .ref q_1, .ref q_5, .null, .null, .null, .null, .null, .null, .int 0])), (q_5, .inr (0, [.int 16777216, .ref qa_6, .int 0])), (qa_6, .inl (cR_7, 64, .inl (fun _ => 0)))] H := hP
  have hD : va_D A [(h0, .inr (2, [.ref me, .ref q_1, .ref q_5, .null, .null, .null, .null, .null, .null, .int 0])), (q_5, .inr (0, [.int 16777216, .ref qa_6, .int 0])), (qa_6, .inl (cR_7, 64, .inl (fun _ => 0)))] := hD
  have hP := hP.sub (ws' := [(h0, .inr (2, [.ref me, .ref q_1, .ref q_5, .null, .null, .null, .null, .null, .null, .int 0]))]) [0] rfl
  have hD := hD.sub (ws' := [(h0, .inr (2, [.ref me, .ref q_1, .ref q_5, .null, .null, .null, .null, .null, .null, .int 0]))]) [0] (by decide) rfl
  have hK := hK.sub (tys' := []) [] rfl
  refine lv_aload_n hx hb d_Terms_init_39 rfl (lv_at hl 0 rfl) ?_
  refine va_new (ci := 0) (fs := [.int 0, .null, .int 0]) (C := R_Row) (T := T_Row) (N := 3) hx hb hT in_Row ty_Row tyo_Row hown (hT _ vt_26) (hT _ vt_10) (hT _ vt_11) hK hP hD hS hA rfl df_Row (Nat.le_of_ble_eq_true rfl) (Nat.le_of_ble_eq_true rfl) d_Terms_init_40 (fun q_9 H hP hD hS => ?_)
  have hP : va_P (dC, dI) classes [(h0, .inr (2, [.ref me, .ref q_1, .ref q_5, .null, .null, .null, .null, .null, .null, .int 0])), (q_9, .inr (0, [.int 0, .null, .int 0]))] H := hP
  have hD : va_D A [(h0, .inr (2, [.ref me, .ref q_1, .ref q_5, .null, .null, .null, .null, .null, .null, .int 0])), (q_9, .inr (0, [.int 0, .null, .int 0]))] := hD
  refine W.widen (k := 5) (n := 137) (Nat.le_of_ble_eq_true rfl) (Nat.le_of_ble_eq_true rfl) ?_
  refine lv_dup hx hb d_Terms_init_43 rfl ?_
  refine lv_bipush (v := 64) hx hb d_Terms_init_44 (by decide) ?_
  refine lv_ldc (v := 16777216) hx hb hown (hT _ vt_27) d_Terms_init_46 ?_
  have hPc := hP.sub (ws' := [(q_9, .inr (0, [.int 0, .null, .int 0]))]) [1] rfl
  have hDc := hD.sub (ws' := [(q_9, .inr (0, [.int 0, .null, .int 0]))]) [1] (by decide) rfl
  have hKc := hK.sub (tys' := []) [] rfl
  have hFc := va_free (wc := [(q_9, .inr (0, [.int 0, .null, .int 0]))]) hD hS hA [1] rfl
  refine va_callv (va_runI (As := [.int 64, .int 16777216]) (rest := [.ref q_9, .ref h0]) ⟨hx, hb, hml, hown, hT⟩ (c_Row_init l dC dI H.size q_9 64 64 16777216 (by decide) (by decide) (by decide) (by decide)) (cwI 2 hT (gI vt_13) rfl rfl rfl (hT _ vt_11) (hT _ vt_28) (hT _ vt_15) rfl (by decide +kernel) ⟨Nat.le_of_ble_eq_true rfl, Nat.le_of_ble_eq_true rfl⟩) ⟨Pw_blind, Pw_of hPc hKc hDc⟩ rfl rfl hl.1 rfl (lv_room (Nat.le_of_ble_eq_true rfl)) d_Terms_init_48 ⟨Nat.le_of_ble_eq_true rfl, Nat.le_of_ble_eq_true rfl⟩) hS (fun q _ h => hFc q h) hFc (fun u t H1 locs ht hvm hw hB hz1 hk1 hS => ?_)
  obtain ⟨qa_10, cR_11, hP1, hK1, hD1⟩ := hB
  rw [ht] at hP1
  have hK1 := va_K.moved hvm.symm hK1
  obtain ⟨hP, hD⟩ := va_join (wr := [(h0, .inr (2, [.ref me, .ref q_1, .ref q_5, .null, .null, .null, .null, .null, .null, .int 0]))]) (w1 := [(q_9, .inr (0, [.int 16777216, .ref qa_10, .int 0])), (qa_10, .inl (cR_11, 64, .inl (fun _ => 0)))]) hP hD [1] [0] rfl rfl (by decide) (by decide) hk1 hFc hP1 hD1
  have hK := hK.app hK1
  have hK : va_K (dC, dI) classes [(cR_11, .int)] s := hK
  generalize H1 = H at hP hS ⊢
  have hP : va_P (dC, dI) classes [(h0, .inr (2, [.ref me, .ref q_1, .ref q_5, .null, .null, .null, .null, .null, .null, .int 0])), (q_9, .inr (0, [.int 16777216, .ref qa_10, .int 0])), (qa_10, .inl (cR_11, 64, .inl (fun _ => 0)))] H := hP
  have hD : va_D A [(h0, .inr (2, [.ref me, .ref q_1, .ref q_5, .null, .null, .null, .null, .null, .null, .int 0])), (q_9, .inr (0, [.int 16777216, .ref qa_10, .int 0])), (qa_10, .inl (cR_11, 64, .inl (fun _ => 0)))] := hD
  refine W.widen (k := 6) (n := 201) (Nat.le_of_ble_eq_true rfl) (Nat.le_of_ble_eq_true rfl) ?_
  refine va_putF (D := (dC, dI)) (ci := 2) (v := .ref q_9) (ty := (.object "FamilyKernel$Row")) (C := R_Terms) (T := T_Terms) (N := 10) hx hb hT in_Terms ty_Terms tyo_Terms nm_Terms hown hK hP hD hS 0 rfl rfl 3 (by decide) (hT _ vt_31) (fun _ h9 => h9) rfl hin rfl (by decide +kernel) rfl rfl (Nat.le_of_ble_eq_true rfl) d_Terms_init_51 (fun H locs hP hD hS => ?_)
  have hP : va_P (dC, dI) classes [(h0, .inr (2, [.ref me, .ref q_1, .ref q_5, .ref q_9, .null, .null, .null, .null, .null, .int 0])), (q_9, .inr (0, [.int 16777216, .ref qa_10, .int 0])), (qa_10, .inl (cR_11, 64, .inl (fun _ => 0)))] H := hP
  have hD : va_D A [(h0, .inr (2, [.ref me, .ref q_1, .ref q_5, .ref q_9, .null, .null, .null, .null, .null, .int 0])), (q_9, .inr (0, [.int 16777216, .ref qa_10, .int 0])), (qa_10, .inl (cR_11, 64, .inl (fun _ => 0)))] := hD
  have hP := hP.sub (ws' := [(h0, .inr (2, [.ref me, .ref q_1, .ref q_5, .ref q_9, .null, .null, .null, .null, .null, .int 0]))]) [0] rfl
  have hD := hD.sub (ws' := [(h0, .inr (2, [.ref me, .ref q_1, .ref q_5, .ref q_9, .null, .null, .null, .null, .null, .int 0]))]) [0] (by decide) rfl
  have hK := hK.sub (tys' := []) [] rfl
  refine lv_aload_n hx hb d_Terms_init_54 rfl (lv_at hl 0 rfl) ?_
  refine lv_sipush (v := 256) hx hb d_Terms_init_55 (by decide) ?_
  refine va_newa (atype := .long) (ty := .long) (a0 := (256, .inr (.inl (fun _ => 0)))) hx hb (hT _ vt_32) rfl hK hP hD hS hA (fun _ => rfl) (by decide) (by decide) (by decide) (Nat.le_of_ble_eq_true rfl) (Nat.le_of_ble_eq_true rfl) d_Terms_init_58 (fun q_13 cA_14 H hK hP hD hS => ?_)
  have hK : va_K (dC, dI) classes [(cA_14, .long)] s := hK
  have hP : va_P (dC, dI) classes [(h0, .inr (2, [.ref me, .ref q_1, .ref q_5, .ref q_9, .null, .null, .null, .null, .null, .int 0])), (q_13, .inl (cA_14, 256, .inr (.inl (fun _ => 0))))] H := hP
  have hD : va_D A [(h0, .inr (2, [.ref me, .ref q_1, .ref q_5, .ref q_9, .null, .null, .null, .null, .null, .int 0])), (q_13, .inl (cA_14, 256, .inr (.inl (fun _ => 0))))] := hD
  refine W.widen (k := 7) (n := 457) (Nat.le_of_ble_eq_true rfl) (Nat.le_of_ble_eq_true rfl) ?_
  refine va_put (D := (dC, dI)) (ci := 2) (v := .ref q_13) (ty := (.array .long)) (C := R_Terms) (T := T_Terms) (N := 10) hx hb hT in_Terms ty_Terms tyo_Terms nm_Terms hown hK hP hD hS 0 rfl rfl 4 (by decide) (hT _ vt_33) (fun _ h9 => h9) rfl (by decide +kernel) rfl rfl (Nat.le_of_ble_eq_true rfl) d_Terms_init_60 (fun H locs hP hD hS => ?_)
  have hP : va_P (dC, dI) classes [(h0, .inr (2, [.ref me, .ref q_1, .ref q_5, .ref q_9, .ref q_13, .null, .null, .null, .null, .int 0])), (q_13, .inl (cA_14, 256, .inr (.inl (fun _ => 0))))] H := hP
  have hD : va_D A [(h0, .inr (2, [.ref me, .ref q_1, .ref q_5, .ref q_9, .ref q_13, .null, .null, .null, .null, .int 0])), (q_13, .inl (cA_14, 256, .inr (.inl (fun _ => 0))))] := hD
  have hP := hP.sub (ws' := [(h0, .inr (2, [.ref me, .ref q_1, .ref q_5, .ref q_9, .ref q_13, .null, .null, .null, .null, .int 0]))]) [0] rfl
  have hD := hD.sub (ws' := [(h0, .inr (2, [.ref me, .ref q_1, .ref q_5, .ref q_9, .ref q_13, .null, .null, .null, .null, .int 0]))]) [0] (by decide) rfl
  have hK := hK.sub (tys' := []) [] rfl
  refine lv_aload_n hx hb d_Terms_init_63 rfl (lv_at hl 0 rfl) ?_
  refine lv_sipush (v := 256) hx hb d_Terms_init_64 (by decide) ?_
  refine va_newa (atype := .int) (ty := .int) (a0 := (256, .inl (fun _ => 0))) hx hb (hT _ vt_3) rfl hK hP hD hS hA (fun _ => rfl) (by decide) (by decide) (by decide) (Nat.le_of_ble_eq_true rfl) (Nat.le_of_ble_eq_true rfl) d_Terms_init_67 (fun q_15 cA_16 H hK hP hD hS => ?_)
  have hK : va_K (dC, dI) classes [(cA_16, .int)] s := hK
  have hP : va_P (dC, dI) classes [(h0, .inr (2, [.ref me, .ref q_1, .ref q_5, .ref q_9, .ref q_13, .null, .null, .null, .null, .int 0])), (q_15, .inl (cA_16, 256, .inl (fun _ => 0)))] H := hP
  have hD : va_D A [(h0, .inr (2, [.ref me, .ref q_1, .ref q_5, .ref q_9, .ref q_13, .null, .null, .null, .null, .int 0])), (q_15, .inl (cA_16, 256, .inl (fun _ => 0)))] := hD
  refine W.widen (k := 8) (n := 713) (Nat.le_of_ble_eq_true rfl) (Nat.le_of_ble_eq_true rfl) ?_
  refine va_put (D := (dC, dI)) (ci := 2) (v := .ref q_15) (ty := (.array .int)) (C := R_Terms) (T := T_Terms) (N := 10) hx hb hT in_Terms ty_Terms tyo_Terms nm_Terms hown hK hP hD hS 0 rfl rfl 5 (by decide) (hT _ vt_34) (fun _ h9 => h9) rfl (by decide +kernel) rfl rfl (Nat.le_of_ble_eq_true rfl) d_Terms_init_69 (fun H locs hP hD hS => ?_)
  have hP : va_P (dC, dI) classes [(h0, .inr (2, [.ref me, .ref q_1, .ref q_5, .ref q_9, .ref q_13, .ref q_15, .null, .null, .null, .int 0])), (q_15, .inl (cA_16, 256, .inl (fun _ => 0)))] H := hP
  have hD : va_D A [(h0, .inr (2, [.ref me, .ref q_1, .ref q_5, .ref q_9, .ref q_13, .ref q_15, .null, .null, .null, .int 0])), (q_15, .inl (cA_16, 256, .inl (fun _ => 0)))] := hD
  have hP := hP.sub (ws' := [(h0, .inr (2, [.ref me, .ref q_1, .ref q_5, .ref q_9, .ref q_13, .ref q_15, .null, .null, .null, .int 0]))]) [0] rfl
  have hD := hD.sub (ws' := [(h0, .inr (2, [.ref me, .ref q_1, .ref q_5, .ref q_9, .ref q_13, .ref q_15, .null, .null, .null, .int 0]))]) [0] (by decide) rfl
  have hK := hK.sub (tys' := []) [] rfl
  refine lv_aload_n hx hb d_Terms_init_72 rfl (lv_at hl 0 rfl) ?_
  refine lv_sipush (v := 256) hx hb d_Terms_init_73 (by decide) ?_
  refine va_newa (atype := .int) (ty := .int) (a0 := (256, .inl (fun _ => 0))) hx hb (hT _ vt_3) rfl hK hP hD hS hA (fun _ => rfl) (by decide) (by decide) (by decide) (Nat.le_of_ble_eq_true rfl) (Nat.le_of_ble_eq_true rfl) d_Terms_init_76 (fun q_17 cA_18 H hK hP hD hS => ?_)
  have hK : va_K (dC, dI) classes [(cA_18, .int)] s := hK
  have hP : va_P (dC, dI) classes [(h0, .inr (2, [.ref me, .ref q_1, .ref q_5, .ref q_9, .ref q_13, .ref q_15, .null, .null, .null, .int 0])), (q_17, .inl (cA_18, 256, .inl (fun _ => 0)))] H := hP
  have hD : va_D A [(h0, .inr (2, [.ref me, .ref q_1, .ref q_5, .ref q_9, .ref q_13, .ref q_15, .null, .null, .null, .int 0])), (q_17, .inl (cA_18, 256, .inl (fun _ => 0)))] := hD
  refine W.widen (k := 9) (n := 969) (Nat.le_of_ble_eq_true rfl) (Nat.le_of_ble_eq_true rfl) ?_
  refine va_put (D := (dC, dI)) (ci := 2) (v := .ref q_17) (ty := (.array .int)) (C := R_Terms) (T := T_Terms) (N := 10) hx hb hT in_Terms ty_Terms tyo_Terms nm_Terms hown hK hP hD hS 0 rfl rfl 6 (by decide) (hT _ vt_35) (fun _ h9 => h9) rfl (by decide +kernel) rfl rfl (Nat.le_of_ble_eq_true rfl) d_Terms_init_78 (fun H locs hP hD hS => ?_)
  have hP : va_P (dC, dI) classes [(h0, .inr (2, [.ref me, .ref q_1, .ref q_5, .ref q_9, .ref q_13, .ref q_15, .ref q_17, .null, .null, .int 0])), (q_17, .inl (cA_18, 256, .inl (fun _ => 0)))] H := hP
  have hD : va_D A [(h0, .inr (2, [.ref me, .ref q_1, .ref q_5, .ref q_9, .ref q_13, .ref q_15, .ref q_17, .null, .null, .int 0])), (q_17, .inl (cA_18, 256, .inl (fun _ => 0)))] := hD
  have hP := hP.sub (ws' := [(h0, .inr (2, [.ref me, .ref q_1, .ref q_5, .ref q_9, .ref q_13, .ref q_15, .ref q_17, .null, .null, .int 0]))]) [0] rfl
  have hD := hD.sub (ws' := [(h0, .inr (2, [.ref me, .ref q_1, .ref q_5, .ref q_9, .ref q_13, .ref q_15, .ref q_17, .null, .null, .int 0]))]) [0] (by decide) rfl
  have hK := hK.sub (tys' := []) [] rfl
  refine lv_aload_n hx hb d_Terms_init_81 rfl (lv_at hl 0 rfl) ?_
  refine lv_sipush (v := 256) hx hb d_Terms_init_82 (by decide) ?_
  refine va_newa (atype := .int) (ty := .int) (a0 := (256, .inl (fun _ => 0))) hx hb (hT _ vt_3) rfl hK hP hD hS hA (fun _ => rfl) (by decide) (by decide) (by decide) (Nat.le_of_ble_eq_true rfl) (Nat.le_of_ble_eq_true rfl) d_Terms_init_85 (fun q_19 cA_20 H hK hP hD hS => ?_)
  have hK : va_K (dC, dI) classes [(cA_20, .int)] s := hK
  have hP : va_P (dC, dI) classes [(h0, .inr (2, [.ref me, .ref q_1, .ref q_5, .ref q_9, .ref q_13, .ref q_15, .ref q_17, .null, .null, .int 0])), (q_19, .inl (cA_20, 256, .inl (fun _ => 0)))] H := hP
  have hD : va_D A [(h0, .inr (2, [.ref me, .ref q_1, .ref q_5, .ref q_9, .ref q_13, .ref q_15, .ref q_17, .null, .null, .int 0])), (q_19, .inl (cA_20, 256, .inl (fun _ => 0)))] := hD
  refine W.widen (k := 10) (n := 1225) (Nat.le_of_ble_eq_true rfl) (Nat.le_of_ble_eq_true rfl) ?_
  refine va_put (D := (dC, dI)) (ci := 2) (v := .ref q_19) (ty := (.array .int)) (C := R_Terms) (T := T_Terms) (N := 10) hx hb hT in_Terms ty_Terms tyo_Terms nm_Terms hown hK hP hD hS 0 rfl rfl 7 (by decide) (hT _ vt_36) (fun _ h9 => h9) rfl (by decide +kernel) rfl rfl (Nat.le_of_ble_eq_true rfl) d_Terms_init_87 (fun H locs hP hD hS => ?_)
  have hP : va_P (dC, dI) classes [(h0, .inr (2, [.ref me, .ref q_1, .ref q_5, .ref q_9, .ref q_13, .ref q_15, .ref q_17, .ref q_19, .null, .int 0])), (q_19, .inl (cA_20, 256, .inl (fun _ => 0)))] H := hP
  have hD : va_D A [(h0, .inr (2, [.ref me, .ref q_1, .ref q_5, .ref q_9, .ref q_13, .ref q_15, .ref q_17, .ref q_19, .null, .int 0])), (q_19, .inl (cA_20, 256, .inl (fun _ => 0)))] := hD
  have hP := hP.sub (ws' := [(h0, .inr (2, [.ref me, .ref q_1, .ref q_5, .ref q_9, .ref q_13, .ref q_15, .ref q_17, .ref q_19, .null, .int 0]))]) [0] rfl
  have hD := hD.sub (ws' := [(h0, .inr (2, [.ref me, .ref q_1, .ref q_5, .ref q_9, .ref q_13, .ref q_15, .ref q_17, .ref q_19, .null, .int 0]))]) [0] (by decide) rfl
  have hK := hK.sub (tys' := []) [] rfl
  refine lv_aload_n hx hb d_Terms_init_90 rfl (lv_at hl 0 rfl) ?_
  refine lv_sipush (v := 256) hx hb d_Terms_init_91 (by decide) ?_
  refine va_newa (atype := .int) (ty := .int) (a0 := (256, .inl (fun _ => 0))) hx hb (hT _ vt_3) rfl hK hP hD hS hA (fun _ => rfl) (by decide) (by decide) (by decide) (Nat.le_of_ble_eq_true rfl) (Nat.le_of_ble_eq_true rfl) d_Terms_init_94 (fun q_21 cA_22 H hK hP hD hS => ?_)
  have hK : va_K (dC, dI) classes [(cA_22, .int)] s := hK
  have hP : va_P (dC, dI) classes [(h0, .inr (2, [.ref me, .ref q_1, .ref q_5, .ref q_9, .ref q_13, .ref q_15, .ref q_17, .ref q_19, .null, .int 0])), (q_21, .inl (cA_22, 256, .inl (fun _ => 0)))] H := hP
  have hD : va_D A [(h0, .inr (2, [.ref me, .ref q_1, .ref q_5, .ref q_9, .ref q_13, .ref q_15, .ref q_17, .ref q_19, .null, .int 0])), (q_21, .inl (cA_22, 256, .inl (fun _ => 0)))] := hD
  refine W.widen (k := 11) (n := 1481) (Nat.le_of_ble_eq_true rfl) (Nat.le_of_ble_eq_true rfl) ?_
  refine va_put (D := (dC, dI)) (ci := 2) (v := .ref q_21) (ty := (.array .int)) (C := R_Terms) (T := T_Terms) (N := 10) hx hb hT in_Terms ty_Terms tyo_Terms nm_Terms hown hK hP hD hS 0 rfl rfl 8 (by decide) (hT _ vt_37) (fun _ h9 => h9) rfl (by decide +kernel) rfl rfl (Nat.le_of_ble_eq_true rfl) d_Terms_init_96 (fun H locs hP hD hS => ?_)
  have hP : va_P (dC, dI) classes [(h0, .inr (2, [.ref me, .ref q_1, .ref q_5, .ref q_9, .ref q_13, .ref q_15, .ref q_17, .ref q_19, .ref q_21, .int 0])), (q_21, .inl (cA_22, 256, .inl (fun _ => 0)))] H := hP
  have hD : va_D A [(h0, .inr (2, [.ref me, .ref q_1, .ref q_5, .ref q_9, .ref q_13, .ref q_15, .ref q_17, .ref q_19, .ref q_21, .int 0])), (q_21, .inl (cA_22, 256, .inl (fun _ => 0)))] := hD
  have hP := hP.sub (ws' := [(h0, .inr (2, [.ref me, .ref q_1, .ref q_5, .ref q_9, .ref q_13, .ref q_15, .ref q_17, .ref q_19, .ref q_21, .int 0]))]) [0] rfl
  have hD := hD.sub (ws' := [(h0, .inr (2, [.ref me, .ref q_1, .ref q_5, .ref q_9, .ref q_13, .ref q_15, .ref q_17, .ref q_19, .ref q_21, .int 0]))]) [0] (by decide) rfl
  have hK := hK.sub (tys' := []) [] rfl
  refine W.widen (k := 11) (n := 1481) (Nat.le_of_ble_eq_true rfl) (Nat.le_of_ble_eq_true rfl) ?_
  have hP9 := hP.sub (ws' := [(h0, .inr (2, [.ref me, .ref q_1, .ref q_5, .ref q_9, .ref q_13, .ref q_15, .ref q_17, .ref q_19, .ref q_21, .int 0]))]) [0] rfl
  have hD9 := hD.sub (ws' := [(h0, .inr (2, [.ref me, .ref q_1, .ref q_5, .ref q_9, .ref q_13, .ref q_15, .ref q_17, .ref q_19, .ref q_21, .int 0]))]) [0] (by decide) rfl
  have hK9 := hK.sub (tys' := []) [] rfl
  exact W.vret hx hb hr (fun t ht hW => ⟨⟨(), rfl, trivial, q_1, q_5, q_9, q_13, q_15, q_17, q_19, q_21, by rw [ht]; exact hP9, va_K.moved hW.alike hK9, hD9⟩, hS.F ht⟩) hS.2.2 d_Terms_init_99
set_option maxHeartbeats 4000000 in
set_option maxRecDepth 100000 in
/-- Par(..) -/
theorem c_Par_init (l : Launch) (dC : Nat → ClassId) (dI : Nat → Nat → Nat) (sz : Nat) (h0 p1 p2 p3 p4 p5 : Nat) : Met l y_Par_init w_Par_init ({ frames := 20, cells := 8, slots := 156, locals := 600 }) (Pw dC dI [.ref h0, .ref p1, .ref p2, .ref p3, .ref p4, .ref p5] sz [(h0, .inr (5, [.null, .null, .null, .null, .null, .null, .null, .null, .null, .int 0, .int 0, .int 0, .int 0, .int 0, .int 0, .int 0, .int 0, .int 0, .int 0, .int 0]))] []) (va_Qv (fun _ : Unit => True) (fun _ t => True) (va_A [(h0, .inr (5, [.null, .null, .null, .null, .null, .null, .null, .null, .null, .int 0, .int 0, .int 0, .int 0, .int 0, .int 0, .int 0, .int 0, .int 0, .int 0, .int 0]))] sz)) 8 156 (va_A [(h0, .inr (5, [.null, .null, .null, .null, .null, .null, .null, .null, .null, .int 0, .int 0, .int 0, .int 0, .int 0, .int 0, .int 0, .int 0, .int 0, .int 0, .int 0]))] sz) := by
  refine Met.ofW (cc := b_Par_init) (maxL := 6) (ret := none) (by decide) rfl ?_
  intro p e s m args below meth c s₁ B hml hv
  obtain ⟨rfl, hsz, hP, hK, hD0⟩ := hv
  have hx := B.exec
  have hb := B.bytes
  have hr := B.returns
  have hT : ∀ w ∈ vT, w.before _ s = true := fun w h => atoms_spec (ws := w_Par_init) B.pre w (List.mem_cons_of_mem _ h)
  have hown : s.vm.findClass R_Par = some m.cls := findClass_of_methodNamed B.named
  have hlocks := B.notSynchronized
  have hin : meth.name = "<init>" := (name_of_methodNamed B.named B.method).1
  subst hsz
  have hD := hD0.self (sz := s.heap.size)
  generalize hAe : va_A [(h0, .inr (5, [.null, .null, .null, .null, .null, .null, .null, .null, .null, .int 0, .int 0, .int 0, .int 0, .int 0, .int 0, .int 0, .int 0, .int 0, .int 0, .int 0]))] s.heap.size = A at hD ⊢
  have hA : ∀ q : Nat, s.heap.size ≤ q → A q := fun q h => by rw [← hAe]; exact Or.inr h
  have hS : va_S A s.heap s.heap [] := va_S.rf
  have hP : va_P (dC, dI) classes [(h0, .inr (5, [.null, .null, .null, .null, .null, .null, .null, .null, .null, .int 0, .int 0, .int 0, .int 0, .int 0, .int 0, .int 0, .int 0, .int 0, .int 0, .int 0]))] s.heap := hP
  have hl := lv_entry ([.ref h0, .ref p1, .ref p2, .ref p3, .ref p4, .ref p5]) (n := 6) (Nat.le_of_ble_eq_true rfl)
  rw [lg_entry_eq]
  generalize (lg_sl ([.ref h0, .ref p1, .ref p2, .ref p3, .ref p4, .ref p5]) ++ List.replicate (6 - (lg_sl ([.ref h0, .ref p1, .ref p2, .ref p3, .ref p4, .ref p5])).length) Slot.unset).toArray = ls at hl ⊢
  have hl : lv_has ls 6 [(0, .ref h0), (1, .ref p1), (2, .ref p2), (3, .ref p3), (4, .ref p4), (5, .ref p5)] := hl
  refine lv_aload_n hx hb d_Par_init_0 rfl (lv_at hl 0 rfl) ?_
  refine W.objInit hx hb hown (hT _ vt_38) (hT _ vt_1) (hT _ vt_2) rfl (by rw [hml]; exact hl.1) rfl d_Par_init_1 (Nat.le_of_ble_eq_true rfl) (Nat.le_of_ble_eq_true rfl) ?_
  refine W.eq (g2 := F0 m 4 ls []) rfl ?_
  refine lv_aload_n hx hb d_Par_init_4 rfl (lv_at hl 0 rfl) ?_
  refine lv_aload_n hx hb d_Par_init_5 rfl (lv_at hl 1 rfl) ?_
  refine va_putF (D := (dC, dI)) (ci := 5) (v := .ref p1) (ty := (.object "FamilyKernel$Row")) (C := R_Par) (T := T_Par) (N := 20) hx hb hT in_Par ty_Par tyo_Par nm_Par hown hK hP hD hS 0 rfl rfl 0 (by decide) (hT _ vt_39) (fun _ h9 => h9) rfl hin rfl (by decide +kernel) rfl rfl (Nat.le_of_ble_eq_true rfl) d_Par_init_6 (fun H locs hP hD hS => ?_)
  have hP : va_P (dC, dI) classes [(h0, .inr (5, [.ref p1, .null, .null, .null, .null, .null, .null, .null, .null, .int 0, .int 0, .int 0, .int 0, .int 0, .int 0, .int 0, .int 0, .int 0, .int 0, .int 0]))] H := hP
  have hD : va_D A [(h0, .inr (5, [.ref p1, .null, .null, .null, .null, .null, .null, .null, .null, .int 0, .int 0, .int 0, .int 0, .int 0, .int 0, .int 0, .int 0, .int 0, .int 0, .int 0]))] := hD
  refine lv_aload_n hx hb d_Par_init_9 rfl (lv_at hl 0 rfl) ?_
  refine lv_aload_n hx hb d_Par_init_10 rfl (lv_at hl 2 rfl) ?_
  refine va_putF (D := (dC, dI)) (ci := 5) (v := .ref p2) (ty := (.object "FamilyKernel$Lexer")) (C := R_Par) (T := T_Par) (N := 20) hx hb hT in_Par ty_Par tyo_Par nm_Par hown hK hP hD hS 0 rfl rfl 1 (by decide) (hT _ vt_40) (fun _ h9 => h9) rfl hin rfl (by decide +kernel) rfl rfl (Nat.le_of_ble_eq_true rfl) d_Par_init_11 (fun H locs hP hD hS => ?_)
  have hP : va_P (dC, dI) classes [(h0, .inr (5, [.ref p1, .ref p2, .null, .null, .null, .null, .null, .null, .null, .int 0, .int 0, .int 0, .int 0, .int 0, .int 0, .int 0, .int 0, .int 0, .int 0, .int 0]))] H := hP
  have hD : va_D A [(h0, .inr (5, [.ref p1, .ref p2, .null, .null, .null, .null, .null, .null, .null, .int 0, .int 0, .int 0, .int 0, .int 0, .int 0, .int 0, .int 0, .int 0, .int 0, .int 0]))] := hD
  refine lv_aload_n hx hb d_Par_init_14 rfl (lv_at hl 0 rfl) ?_
  refine lv_aload_n hx hb d_Par_init_15 rfl (lv_at hl 3 rfl) ?_
  refine va_putF (D := (dC, dI)) (ci := 5) (v := .ref p3) (ty := (.object "FamilyKernel$Meter")) (C := R_Par) (T := T_Par) (N := 20) hx hb hT in_Par ty_Par tyo_Par nm_Par hown hK hP hD hS 0 rfl rfl 2 (by decide) (hT _ vt_41) (fun _ h9 => h9) rfl hin rfl (by decide +kernel) rfl rfl (Nat.le_of_ble_eq_true rfl) d_Par_init_16 (fun H locs hP hD hS => ?_)
  have hP : va_P (dC, dI) classes [(h0, .inr (5, [.ref p1, .ref p2, .ref p3, .null, .null, .null, .null, .null, .null, .int 0, .int 0, .int 0, .int 0, .int 0, .int 0, .int 0, .int 0, .int 0, .int 0, .int 0]))] H := hP
  have hD : va_D A [(h0, .inr (5, [.ref p1, .ref p2, .ref p3, .null, .null, .null, .null, .null, .null, .int 0, .int 0, .int 0, .int 0, .int 0, .int 0, .int 0, .int 0, .int 0, .int 0, .int 0]))] := hD
  refine lv_aload_n hx hb d_Par_init_19 rfl (lv_at hl 0 rfl) ?_
  refine lv_aload hx hb d_Par_init_20 (lv_at hl 4 rfl) ?_
  refine va_putF (D := (dC, dI)) (ci := 5) (v := .ref p4) (ty := (.object "FamilyKernel$Terms")) (C := R_Par) (T := T_Par) (N := 20) hx hb hT in_Par ty_Par tyo_Par nm_Par hown hK hP hD hS 0 rfl rfl 3 (by decide) (hT _ vt_42) (fun _ h9 => h9) rfl hin rfl (by decide +kernel) rfl rfl (Nat.le_of_ble_eq_true rfl) d_Par_init_22 (fun H locs hP hD hS => ?_)
  have hP : va_P (dC, dI) classes [(h0, .inr (5, [.ref p1, .ref p2, .ref p3, .ref p4, .null, .null, .null, .null, .null, .int 0, .int 0, .int 0, .int 0, .int 0, .int 0, .int 0, .int 0, .int 0, .int 0, .int 0]))] H := hP
  have hD : va_D A [(h0, .inr (5, [.ref p1, .ref p2, .ref p3, .ref p4, .null, .null, .null, .null, .null, .int 0, .int 0, .int 0, .int 0, .int 0, .int 0, .int 0, .int 0, .int 0, .int 0, .int 0]))] := hD
  refine lv_aload_n hx hb d_Par_init_25 rfl (lv_at hl 0 rfl) ?_
  refine lv_aload hx hb d_Par_init_26 (lv_at hl 5 rfl) ?_
  refine va_putF (D := (dC, dI)) (ci := 5) (v := .ref p5) (ty := (.object "FamilyKernel$Environment")) (C := R_Par) (T := T_Par) (N := 20) hx hb hT in_Par ty_Par tyo_Par nm_Par hown hK hP hD hS 0 rfl rfl 4 (by decide) (hT _ vt_43) (fun _ h9 => h9) rfl hin rfl (by decide +kernel) rfl rfl (Nat.le_of_ble_eq_true rfl) d_Par_init_28 (fun H locs hP hD hS => ?_)
  have hP : va_P (dC, dI) classes [(h0, .inr (5, [.ref p1, .ref p2, .ref p3, .ref p4, .ref p5, .null, .null, .null, .null, .int 0, .int 0, .int 0, .int 0, .int 0, .int 0, .int 0, .int 0, .int 0, .int 0, .int 0]))] H := hP
  have hD : va_D A [(h0, .inr (5, [.ref p1, .ref p2, .ref p3, .ref p4, .ref p5, .null, .null, .null, .null, .int 0, .int 0, .int 0, .int 0, .int 0, .int 0, .int 0, .int 0, .int 0, .int 0, .int 0]))] := hD
  refine lv_aload_n hx hb d_Par_init_31 rfl (lv_at hl 0 rfl) ?_
  refine va_new (ci := 0) (fs := [.int 0, .null, .int 0]) (C := R_Row) (T := T_Row) (N := 3) hx hb hT in_Row ty_Row tyo_Row hown (hT _ vt_44) (hT _ vt_10) (hT _ vt_11) hK hP hD hS hA rfl df_Row (Nat.le_of_ble_eq_true rfl) (Nat.le_of_ble_eq_true rfl) d_Par_init_32 (fun q_1 H hP hD hS => ?_)
  have hP : va_P (dC, dI) classes [(h0, .inr (5, [.ref p1, .ref p2, .ref p3, .ref p4, .ref p5, .null, .null, .null, .null, .int 0, .int 0, .int 0, .int 0, .int 0, .int 0, .int 0, .int 0, .int 0, .int 0, .int 0])), (q_1, .inr (0, [.int 0, .null, .int 0]))] H := hP
  have hD : va_D A [(h0, .inr (5, [.ref p1, .ref p2, .ref p3, .ref p4, .ref p5, .null, .null, .null, .null, .int 0, .int 0, .int 0, .int 0, .int 0, .int 0, .int 0, .int 0, .int 0, .int 0, .int 0])), (q_1, .inr (0, [.int 0, .null, .int 0]))] := hD
  refine W.widen (k := 1) (n := 3) (Nat.le_of_ble_eq_true rfl) (Nat.le_of_ble_eq_true rfl) ?_
  refine lv_dup hx hb d_Par_init_35 rfl ?_
  refine lv_bipush (v := 48) hx hb d_Par_init_36 (by decide) ?_
  refine lv_ldc (v := 16777216) hx hb hown (hT _ vt_45) d_Par_init_38 ?_
  have hPc := hP.sub (ws' := [(q_1, .inr (0, [.int 0, .null, .int 0]))]) [1] rfl
  have hDc := hD.sub (ws' := [(q_1, .inr (0, [.int 0, .null, .int 0]))]) [1] (by decide) rfl
  have hKc := hK.sub (tys' := []) [] rfl
  have hFc := va_free (wc := [(q_1, .inr (0, [.int 0, .null, .int 0]))]) hD hS hA [1] rfl
  refine va_callv (va_runI (As := [.int 48, .int 16777216]) (rest := [.ref q_1, .ref h0]) ⟨hx, hb, hml, hown, hT⟩ (c_Row_init l dC dI H.size q_1 48 48 16777216 (by decide) (by decide) (by decide) (by decide)) (cwI 2 hT (gI vt_13) rfl rfl rfl (hT _ vt_11) (hT _ vt_46) (hT _ vt_15) rfl (by decide +kernel) ⟨Nat.le_of_ble_eq_true rfl, Nat.le_of_ble_eq_true rfl⟩) ⟨Pw_blind, Pw_of hPc hKc hDc⟩ rfl rfl hl.1 rfl (lv_room (Nat.le_of_ble_eq_true rfl)) d_Par_init_40 ⟨Nat.le_of_ble_eq_true rfl, Nat.le_of_ble_eq_true rfl⟩) hS (fun q _ h => hFc q h) hFc (fun u t H1 locs ht hvm hw hB hz1 hk1 hS => ?_)
  obtain ⟨qa_2, cR_3, hP1, hK1, hD1⟩ := hB
  rw [ht] at hP1
  have hK1 := va_K.moved hvm.symm hK1
  obtain ⟨hP, hD⟩ := va_join (wr := [(h0, .inr (5, [.ref p1, .ref p2, .ref p3, .ref p4, .ref p5, .null, .null, .null, .null, .int 0, .int 0, .int 0, .int 0, .int 0, .int 0, .int 0, .int 0, .int 0, .int 0, .int 0]))]) (w1 := [(q_1, .inr (0, [.int 16777216, .ref qa_2, .int 0])), (qa_2, .inl (cR_3, 48, .inl (fun _ => 0)))]) hP hD [1] [0] rfl rfl (by decide) (by decide) hk1 hFc hP1 hD1
  have hK := hK.app hK1
  have hK : va_K (dC, dI) classes [(cR_3, .int)] s := hK
  generalize H1 = H at hP hS ⊢
  have hP : va_P (dC, dI) classes [(h0, .inr (5, [.ref p1, .ref p2, .ref p3, .ref p4, .ref p5, .null, .null, .null, .null, .int 0, .int 0, .int 0, .int 0, .int 0, .int 0, .int 0, .int 0, .int 0, .int 0, .int 0])), (q_1, .inr (0, [.int 16777216, .ref qa_2, .int 0])), (qa_2, .inl (cR_3, 48, .inl (fun _ => 0)))] H := hP
  have hD : va_D A [(h0, .inr (5, [.ref p1, .ref p2, .ref p3, .ref p4, .ref p5, .null, .null, .null, .null, .int 0, .int 0, .int 0, .int 0, .int 0, .int 0, .int 0, .int 0, .int 0, .int 0, .int 0])), (q_1, .inr (0, [.int 16777216, .ref qa_2, .int 0])), (qa_2, .inl (cR_3, 48, .inl (fun _ => 0)))] := hD
  refine W.widen (k := 2) (n := 51) (Nat.le_of_ble_eq_true rfl) (Nat.le_of_ble_eq_true rfl) ?_
  refine va_putF (D := (dC, dI)) (ci := 5) (v := .ref q_1) (ty := (.object "FamilyKernel$Row")) (C := R_Par) (T := T_Par) (N := 20) hx hb hT in_Par ty_Par tyo_Par nm_Par hown hK hP hD hS 0 rfl rfl 5 (by decide) (hT _ vt_47) (fun _ h9 => h9) rfl hin rfl (by decide +kernel) rfl rfl (Nat.le_of_ble_eq_true rfl) d_Par_init_43 (fun H locs hP hD hS => ?_)
  have hP : va_P (dC, dI) classes [(h0, .inr (5, [.ref p1, .ref p2, .ref p3, .ref p4, .ref p5, .ref q_1, .null, .null, .null, .int 0, .int 0, .int 0, .int 0, .int 0, .int 0, .int 0, .int 0, .int 0, .int 0, .int 0])), (q_1, .inr (0, [.int 16777216, .ref qa_2, .int 0])), (qa_2, .inl (cR_3, 48, .inl (fun _ => 0)))] H := hP
  have hD : va_D A [(h0, .inr (5, [.ref p1, .ref p2, .ref p3, .ref p4, .ref p5, .ref q_1, .null, .null, .null, .int 0, .int 0, .int 0, .int 0, .int 0, .int 0, .int 0, .int 0, .int 0, .int 0, .int 0])), (q_1, .inr (0, [.int 16777216, .ref qa_2, .int 0])), (qa_2, .inl (cR_3, 48, .inl (fun _ => 0)))] := hD
  have hP := hP.sub (ws' := [(h0, .inr (5, [.ref p1, .ref p2, .ref p3, .ref p4, .ref p5, .ref q_1, .null, .null, .null, .int 0, .int 0, .int 0, .int 0, .int 0, .int 0, .int 0, .int 0, .int 0, .int 0, .int 0]))]) [0] rfl
  have hD := hD.sub (ws' := [(h0, .inr (5, [.ref p1, .ref p2, .ref p3, .ref p4, .ref p5, .ref q_1, .null, .null, .null, .int 0, .int 0, .int 0, .int 0, .int 0, .int 0, .int 0, .int 0, .int 0, .int 0, .int 0]))]) [0] (by decide) rfl
  have hK := hK.sub (tys' := []) [] rfl
  refine lv_aload_n hx hb d_Par_init_46 rfl (lv_at hl 0 rfl) ?_
  refine va_new (ci := 0) (fs := [.int 0, .null, .int 0]) (C := R_Row) (T := T_Row) (N := 3) hx hb hT in_Row ty_Row tyo_Row hown (hT _ vt_44) (hT _ vt_10) (hT _ vt_11) hK hP hD hS hA rfl df_Row (Nat.le_of_ble_eq_true rfl) (Nat.le_of_ble_eq_true rfl) d_Par_init_47 (fun q_5 H hP hD hS => ?_)
  have hP : va_P (dC, dI) classes [(h0, .inr (5, [.ref p1, .ref p2, .ref p3, .ref p4, .ref p5, .ref q_1, .null, .null, .null, .int 0, .int 0, .int 0, .int 0, .int 0, .int 0, .int 0, .int 0, .int 0, .int 0, .int 0])), (q_5, .inr (0, [.int 0, .null, .int 0]))] H := hP
  have hD : va_D A [(h0, .inr (5, [.ref p1, .ref p2, .ref p3, .ref p4, .ref p5, .ref q_1, .null, .null, .null, .int 0, .int 0, .int 0, .int 0, .int 0, .int 0, .int 0, .int 0, .int 0, .int 0, .int 0])), (q_5, .inr (0, [.int 0, .null, .int 0]))] := hD
  refine W.widen (k := 3) (n := 54) (Nat.le_of_ble_eq_true rfl) (Nat.le_of_ble_eq_true rfl) ?_
  refine lv_dup hx hb d_Par_init_50 rfl ?_
  refine lv_bipush (v := 32) hx hb d_Par_init_51 (by decide) ?_
  refine lv_ldc (v := 16777216) hx hb hown (hT _ vt_45) d_Par_init_53 ?_
  have hPc := hP.sub (ws' := [(q_5, .inr (0, [.int 0, .null, .int 0]))]) [1] rfl
  have hDc := hD.sub (ws' := [(q_5, .inr (0, [.int 0, .null, .int 0]))]) [1] (by decide) rfl
  have hKc := hK.sub (tys' := []) [] rfl
  have hFc := va_free (wc := [(q_5, .inr (0, [.int 0, .null, .int 0]))]) hD hS hA [1] rfl
  refine va_callv (va_runI (As := [.int 32, .int 16777216]) (rest := [.ref q_5, .ref h0]) ⟨hx, hb, hml, hown, hT⟩ (c_Row_init l dC dI H.size q_5 32 32 16777216 (by decide) (by decide) (by decide) (by decide)) (cwI 2 hT (gI vt_13) rfl rfl rfl (hT _ vt_11) (hT _ vt_46) (hT _ vt_15) rfl (by decide +kernel) ⟨Nat.le_of_ble_eq_true rfl, Nat.le_of_ble_eq_true rfl⟩) ⟨Pw_blind, Pw_of hPc hKc hDc⟩ rfl rfl hl.1 rfl (lv_room (Nat.le_of_ble_eq_true rfl)) d_Par_init_55 ⟨Nat.le_of_ble_eq_true rfl, Nat.le_of_ble_eq_true rfl⟩) hS (fun q _ h => hFc q h) hFc (fun u t H1 locs ht hvm hw hB hz1 hk1 hS => ?_)
  obtain ⟨qa_6, cR_7, hP1, hK1, hD1⟩ := hB
  rw [ht] at hP1
  have hK1 := va_K.moved hvm.symm hK1
  obtain ⟨hP, hD⟩ := va_join (wr := [(h0, .inr (5, [.ref p1, .ref p2, .ref p3, .ref p4, .ref p5, .ref q_1, .null, .null, .null, .int 0, .int 0, .int 0, .int 0, .int 0, .int 0, .int 0, .int 0, .int 0, .int 0, .int 0]))]) (w1 := [(q_5, .inr (0, [.int 16777216, .ref qa_6, .int 0])), (qa_6, .inl (cR_7, 32, .inl (fun _ => 0)))]) hP hD [1] [0] rfl rfl (by decide) (by decide) hk1 hFc hP1 hD1
  have hK := hK.app hK1
  have hK : va_K (dC, dI) classes [(cR_7, .int)] s := hK
  generalize H1 = H at hP hS ⊢
  have hP : va_P (dC, dI) classes [(h0, .inr (5, [.ref p1, .ref p2, .ref p3, .ref p4, .ref p5, .ref q_1, .null, .null, .null, .int 0, .int 0, .int 0, .int 0, .int 0, .int 0, .int 0, .int 0, .int 0, .int 0, .int 0])), (q_5, .inr (0, [.int 16777216, .ref qa_6, .int 0])), (qa_6, .inl (cR_7, 32, .inl (fun _ => 0)))] H := hP
  have hD : va_D A [(h0, .inr (5, [.ref p1, .ref p2, .ref p3, .ref p4, .ref p5, .ref q_1, .null, .null, .null, .int 0, .int 0, .int 0, .int 0, .int 0, .int 0, .int 0, .int 0, .int 0, .int 0, .int 0])), (q_5, .inr (0, [.int 16777216, .ref qa_6, .int 0])), (qa_6, .inl (cR_7, 32, .inl (fun _ => 0)))] := hD
  refine W.widen (k := 4) (n := 86) (Nat.le_of_ble_eq_true rfl) (Nat.le_of_ble_eq_true rfl) ?_
  refine va_putF (D := (dC, dI)) (ci := 5) (v := .ref q_5) (ty := (.object "FamilyKernel$Row")) (C := R_Par) (T := T_Par) (N := 20) hx hb hT in_Par ty_Par tyo_Par nm_Par hown hK hP hD hS 0 rfl rfl 6 (by decide) (hT _ vt_48) (fun _ h9 => h9) rfl hin rfl (by decide +kernel) rfl rfl (Nat.le_of_ble_eq_true rfl) d_Par_init_58 (fun H locs hP hD hS => ?_)
  have hP : va_P (dC, dI) classes [(h0, .inr (5, [.ref p1, .ref p2, .ref p3, .ref p4, .ref p5, .ref q_1, .ref q_5, .null, .null, .int 0, .int 0, .int 0, .int 0, .int 0, .int 0, .int 0, .int 0, .int 0, .int 0, .int 0])), (q_5, .inr (0, [.int 16777216, .ref qa_6, .int 0])), (qa_6, .inl (cR_7, 32, .inl (fun _ => 0)))] H := hP
  have hD : va_D A [(h0, .inr (5, [.ref p1, .ref p2, .ref p3, .ref p4, .ref p5, .ref q_1, .ref q_5, .null, .null, .int 0, .int 0, .int 0, .int 0, .int 0, .int 0, .int 0, .int 0, .int 0, .int 0, .int 0])), (q_5, .inr (0, [.int 16777216, .ref qa_6, .int 0])), (qa_6, .inl (cR_7, 32, .inl (fun _ => 0)))] := hD
  have hP := hP.sub (ws' := [(h0, .inr (5, [.ref p1, .ref p2, .ref p3, .ref p4, .ref p5, .ref q_1, .ref q_5, .null, .null, .int 0, .int 0, .int 0, .int 0, .int 0, .int 0, .int 0, .int 0, .int 0, .int 0, .int 0]))]) [0] rfl
  have hD := hD.sub (ws' := [(h0, .inr (5, [.ref p1, .ref p2, .ref p3, .ref p4, .ref p5, .ref q_1, .ref q_5, .null, .null, .int 0, .int 0, .int 0, .int 0, .int 0, .int 0, .int 0, .int 0, .int 0, .int 0, .int 0]))]) [0] (by decide) rfl
  have hK := hK.sub (tys' := []) [] rfl
  refine lv_aload_n hx hb d_Par_init_61 rfl (lv_at hl 0 rfl) ?_
  refine va_new (ci := 0) (fs := [.int 0, .null, .int 0]) (C := R_Row) (T := T_Row) (N := 3) hx hb hT in_Row ty_Row tyo_Row hown (hT _ vt_44) (hT _ vt_10) (hT _ vt_11) hK hP hD hS hA rfl df_Row (Nat.le_of_ble_eq_true rfl) (Nat.le_of_ble_eq_true rfl) d_Par_init_62 (fun q_9 H hP hD hS => ?_)
  have hP : va_P (dC, dI) classes [(h0, .inr (5, [.ref p1, .ref p2, .ref p3, .ref p4, .ref p5, .ref q_1, .ref q_5, .null, .null, .int 0, .int 0, .int 0, .int 0, .int 0, .int 0, .int 0, .int 0, .int 0, .int 0, .int 0])), (q_9, .inr (0, [.int 0, .null, .int 0]))] H := hP
  have hD : va_D A [(h0, .inr (5, [.ref p1, .ref p2, .ref p3, .ref p4, .ref p5, .ref q_1, .ref q_5, .null, .null, .int 0, .int 0, .int 0, .int 0, .int 0, .int 0, .int 0, .int 0, .int 0, .int 0, .int 0])), (q_9, .inr (0, [.int 0, .null, .int 0]))] := hD
  refine W.widen (k := 5) (n := 89) (Nat.le_of_ble_eq_true rfl) (Nat.le_of_ble_eq_true rfl) ?_
  refine lv_dup hx hb d_Par_init_65 rfl ?_
  refine lv_bipush (v := 32) hx hb d_Par_init_66 (by decide) ?_
  refine lv_ldc (v := 16777216) hx hb hown (hT _ vt_45) d_Par_init_68 ?_
  have hPc := hP.sub (ws' := [(q_9, .inr (0, [.int 0, .null, .int 0]))]) [1] rfl
  have hDc := hD.sub (ws' := [(q_9, .inr (0, [.int 0, .null, .int 0]))]) [1] (by decide) rfl
  have hKc := hK.sub (tys' := []) [] rfl
  have hFc := va_free (wc := [(q_9, .inr (0, [.int 0, .null, .int 0]))]) hD hS hA [1] rfl
  refine va_callv (va_runI (As := [.int 32, .int 16777216]) (rest := [.ref q_9, .ref h0]) ⟨hx, hb, hml, hown, hT⟩ (c_Row_init l dC dI H.size q_9 32 32 16777216 (by decide) (by decide) (by decide) (by decide)) (cwI 2 hT (gI vt_13) rfl rfl rfl (hT _ vt_11) (hT _ vt_46) (hT _ vt_15) rfl (by decide +kernel) ⟨Nat.le_of_ble_eq_true rfl, Nat.le_of_ble_eq_true rfl⟩) ⟨Pw_blind, Pw_of hPc hKc hDc⟩ rfl rfl hl.1 rfl (lv_room (Nat.le_of_ble_eq_true rfl)) d_Par_init_70 ⟨Nat.le_of_ble_eq_true rfl, Nat.le_of_ble_eq_true rfl⟩) hS (fun q _ h => hFc q h) hFc (fun u t H1 locs ht hvm hw hB hz1 hk1 hS => ?_)
  obtain ⟨qa_10, cR_11, hP1, hK1, hD1⟩ := hB
  rw [ht] at hP1
  have hK1 := va_K.moved hvm.symm hK1
  obtain ⟨hP, hD⟩ := va_join (wr := [(h0, .inr (5, [.ref p1, .ref p2, .ref p3, .ref p4, .ref p5, .ref q_1, .ref q_5, .null, .null, .int 0, .int 0, .int 0, .int 0, .int 0, .int 0, .int 0, .int 0, .int 0, .int 0, .int 0]))]) (w1 := [(q_9, .inr (0, [.int 16777216, .ref qa_10, .int 0])), (qa_10, .inl (cR_11, 32, .inl (fun _ => 0)))]) hP hD [1] [0] rfl rfl (by decide) (by decide) hk1 hFc hP1 hD1
  have hK := hK.app hK1
  have hK : va_K (dC, dI) classes [(cR_11, .int)] s := hK
  generalize H1 = H at hP hS ⊢
  have hP : va_P (dC, dI) classes [(h0, .inr (5, [.ref p1, .ref p2, .ref p3, .ref p4, .ref p5, .ref q_1, .ref q_5, .null, .null, .int 0, .int 0, .int 0, .int 0, .int 0, .int 0, .int 0, .int 0, .int 0, .int 0, .int 0])), (q_9, .inr (0, [.int 16777216, .ref qa_10, .int 0])), (qa_10, .inl (cR_11, 32, .inl (fun _ => 0)))] H := hP
  have hD : va_D A [(h0, .inr (5, [.ref p1, .ref p2, .ref p3, .ref p4, .ref p5, .ref q_1, .ref q_5, .null, .null, .int 0, .int 0, .int 0, .int 0, .int 0, .int 0, .int 0, .int 0, .int 0, .int 0, .int 0])), (q_9, .inr (0, [.int 16777216, .ref qa_10, .int 0])), (qa_10, .inl (cR_11, 32, .inl (fun _ => 0)))] := hD
  refine W.widen (k := 6) (n := 121) (Nat.le_of_ble_eq_true rfl) (Nat.le_of_ble_eq_true rfl) ?_
  refine va_putF (D := (dC, dI)) (ci := 5) (v := .ref q_9) (ty := (.object "FamilyKernel$Row")) (C := R_Par) (T := T_Par) (N := 20) hx hb hT in_Par ty_Par tyo_Par nm_Par hown hK hP hD hS 0 rfl rfl 7 (by decide) (hT _ vt_49) (fun _ h9 => h9) rfl hin rfl (by decide +kernel) rfl rfl (Nat.le_of_ble_eq_true rfl) d_Par_init_73 (fun H locs hP hD hS => ?_)
  have hP : va_P (dC, dI) classes [(h0, .inr (5, [.ref p1, .ref p2, .ref p3, .ref p4, .ref p5, .ref q_1, .ref q_5, .ref q_9, .null, .int 0, .int 0, .int 0, .int 0, .int 0, .int 0, .int 0, .int 0, .int 0, .int 0, .int 0])), (q_9, .inr (0, [.int 16777216, .ref qa_10, .int 0])), (qa_10, .inl (cR_11, 32, .inl (fun _ => 0)))] H := hP
  have hD : va_D A [(h0, .inr (5, [.ref p1, .ref p2, .ref p3, .ref p4, .ref p5, .ref q_1, .ref q_5, .ref q_9, .null, .int 0, .int 0, .int 0, .int 0, .int 0, .int 0, .int 0, .int 0, .int 0, .int 0, .int 0])), (q_9, .inr (0, [.int 16777216, .ref qa_10, .int 0])), (qa_10, .inl (cR_11, 32, .inl (fun _ => 0)))] := hD
  have hP := hP.sub (ws' := [(h0, .inr (5, [.ref p1, .ref p2, .ref p3, .ref p4, .ref p5, .ref q_1, .ref q_5, .ref q_9, .null, .int 0, .int 0, .int 0, .int 0, .int 0, .int 0, .int 0, .int 0, .int 0, .int 0, .int 0]))]) [0] rfl
  have hD := hD.sub (ws' := [(h0, .inr (5, [.ref p1, .ref p2, .ref p3, .ref p4, .ref p5, .ref q_1, .ref q_5, .ref q_9, .null, .int 0, .int 0, .int 0, .int 0, .int 0, .int 0, .int 0, .int 0, .int 0, .int 0, .int 0]))]) [0] (by decide) rfl
  have hK := hK.sub (tys' := []) [] rfl
  refine lv_aload_n hx hb d_Par_init_76 rfl (lv_at hl 0 rfl) ?_
  refine va_new (ci := 0) (fs := [.int 0, .null, .int 0]) (C := R_Row) (T := T_Row) (N := 3) hx hb hT in_Row ty_Row tyo_Row hown (hT _ vt_44) (hT _ vt_10) (hT _ vt_11) hK hP hD hS hA rfl df_Row (Nat.le_of_ble_eq_true rfl) (Nat.le_of_ble_eq_true rfl) d_Par_init_77 (fun q_13 H hP hD hS => ?_)
  have hP : va_P (dC, dI) classes [(h0, .inr (5, [.ref p1, .ref p2, .ref p3, .ref p4, .ref p5, .ref q_1, .ref q_5, .ref q_9, .null, .int 0, .int 0, .int 0, .int 0, .int 0, .int 0, .int 0, .int 0, .int 0, .int 0, .int 0])), (q_13, .inr (0, [.int 0, .null, .int 0]))] H := hP
  have hD : va_D A [(h0, .inr (5, [.ref p1, .ref p2, .ref p3, .ref p4, .ref p5, .ref q_1, .ref q_5, .ref q_9, .null, .int 0, .int 0, .int 0, .int 0, .int 0, .int 0, .int 0, .int 0, .int 0, .int 0, .int 0])), (q_13, .inr (0, [.int 0, .null, .int 0]))] := hD
  refine W.widen (k := 7) (n := 124) (Nat.le_of_ble_eq_true rfl) (Nat.le_of_ble_eq_true rfl) ?_
  refine lv_dup hx hb d_Par_init_80 rfl ?_
  refine lv_bipush (v := 32) hx hb d_Par_init_81 (by decide) ?_
  refine lv_ldc (v := 16777216) hx hb hown (hT _ vt_45) d_Par_init_83 ?_
  have hPc := hP.sub (ws' := [(q_13, .inr (0, [.int 0, .null, .int 0]))]) [1] rfl
  have hDc := hD.sub (ws' := [(q_13, .inr (0, [.int 0, .null, .int 0]))]) [1] (by decide) rfl
  have hKc := hK.sub (tys' := []) [] rfl
  have hFc := va_free (wc := [(q_13, .inr (0, [.int 0, .null, .int 0]))]) hD hS hA [1] rfl
  refine va_callv (va_runI (As := [.int 32, .int 16777216]) (rest := [.ref q_13, .ref h0]) ⟨hx, hb, hml, hown, hT⟩ (c_Row_init l dC dI H.size q_13 32 32 16777216 (by decide) (by decide) (by decide) (by decide)) (cwI 2 hT (gI vt_13) rfl rfl rfl (hT _ vt_11) (hT _ vt_46) (hT _ vt_15) rfl (by decide +kernel) ⟨Nat.le_of_ble_eq_true rfl, Nat.le_of_ble_eq_true rfl⟩) ⟨Pw_blind, Pw_of hPc hKc hDc⟩ rfl rfl hl.1 rfl (lv_room (Nat.le_of_ble_eq_true rfl)) d_Par_init_85 ⟨Nat.le_of_ble_eq_true rfl, Nat.le_of_ble_eq_true rfl⟩) hS (fun q _ h => hFc q h) hFc (fun u t H1 locs ht hvm hw hB hz1 hk1 hS => ?_)
  obtain ⟨qa_14, cR_15, hP1, hK1, hD1⟩ := hB
  rw [ht] at hP1
  have hK1 := va_K.moved hvm.symm hK1
  obtain ⟨hP, hD⟩ := va_join (wr := [(h0, .inr (5, [.ref p1, .ref p2, .ref p3, .ref p4, .ref p5, .ref q_1, .ref q_5, .ref q_9, .null, .int 0, .int 0, .int 0, .int 0, .int 0, .int 0, .int 0, .int 0, .int 0, .int 0, .int 0]))]) (w1 := [(q_13, .inr (0, [.int 16777216, .ref qa_14, .int 0])), (qa_14, .inl (cR_15, 32, .inl (fun _ => 0)))]) hP hD [1] [0] rfl rfl (by decide) (by decide) hk1 hFc hP1 hD1
  have hK := hK.app hK1
  have hK : va_K (dC, dI) classes [(cR_15, .int)] s := hK
  generalize H1 = H at hP hS ⊢
  have hP : va_P (dC, dI) classes [(h0, .inr (5, [.ref p1, .ref p2, .ref p3, .ref p4, .ref p5, .ref q_1, .ref q_5, .ref q_9, .null, .int 0, .int 0, .int 0, .int 0, .int 0, .int 0, .int 0, .int 0, .int 0, .int 0, .int 0])), (q_13, .inr (0, [.int 16777216, .ref qa_14, .int 0])), (qa_14, .inl (cR_15, 32, .inl (fun _ => 0)))] H := hP
  have hD : va_D A [(h0, .inr (5, [.ref p1, .ref p2, .ref p3, .ref p4, .ref p5, .ref q_1, .ref q_5, .ref q_9, .null, .int 0, .int 0, .int 0, .int 0, .int 0, .int 0, .int 0, .int 0, .int 0, .int 0, .int 0])), (q_13, .inr (0, [.int 16777216, .ref qa_14, .int 0])), (qa_14, .inl (cR_15, 32, .inl (fun _ => 0)))] := hD
  refine W.widen (k := 8) (n := 156) (Nat.le_of_ble_eq_true rfl) (Nat.le_of_ble_eq_true rfl) ?_
  refine va_putF (D := (dC, dI)) (ci := 5) (v := .ref q_13) (ty := (.object "FamilyKernel$Row")) (C := R_Par) (T := T_Par) (N := 20) hx hb hT in_Par ty_Par tyo_Par nm_Par hown hK hP hD hS 0 rfl rfl 8 (by decide) (hT _ vt_50) (fun _ h9 => h9) rfl hin rfl (by decide +kernel) rfl rfl (Nat.le_of_ble_eq_true rfl) d_Par_init_88 (fun H locs hP hD hS => ?_)
  have hP : va_P (dC, dI) classes [(h0, .inr (5, [.ref p1, .ref p2, .ref p3, .ref p4, .ref p5, .ref q_1, .ref q_5, .ref q_9, .ref q_13, .int 0, .int 0, .int 0, .int 0, .int 0, .int 0, .int 0, .int 0, .int 0, .int 0, .int 0])), (q_13, .inr (0, [.int 16777216, .ref qa_14, .int 0])), (qa_14, .inl (cR_15, 32, .inl (fun _ => 0)))] H := hP
  have hD : va_D A [(h0, .inr (5, [.ref p1, .ref p2, .ref p3, .ref p4, .ref p5, .ref q_1, .ref q_5, .ref q_9, .ref q_13, .int 0, .int 0, .int 0, .int 0, .int 0, .int 0, .int 0, .int 0, .int 0, .int 0, .int 0])), (q_13, .inr (0, [.int 16777216, .ref qa_14, .int 0])), (qa_14, .inl (cR_15, 32, .inl (fun _ => 0)))] := hD
  have hP := hP.sub (ws' := [(h0, .inr (5, [.ref p1, .ref p2, .ref p3, .ref p4, .ref p5, .ref q_1, .ref q_5, .ref q_9, .ref q_13, .int 0, .int 0, .int 0, .int 0, .int 0, .int 0, .int 0, .int 0, .int 0, .int 0, .int 0]))]) [0] rfl
  have hD := hD.sub (ws' := [(h0, .inr (5, [.ref p1, .ref p2, .ref p3, .ref p4, .ref p5, .ref q_1, .ref q_5, .ref q_9, .ref q_13, .int 0, .int 0, .int 0, .int 0, .int 0, .int 0, .int 0, .int 0, .int 0, .int 0, .int 0]))]) [0] (by decide) rfl
  have hK := hK.sub (tys' := []) [] rfl
  refine W.widen (k := 8) (n := 156) (Nat.le_of_ble_eq_true rfl) (Nat.le_of_ble_eq_true rfl) ?_
  exact W.vret hx hb hr (fun t ht hW => ⟨⟨(), rfl, trivial, trivial⟩, hS.F ht⟩) hS.2.2 d_Par_init_91
set_option maxHeartbeats 4000000 in
set_option maxRecDepth 100000 in
/-- Fra(..) -/
theorem c_Fra_init (l : Launch) (dC : Nat → ClassId) (dI : Nat → Nat → Nat) (sz : Nat) (h0 : Nat) : Met l y_Fra_init w_Fra_init ({ frames := 20, cells := 4, slots := 198, locals := 600 }) (Pw dC dI [.ref h0] sz [(h0, .inr (6, [.null, .null, .int 0]))] []) (va_Qv (fun _ : Unit => True) (fun _ t => True) (va_A [(h0, .inr (6, [.null, .null, .int 0]))] sz)) 4 198 (va_A [(h0, .inr (6, [.null, .null, .int 0]))] sz) := by
  refine Met.ofW (cc := b_Fra_init) (maxL := 1) (ret := none) (by decide) rfl ?_
  intro p e s m args below meth c s₁ B hml hv
  obtain ⟨rfl, hsz, hP, hK, hD0⟩ := hv
  have hx := B.exec
  have hb := B.bytes
  have hr := B.returns
  have hT : ∀ w ∈ vT, w.before _ s = true := fun w h => atoms_spec (ws := w_Fra_init) B.pre w (List.mem_cons_of_mem _ h)
  have hown : s.vm.findClass R_Fra = some m.cls := findClass_of_methodNamed B.named
  have hlocks := B.notSynchronized
  have hin : meth.name = "<init>" := (name_of_methodNamed B.named B.method).1
  subst hsz
  have hD := hD0.self (sz := s.heap.size)
  generalize hAe : va_A [(h0, .inr (6, [.null, .null, .int 0]))] s.heap.size = A at hD ⊢
  have hA : ∀ q : Nat, s.heap.size ≤ q → A q := fun q h => by rw [← hAe]; exact Or.inr h
  have hS : va_S A s.heap s.heap [] := va_S.rf
  have hP : va_P (dC, dI) classes [(h0, .inr (6, [.null, .null, .int 0]))] s.heap := hP
  have hl := lv_entry ([.ref h0]) (n := 1) (Nat.le_of_ble_eq_true rfl)
  rw [lg_entry_eq]
  generalize (lg_sl ([.ref h0]) ++ List.replicate (1 - (lg_sl ([.ref h0])).length) Slot.unset).toArray = ls at hl ⊢
  have hl : lv_has ls 1 [(0, .ref h0)] := hl
  refine lv_aload_n hx hb d_Fra_init_0 rfl (lv_at hl 0 rfl) ?_
  refine W.objInit hx hb hown (hT _ vt_51) (hT _ vt_1) (hT _ vt_2) rfl (by rw [hml]; exact hl.1) rfl d_Fra_init_1 (Nat.le_of_ble_eq_true rfl) (Nat.le_of_ble_eq_true rfl) ?_
  refine W.eq (g2 := F0 m 4 ls []) rfl ?_
  refine lv_aload_n hx hb d_Fra_init_4 rfl (lv_at hl 0 rfl) ?_
  refine va_new (ci := 0) (fs := [.int 0, .null, .int 0]) (C := R_Row) (T := T_Row) (N := 3) hx hb hT in_Row ty_Row tyo_Row hown (hT _ vt_52) (hT _ vt_10) (hT _ vt_11) hK hP hD hS hA rfl df_Row (Nat.le_of_ble_eq_true rfl) (Nat.le_of_ble_eq_true rfl) d_Fra_init_5 (fun q_1 H hP hD hS => ?_)
  have hP : va_P (dC, dI) classes [(h0, .inr (6, [.null, .null, .int 0])), (q_1, .inr (0, [.int 0, .null, .int 0]))] H := hP
  have hD : va_D A [(h0, .inr (6, [.null, .null, .int 0])), (q_1, .inr (0, [.int 0, .null, .int 0]))] := hD
  refine W.widen (k := 1) (n := 3) (Nat.le_of_ble_eq_true rfl) (Nat.le_of_ble_eq_true rfl) ?_
  refine lv_dup hx hb d_Fra_init_8 rfl ?_
  refine lv_sipush (v := 160) hx hb d_Fra_init_9 (by decide) ?_
  refine lv_ldc (v := 16777216) hx hb hown (hT _ vt_53) d_Fra_init_12 ?_
  have hPc := hP.sub (ws' := [(q_1, .inr (0, [.int 0, .null, .int 0]))]) [1] rfl
  have hDc := hD.sub (ws' := [(q_1, .inr (0, [.int 0, .null, .int 0]))]) [1] (by decide) rfl
  have hKc := hK.sub (tys' := []) [] rfl
  have hFc := va_free (wc := [(q_1, .inr (0, [.int 0, .null, .int 0]))]) hD hS hA [1] rfl
  refine va_callv (va_runI (As := [.int 160, .int 16777216]) (rest := [.ref q_1, .ref h0]) ⟨hx, hb, hml, hown, hT⟩ (c_Row_init l dC dI H.size q_1 160 160 16777216 (by decide) (by decide) (by decide) (by decide)) (cwI 2 hT (gI vt_13) rfl rfl rfl (hT _ vt_11) (hT _ vt_54) (hT _ vt_15) rfl (by decide +kernel) ⟨Nat.le_of_ble_eq_true rfl, Nat.le_of_ble_eq_true rfl⟩) ⟨Pw_blind, Pw_of hPc hKc hDc⟩ rfl rfl hl.1 rfl (lv_room (Nat.le_of_ble_eq_true rfl)) d_Fra_init_14 ⟨Nat.le_of_ble_eq_true rfl, Nat.le_of_ble_eq_true rfl⟩) hS (fun q _ h => hFc q h) hFc (fun u t H1 locs ht hvm hw hB hz1 hk1 hS => ?_)
  obtain ⟨qa_2, cR_3, hP1, hK1, hD1⟩ := hB
  rw [ht] at hP1
  have hK1 := va_K.moved hvm.symm hK1
  obtain ⟨hP, hD⟩ := va_join (wr := [(h0, .inr (6, [.null, .null, .int 0]))]) (w1 := [(q_1, .inr (0, [.int 16777216, .ref qa_2, .int 0])), (qa_2, .inl (cR_3, 160, .inl (fun _ => 0)))]) hP hD [1] [0] rfl rfl (by decide) (by decide) hk1 hFc hP1 hD1
  have hK := hK.app hK1
  have hK : va_K (dC, dI) classes [(cR_3, .int)] s := hK
  generalize H1 = H at hP hS ⊢
  have hP : va_P (dC, dI) classes [(h0, .inr (6, [.null, .null, .int 0])), (q_1, .inr (0, [.int 16777216, .ref qa_2, .int 0])), (qa_2, .inl (cR_3, 160, .inl (fun _ => 0)))] H := hP
  have hD : va_D A [(h0, .inr (6, [.null, .null, .int 0])), (q_1, .inr (0, [.int 16777216, .ref qa_2, .int 0])), (qa_2, .inl (cR_3, 160, .inl (fun _ => 0)))] := hD
  refine W.widen (k := 2) (n := 163) (Nat.le_of_ble_eq_true rfl) (Nat.le_of_ble_eq_true rfl) ?_
  refine va_putF (D := (dC, dI)) (ci := 6) (v := .ref q_1) (ty := (.object "FamilyKernel$Row")) (C := R_Fra) (T := T_Fra) (N := 3) hx hb hT in_Fra ty_Fra tyo_Fra nm_Fra hown hK hP hD hS 0 rfl rfl 0 (by decide) (hT _ vt_55) (fun _ h9 => h9) rfl hin rfl (by decide +kernel) rfl rfl (Nat.le_of_ble_eq_true rfl) d_Fra_init_17 (fun H locs hP hD hS => ?_)
  have hP : va_P (dC, dI) classes [(h0, .inr (6, [.ref q_1, .null, .int 0])), (q_1, .inr (0, [.int 16777216, .ref qa_2, .int 0])), (qa_2, .inl (cR_3, 160, .inl (fun _ => 0)))] H := hP
  have hD : va_D A [(h0, .inr (6, [.ref q_1, .null, .int 0])), (q_1, .inr (0, [.int 16777216, .ref qa_2, .int 0])), (qa_2, .inl (cR_3, 160, .inl (fun _ => 0)))] := hD
  have hP := hP.sub (ws' := [(h0, .inr (6, [.ref q_1, .null, .int 0]))]) [0] rfl
  have hD := hD.sub (ws' := [(h0, .inr (6, [.ref q_1, .null, .int 0]))]) [0] (by decide) rfl
  have hK := hK.sub (tys' := []) [] rfl
  refine lv_aload_n hx hb d_Fra_init_20 rfl (lv_at hl 0 rfl) ?_
  refine va_new (ci := 0) (fs := [.int 0, .null, .int 0]) (C := R_Row) (T := T_Row) (N := 3) hx hb hT in_Row ty_Row tyo_Row hown (hT _ vt_52) (hT _ vt_10) (hT _ vt_11) hK hP hD hS hA rfl df_Row (Nat.le_of_ble_eq_true rfl) (Nat.le_of_ble_eq_true rfl) d_Fra_init_21 (fun q_5 H hP hD hS => ?_)
  have hP : va_P (dC, dI) classes [(h0, .inr (6, [.ref q_1, .null, .int 0])), (q_5, .inr (0, [.int 0, .null, .int 0]))] H := hP
  have hD : va_D A [(h0, .inr (6, [.ref q_1, .null, .int 0])), (q_5, .inr (0, [.int 0, .null, .int 0]))] := hD
  refine W.widen (k := 3) (n := 166) (Nat.le_of_ble_eq_true rfl) (Nat.le_of_ble_eq_true rfl) ?_
  refine lv_dup hx hb d_Fra_init_24 rfl ?_
  refine lv_bipush (v := 32) hx hb d_Fra_init_25 (by decide) ?_
  refine lv_ldc (v := 16777216) hx hb hown (hT _ vt_53) d_Fra_init_27 ?_
  have hPc := hP.sub (ws' := [(q_5, .inr (0, [.int 0, .null, .int 0]))]) [1] rfl
  have hDc := hD.sub (ws' := [(q_5, .inr (0, [.int 0, .null, .int 0]))]) [1] (by decide) rfl
  have hKc := hK.sub (tys' := []) [] rfl
  have hFc := va_free (wc := [(q_5, .inr (0, [.int 0, .null, .int 0]))]) hD hS hA [1] rfl
  refine va_callv (va_runI (As := [.int 32, .int 16777216]) (rest := [.ref q_5, .ref h0]) ⟨hx, hb, hml, hown, hT⟩ (c_Row_init l dC dI H.size q_5 32 32 16777216 (by decide) (by decide) (by decide) (by decide)) (cwI 2 hT (gI vt_13) rfl rfl rfl (hT _ vt_11) (hT _ vt_54) (hT _ vt_15) rfl (by decide +kernel) ⟨Nat.le_of_ble_eq_true rfl, Nat.le_of_ble_eq_true rfl⟩) ⟨Pw_blind, Pw_of hPc hKc hDc⟩ rfl rfl hl.1 rfl (lv_room (Nat.le_of_ble_eq_true rfl)) d_Fra_init_29 ⟨Nat.le_of_ble_eq_true rfl, Nat.le_of_ble_eq_true rfl⟩) hS (fun q _ h => hFc q h) hFc (fun u t H1 locs ht hvm hw hB hz1 hk1 hS => ?_)
  obtain ⟨qa_6, cR_7, hP1, hK1, hD1⟩ := hB
  rw [ht] at hP1
  have hK1 := va_K.moved hvm.symm hK1
  obtain ⟨hP, hD⟩ := va_join (wr := [(h0, .inr (6, [.ref q_1, .null, .int 0]))]) (w1 := [(q_5, .inr (0, [.int 16777216, .ref qa_6, .int 0])), (qa_6, .inl (cR_7, 32, .inl (fun _ => 0)))]) hP hD [1] [0] rfl rfl (by decide) (by decide) hk1 hFc hP1 hD1
  have hK := hK.app hK1
  have hK : va_K (dC, dI) classes [(cR_7, .int)] s := hK
  generalize H1 = H at hP hS ⊢
  have hP : va_P (dC, dI) classes [(h0, .inr (6, [.ref q_1, .null, .int 0])), (q_5, .inr (0, [.int 16777216, .ref qa_6, .int 0])), (qa_6, .inl (cR_7, 32, .inl (fun _ => 0)))] H := hP
  have hD : va_D A [(h0, .inr (6, [.ref q_1, .null, .int 0])), (q_5, .inr (0, [.int 16777216, .ref qa_6, .int 0])), (qa_6, .inl (cR_7, 32, .inl (fun _ => 0)))] := hD
  refine W.widen (k := 4) (n := 198) (Nat.le_of_ble_eq_true rfl) (Nat.le_of_ble_eq_true rfl) ?_
  refine va_putF (D := (dC, dI)) (ci := 6) (v := .ref q_5) (ty := (.object "FamilyKernel$Row")) (C := R_Fra) (T := T_Fra) (N := 3) hx hb hT in_Fra ty_Fra tyo_Fra nm_Fra hown hK hP hD hS 0 rfl rfl 1 (by decide) (hT _ vt_56) (fun _ h9 => h9) rfl hin rfl (by decide +kernel) rfl rfl (Nat.le_of_ble_eq_true rfl) d_Fra_init_32 (fun H locs hP hD hS => ?_)
  have hP : va_P (dC, dI) classes [(h0, .inr (6, [.ref q_1, .ref q_5, .int 0])), (q_5, .inr (0, [.int 16777216, .ref qa_6, .int 0])), (qa_6, .inl (cR_7, 32, .inl (fun _ => 0)))] H := hP
  have hD : va_D A [(h0, .inr (6, [.ref q_1, .ref q_5, .int 0])), (q_5, .inr (0, [.int 16777216, .ref qa_6, .int 0])), (qa_6, .inl (cR_7, 32, .inl (fun _ => 0)))] := hD
  have hP := hP.sub (ws' := [(h0, .inr (6, [.ref q_1, .ref q_5, .int 0]))]) [0] rfl
  have hD := hD.sub (ws' := [(h0, .inr (6, [.ref q_1, .ref q_5, .int 0]))]) [0] (by decide) rfl
  have hK := hK.sub (tys' := []) [] rfl
  refine W.widen (k := 4) (n := 198) (Nat.le_of_ble_eq_true rfl) (Nat.le_of_ble_eq_true rfl) ?_
  exact W.vret hx hb hr (fun t ht hW => ⟨⟨(), rfl, trivial, trivial⟩, hS.F ht⟩) hS.2.2 d_Fra_init_35
set_option maxHeartbeats 4000000 in
set_option maxRecDepth 100000 in
/-- Red(..) -/
theorem c_Red_init (l : Launch) (dC : Nat → ClassId) (dI : Nat → Nat → Nat) (sz : Nat) (h0 p1 p2 p3 p4 : Nat) : Met l y_Red_init w_Red_init ({ frames := 20, cells := 2, slots := 35, locals := 600 }) (Pw dC dI [.ref h0, .ref p1, .ref p2, .ref p3, .ref p4] sz [(h0, .inr (7, [.null, .null, .null, .null, .null]))] []) (va_Qv (fun _ : Unit => True) (fun _ t => True) (va_A [(h0, .inr (7, [.null, .null, .null, .null, .null]))] sz)) 2 35 (va_A [(h0, .inr (7, [.null, .null, .null, .null, .null]))] sz) := by
  refine Met.ofW (cc := b_Red_init) (maxL := 5) (ret := none) (by decide) rfl ?_
  intro p e s m args below meth c s₁ B hml hv
  obtain ⟨rfl, hsz, hP, hK, hD0⟩ := hv
  have hx := B.exec
  have hb := B.bytes
  have hr := B.returns
  have hT : ∀ w ∈ vT, w.before _ s = true := fun w h => atoms_spec (ws := w_Red_init) B.pre w (List.mem_cons_of_mem _ h)
  have hown : s.vm.findClass R_Red = some m.cls := findClass_of_methodNamed B.named
  have hlocks := B.notSynchronized
  have hin : meth.name = "<init>" := (name_of_methodNamed B.named B.method).1
  subst hsz
  have hD := hD0.self (sz := s.heap.size)
  generalize hAe : va_A [(h0, .inr (7, [.null, .null, .null, .null, .null]))] s.heap.size = A at hD ⊢
  have hA : ∀ q : Nat, s.heap.size ≤ q → A q := fun q h => by rw [← hAe]; exact Or.inr h
  have hS : va_S A s.heap s.heap [] := va_S.rf
  have hP : va_P (dC, dI) classes [(h0, .inr (7, [.null, .null, .null, .null, .null]))] s.heap := hP
  have hl := lv_entry ([.ref h0, .ref p1, .ref p2, .ref p3, .ref p4]) (n := 5) (Nat.le_of_ble_eq_true rfl)
  rw [lg_entry_eq]
  generalize (lg_sl ([.ref h0, .ref p1, .ref p2, .ref p3, .ref p4]) ++ List.replicate (5 - (lg_sl ([.ref h0, .ref p1, .ref p2, .ref p3, .ref p4])).length) Slot.unset).toArray = ls at hl ⊢
  have hl : lv_has ls 5 [(0, .ref h0), (1, .ref p1), (2, .ref p2), (3, .ref p3), (4, .ref p4)] := hl
  refine lv_aload_n hx hb d_Red_init_0 rfl (lv_at hl 0 rfl) ?_
  refine W.objInit hx hb hown (hT _ vt_57) (hT _ vt_1) (hT _ vt_2) rfl (by rw [hml]; exact hl.1) rfl d_Red_init_1 (Nat.le_of_ble_eq_true rfl) (Nat.le_of_ble_eq_true rfl) ?_
  refine W.eq (g2 := F0 m 4 ls []) rfl ?_
  refine lv_aload_n hx hb d_Red_init_4 rfl (lv_at hl 0 rfl) ?_
  refine lv_aload_n hx hb d_Red_init_5 rfl (lv_at hl 1 rfl) ?_
  refine va_putF (D := (dC, dI)) (ci := 7) (v := .ref p1) (ty := (.object "FamilyKernel$Frames")) (C := R_Red) (T := T_Red) (N := 5) hx hb hT in_Red ty_Red tyo_Red nm_Red hown hK hP hD hS 0 rfl rfl 0 (by decide) (hT _ vt_58) (fun _ h9 => h9) rfl hin rfl (by decide +kernel) rfl rfl (Nat.le_of_ble_eq_true rfl) d_Red_init_6 (fun H locs hP hD hS => ?_)
  have hP : va_P (dC, dI) classes [(h0, .inr (7, [.ref p1, .null, .null, .null, .null]))] H := hP
  have hD : va_D A [(h0, .inr (7, [.ref p1, .null, .null, .null, .null]))] := hD
  refine lv_aload_n hx hb d_Red_init_9 rfl (lv_at hl 0 rfl) ?_
  refine lv_aload_n hx hb d_Red_init_10 rfl (lv_at hl 2 rfl) ?_
  refine va_putF (D := (dC, dI)) (ci := 7) (v := .ref p2) (ty := (.object "FamilyKernel$Meter")) (C := R_Red) (T := T_Red) (N := 5) hx hb hT in_Red ty_Red tyo_Red nm_Red hown hK hP hD hS 0 rfl rfl 1 (by decide) (hT _ vt_59) (fun _ h9 => h9) rfl hin rfl (by decide +kernel) rfl rfl (Nat.le_of_ble_eq_true rfl) d_Red_init_11 (fun H locs hP hD hS => ?_)
  have hP : va_P (dC, dI) classes [(h0, .inr (7, [.ref p1, .ref p2, .null, .null, .null]))] H := hP
  have hD : va_D A [(h0, .inr (7, [.ref p1, .ref p2, .null, .null, .null]))] := hD
  refine lv_aload_n hx hb d_Red_init_14 rfl (lv_at hl 0 rfl) ?_
  refine lv_aload_n hx hb d_Red_init_15 rfl (lv_at hl 3 rfl) ?_
  refine va_putF (D := (dC, dI)) (ci := 7) (v := .ref p3) (ty := (.object "FamilyKernel$Terms")) (C := R_Red) (T := T_Red) (N := 5) hx hb hT in_Red ty_Red tyo_Red nm_Red hown hK hP hD hS 0 rfl rfl 2 (by decide) (hT _ vt_60) (fun _ h9 => h9) rfl hin rfl (by decide +kernel) rfl rfl (Nat.le_of_ble_eq_true rfl) d_Red_init_16 (fun H locs hP hD hS => ?_)
  have hP : va_P (dC, dI) classes [(h0, .inr (7, [.ref p1, .ref p2, .ref p3, .null, .null]))] H := hP
  have hD : va_D A [(h0, .inr (7, [.ref p1, .ref p2, .ref p3, .null, .null]))] := hD
  refine lv_aload_n hx hb d_Red_init_19 rfl (lv_at hl 0 rfl) ?_
  refine lv_aload hx hb d_Red_init_20 (lv_at hl 4 rfl) ?_
  refine va_putF (D := (dC, dI)) (ci := 7) (v := .ref p4) (ty := (.object "FamilyKernel$Environment")) (C := R_Red) (T := T_Red) (N := 5) hx hb hT in_Red ty_Red tyo_Red nm_Red hown hK hP hD hS 0 rfl rfl 3 (by decide) (hT _ vt_61) (fun _ h9 => h9) rfl hin rfl (by decide +kernel) rfl rfl (Nat.le_of_ble_eq_true rfl) d_Red_init_22 (fun H locs hP hD hS => ?_)
  have hP : va_P (dC, dI) classes [(h0, .inr (7, [.ref p1, .ref p2, .ref p3, .ref p4, .null]))] H := hP
  have hD : va_D A [(h0, .inr (7, [.ref p1, .ref p2, .ref p3, .ref p4, .null]))] := hD
  refine lv_aload_n hx hb d_Red_init_25 rfl (lv_at hl 0 rfl) ?_
  refine va_new (ci := 0) (fs := [.int 0, .null, .int 0]) (C := R_Row) (T := T_Row) (N := 3) hx hb hT in_Row ty_Row tyo_Row hown (hT _ vt_62) (hT _ vt_10) (hT _ vt_11) hK hP hD hS hA rfl df_Row (Nat.le_of_ble_eq_true rfl) (Nat.le_of_ble_eq_true rfl) d_Red_init_26 (fun q_1 H hP hD hS => ?_)
  have hP : va_P (dC, dI) classes [(h0, .inr (7, [.ref p1, .ref p2, .ref p3, .ref p4, .null])), (q_1, .inr (0, [.int 0, .null, .int 0]))] H := hP
  have hD : va_D A [(h0, .inr (7, [.ref p1, .ref p2, .ref p3, .ref p4, .null])), (q_1, .inr (0, [.int 0, .null, .int 0]))] := hD
  refine W.widen (k := 1) (n := 3) (Nat.le_of_ble_eq_true rfl) (Nat.le_of_ble_eq_true rfl) ?_
  refine lv_dup hx hb d_Red_init_29 rfl ?_
  refine lv_bipush (v := 32) hx hb d_Red_init_30 (by decide) ?_
  refine lv_ldc (v := 16777216) hx hb hown (hT _ vt_63) d_Red_init_32 ?_
  have hPc := hP.sub (ws' := [(q_1, .inr (0, [.int 0, .null, .int 0]))]) [1] rfl
  have hDc := hD.sub (ws' := [(q_1, .inr (0, [.int 0, .null, .int 0]))]) [1] (by decide) rfl
  have hKc := hK.sub (tys' := []) [] rfl
  have hFc := va_free (wc := [(q_1, .inr (0, [.int 0, .null, .int 0]))]) hD hS hA [1] rfl
  refine va_callv (va_runI (As := [.int 32, .int 16777216]) (rest := [.ref q_1, .ref h0]) ⟨hx, hb, hml, hown, hT⟩ (c_Row_init l dC dI H.size q_1 32 32 16777216 (by decide) (by decide) (by decide) (by decide)) (cwI 2 hT (gI vt_13) rfl rfl rfl (hT _ vt_11) (hT _ vt_64) (hT _ vt_15) rfl (by decide +kernel) ⟨Nat.le_of_ble_eq_true rfl, Nat.le_of_ble_eq_true rfl⟩) ⟨Pw_blind, Pw_of hPc hKc hDc⟩ rfl rfl hl.1 rfl (lv_room (Nat.le_of_ble_eq_true rfl)) d_Red_init_34 ⟨Nat.le_of_ble_eq_true rfl, Nat.le_of_ble_eq_true rfl⟩) hS (fun q _ h => hFc q h) hFc (fun u t H1 locs ht hvm hw hB hz1 hk1 hS => ?_)
  obtain ⟨qa_2, cR_3, hP1, hK1, hD1⟩ := hB
  rw [ht] at hP1
  have hK1 := va_K.moved hvm.symm hK1
  obtain ⟨hP, hD⟩ := va_join (wr := [(h0, .inr (7, [.ref p1, .ref p2, .ref p3, .ref p4, .null]))]) (w1 := [(q_1, .inr (0, [.int 16777216, .ref qa_2, .int 0])), (qa_2, .inl (cR_3, 32, .inl (fun _ => 0)))]) hP hD [1] [0] rfl rfl (by decide) (by decide) hk1 hFc hP1 hD1
  have hK := hK.app hK1
  have hK : va_K (dC, dI) classes [(cR_3, .int)] s := hK
  generalize H1 = H at hP hS ⊢
  have hP : va_P (dC, dI) classes [(h0, .inr (7, [.ref p1, .ref p2, .ref p3, .ref p4, .null])), (q_1, .inr (0, [.int 16777216, .ref qa_2, .int 0])), (qa_2, .inl (cR_3, 32, .inl (fun _ => 0)))] H := hP
  have hD : va_D A [(h0, .inr (7, [.ref p1, .ref p2, .ref p3, .ref p4, .null])), (q_1, .inr (0, [.int 16777216, .ref qa_2, .int 0])), (qa_2, .inl (cR_3, 32, .inl (fun _ => 0)))] := hD
  refine W.widen (k := 2) (n := 35) (Nat.le_of_ble_eq_true rfl) (Nat.le_of_ble_eq_true rfl) ?_
  refine va_putF (D := (dC, dI)) (ci := 7) (v := .ref q_1) (ty := (.object "FamilyKernel$Row")) (C := R_Red) (T := T_Red) (N := 5) hx hb hT in_Red ty_Red tyo_Red nm_Red hown hK hP hD hS 0 rfl rfl 4 (by decide) (hT _ vt_65) (fun _ h9 => h9) rfl hin rfl (by decide +kernel) rfl rfl (Nat.le_of_ble_eq_true rfl) d_Red_init_37 (fun H locs hP hD hS => ?_)
  have hP : va_P (dC, dI) classes [(h0, .inr (7, [.ref p1, .ref p2, .ref p3, .ref p4, .ref q_1])), (q_1, .inr (0, [.int 16777216, .ref qa_2, .int 0])), (qa_2, .inl (cR_3, 32, .inl (fun _ => 0)))] H := hP
  have hD : va_D A [(h0, .inr (7, [.ref p1, .ref p2, .ref p3, .ref p4, .ref q_1])), (q_1, .inr (0, [.int 16777216, .ref qa_2, .int 0])), (qa_2, .inl (cR_3, 32, .inl (fun _ => 0)))] := hD
  have hP := hP.sub (ws' := [(h0, .inr (7, [.ref p1, .ref p2, .ref p3, .ref p4, .ref q_1]))]) [0] rfl
  have hD := hD.sub (ws' := [(h0, .inr (7, [.ref p1, .ref p2, .ref p3, .ref p4, .ref q_1]))]) [0] (by decide) rfl
  have hK := hK.sub (tys' := []) [] rfl
  refine W.widen (k := 2) (n := 35) (Nat.le_of_ble_eq_true rfl) (Nat.le_of_ble_eq_true rfl) ?_
  exact W.vret hx hb hr (fun t ht hW => ⟨⟨(), rfl, trivial, trivial⟩, hS.F ht⟩) hS.2.2 d_Red_init_40
set_option maxHeartbeats 4000000 in
set_option maxRecDepth 100000 in
/-- Typ(..) -/
theorem c_Typ_init (l : Launch) (dC : Nat → ClassId) (dI : Nat → Nat → Nat) (sz : Nat) (h0 p1 p2 p3 p4 : Nat) : Met l y_Typ_init w_Typ_init ({ frames := 20, cells := 0, slots := 0, locals := 600 }) (Pw dC dI [.ref h0, .ref p1, .ref p2, .ref p3, .ref p4] sz [(h0, .inr (8, [.null, .null, .null, .null]))] []) (va_Qv (fun _ : Unit => True) (fun _ t => True) (va_A [(h0, .inr (8, [.null, .null, .null, .null]))] sz)) 0 0 (va_A [(h0, .inr (8, [.null, .null, .null, .null]))] sz) := by
  refine Met.ofW (cc := b_Typ_init) (maxL := 5) (ret := none) (by decide) rfl ?_
  intro p e s m args below meth c s₁ B hml hv
  obtain ⟨rfl, hsz, hP, hK, hD0⟩ := hv
  have hx := B.exec
  have hb := B.bytes
  have hr := B.returns
  have hT : ∀ w ∈ vT, w.before _ s = true := fun w h => atoms_spec (ws := w_Typ_init) B.pre w (List.mem_cons_of_mem _ h)
  have hown : s.vm.findClass R_Typ = some m.cls := findClass_of_methodNamed B.named
  have hlocks := B.notSynchronized
  have hin : meth.name = "<init>" := (name_of_methodNamed B.named B.method).1
  subst hsz
  have hD := hD0.self (sz := s.heap.size)
  generalize hAe : va_A [(h0, .inr (8, [.null, .null, .null, .null]))] s.heap.size = A at hD ⊢
  have hA : ∀ q : Nat, s.heap.size ≤ q → A q := fun q h => by rw [← hAe]; exact Or.inr h
  have hS : va_S A s.heap s.heap [] := va_S.rf
  have hP : va_P (dC, dI) classes [(h0, .inr (8, [.null, .null, .null, .null]))] s.heap := hP
  have hl := lv_entry ([.ref h0, .ref p1, .ref p2, .ref p3, .ref p4]) (n := 5) (Nat.le_of_ble_eq_true rfl)
  rw [lg_entry_eq]
  generalize (lg_sl ([.ref h0, .ref p1, .ref p2, .ref p3, .ref p4]) ++ List.replicate (5 - (lg_sl ([.ref h0, .ref p1, .ref p2, .ref p3, .ref p4])).length) Slot.unset).toArray = ls at hl ⊢
  have hl : lv_has ls 5 [(0, .ref h0), (1, .ref p1), (2, .ref p2), (3, .ref p3), (4, .ref p4)] := hl
  refine lv_aload_n hx hb d_Typ_init_0 rfl (lv_at hl 0 rfl) ?_
  refine W.objInit hx hb hown (hT _ vt_66) (hT _ vt_1) (hT _ vt_2) rfl (by rw [hml]; exact hl.1) rfl d_Typ_init_1 (Nat.le_of_ble_eq_true rfl) (Nat.le_of_ble_eq_true rfl) ?_
  refine W.eq (g2 := F0 m 4 ls []) rfl ?_
  refine lv_aload_n hx hb d_Typ_init_4 rfl (lv_at hl 0 rfl) ?_
  refine lv_aload_n hx hb d_Typ_init_5 rfl (lv_at hl 1 rfl) ?_
  refine va_putF (D := (dC, dI)) (ci := 8) (v := .ref p1) (ty := (.object "FamilyKernel$Frames")) (C := R_Typ) (T := T_Typ) (N := 4) hx hb hT in_Typ ty_Typ tyo_Typ nm_Typ hown hK hP hD hS 0 rfl rfl 0 (by decide) (hT _ vt_67) (fun _ h9 => h9) rfl hin rfl (by decide +kernel) rfl rfl (Nat.le_of_ble_eq_true rfl) d_Typ_init_6 (fun H locs hP hD hS => ?_)
  have hP : va_P (dC, dI) classes [(h0, .inr (8, [.ref p1, .null, .null, .null]))] H := hP
  have hD : va_D A [(h0, .inr (8, [.ref p1, .null, .null, .null]))] := hD
  refine lv_aload_n hx hb d_Typ_init_9 rfl (lv_at hl 0 rfl) ?_
  refine lv_aload_n hx hb d_Typ_init_10 rfl (lv_at hl 2 rfl) ?_
  refine va_putF (D := (dC, dI)) (ci := 8) (v := .ref p2) (ty := (.object "FamilyKernel$Meter")) (C := R_Typ) (T := T_Typ) (N := 4) hx hb hT in_Typ ty_Typ tyo_Typ nm_Typ hown hK hP hD hS 0 rfl rfl 1 (by decide) (hT _ vt_68) (fun _ h9 => h9) rfl hin rfl (by decide +kernel) rfl rfl (Nat.le_of_ble_eq_true rfl) d_Typ_init_11 (fun H locs hP hD hS => ?_)
  have hP : va_P (dC, dI) classes [(h0, .inr (8, [.ref p1, .ref p2, .null, .null]))] H := hP
  have hD : va_D A [(h0, .inr (8, [.ref p1, .ref p2, .null, .null]))] := hD
  refine lv_aload_n hx hb d_Typ_init_14 rfl (lv_at hl 0 rfl) ?_
  refine lv_aload_n hx hb d_Typ_init_15 rfl (lv_at hl 3 rfl) ?_
  refine va_putF (D := (dC, dI)) (ci := 8) (v := .ref p3) (ty := (.object "FamilyKernel$Terms")) (C := R_Typ) (T := T_Typ) (N := 4) hx hb hT in_Typ ty_Typ tyo_Typ nm_Typ hown hK hP hD hS 0 rfl rfl 2 (by decide) (hT _ vt_69) (fun _ h9 => h9) rfl hin rfl (by decide +kernel) rfl rfl (Nat.le_of_ble_eq_true rfl) d_Typ_init_16 (fun H locs hP hD hS => ?_)
  have hP : va_P (dC, dI) classes [(h0, .inr (8, [.ref p1, .ref p2, .ref p3, .null]))] H := hP
  have hD : va_D A [(h0, .inr (8, [.ref p1, .ref p2, .ref p3, .null]))] := hD
  refine lv_aload_n hx hb d_Typ_init_19 rfl (lv_at hl 0 rfl) ?_
  refine lv_aload hx hb d_Typ_init_20 (lv_at hl 4 rfl) ?_
  refine va_putF (D := (dC, dI)) (ci := 8) (v := .ref p4) (ty := (.object "FamilyKernel$Environment")) (C := R_Typ) (T := T_Typ) (N := 4) hx hb hT in_Typ ty_Typ tyo_Typ nm_Typ hown hK hP hD hS 0 rfl rfl 3 (by decide) (hT _ vt_70) (fun _ h9 => h9) rfl hin rfl (by decide +kernel) rfl rfl (Nat.le_of_ble_eq_true rfl) d_Typ_init_22 (fun H locs hP hD hS => ?_)
  have hP : va_P (dC, dI) classes [(h0, .inr (8, [.ref p1, .ref p2, .ref p3, .ref p4]))] H := hP
  have hD : va_D A [(h0, .inr (8, [.ref p1, .ref p2, .ref p3, .ref p4]))] := hD
  refine W.widen (k := 0) (n := 0) (Nat.le_of_ble_eq_true rfl) (Nat.le_of_ble_eq_true rfl) ?_
  exact W.vret hx hb hr (fun t ht hW => ⟨⟨(), rfl, trivial, trivial⟩, hS.F ht⟩) hS.2.2 d_Typ_init_25
set_option maxHeartbeats 4000000 in
set_option maxRecDepth 100000 in
/-- Fam(..) -/
theorem c_Fam_init (l : Launch) (dC : Nat → ClassId) (dI : Nat → Nat → Nat) (sz : Nat) (h0 p1 p2 p3 p4 p5 : Nat) : Met l y_Fam_init w_Fam_init ({ frames := 20, cells := 10, slots := 95, locals := 600 }) (Pw dC dI [.ref h0, .ref p1, .ref p2, .ref p3, .ref p4, .ref p5] sz [(h0, .inr (9, [.null, .null, .null, .null, .null, .null, .null, .null, .null, .null, .int 0, .int 0, .int 0, .int 0, .int 0, .int 0, .int 0, .int 0]))] []) (va_Qv (fun _ : Unit => True) (fun _ t => True) (va_A [(h0, .inr (9, [.null, .null, .null, .null, .null, .null, .null, .null, .null, .null, .int 0, .int 0, .int 0, .int 0, .int 0, .int 0, .int 0, .int 0]))] sz)) 10 95 (va_A [(h0, .inr (9, [.null, .null, .null, .null, .null, .null, .null, .null, .null, .null, .int 0, .int 0, .int 0, .int 0, .int 0, .int 0, .int 0, .int 0]))] sz) := by
  refine Met.ofW (cc := b_Fam_init) (maxL := 6) (ret := none) (by decide) rfl ?_
  intro p e s m args below meth c s₁ B hml hv
  obtain ⟨rfl, hsz, hP, hK, hD0⟩ := hv
  have hx := B.exec
  have hb := B.bytes
  have hr := B.returns
  have hT : ∀ w ∈ vT, w.before _ s = true := fun w h => atoms_spec (ws := w_Fam_init) B.pre w (List.mem_cons_of_mem _ h)
  have hown : s.vm.findClass R_Fam = some m.cls := findClass_of_methodNamed B.named
  have hlocks := B.notSynchronized
  have hin : meth.name = "<init>" := (name_of_methodNamed B.named B.method).1
  subst hsz
  have hD := hD0.self (sz := s.heap.size)
  generalize hAe : va_A [(h0, .inr (9, [.null, .null, .null, .null, .null, .null, .null, .null, .null, .null, .int 0, .int 0, .int 0, .int 0, .int 0, .int 0, .int 0, .int 0]))] s.heap.size = A at hD ⊢
  have hA : ∀ q : Nat, s.heap.size ≤ q → A q := fun q h => by rw [← hAe]; exact Or.inr h
  have hS : va_S A s.heap s.heap [] := va_S.rf
  have hP : va_P (dC, dI) classes [(h0, .inr (9, [.null, .null, .null, .null, .null, .null, .null, .null, .null, .null, .int 0, .int 0, .int 0, .int 0, .int 0, .int 0, .int 0, .int 0]))] s.heap := hP
  have hl := lv_entry ([.ref h0, .ref p1, .ref p2, .ref p3, .ref p4, .ref p5]) (n := 6) (Nat.le_of_ble_eq_true rfl)
  rw [lg_entry_eq]
  generalize (lg_sl ([.ref h0, .ref p1, .ref p2, .ref p3, .ref p4, .ref p5]) ++ List.replicate (6 - (lg_sl ([.ref h0, .ref p1, .ref p2, .ref p3, .ref p4, .ref p5])).length) Slot.unset).toArray = ls at hl ⊢
  have hl : lv_has ls 6 [(0, .ref h0), (1, .ref p1), (2, .ref p2), (3, .ref p3), (4, .ref p4), (5, .ref p5)] := hl
  refine lv_aload_n hx hb d_Fam_init_0 rfl (lv_at hl 0 rfl) ?_
  refine W.objInit hx hb hown (hT _ vt_71) (hT _ vt_1) (hT _ vt_2) rfl (by rw [hml]; exact hl.1) rfl d_Fam_init_1 (Nat.le_of_ble_eq_true rfl) (Nat.le_of_ble_eq_true rfl) ?_
  refine W.eq (g2 := F0 m 4 ls []) rfl ?_
  refine lv_aload_n hx hb d_Fam_init_4 rfl (lv_at hl 0 rfl) ?_
  refine lv_aload_n hx hb d_Fam_init_5 rfl (lv_at hl 1 rfl) ?_
  refine va_putF (D := (dC, dI)) (ci := 9) (v := .ref p1) (ty := (.object "FamilyKernel$Frames")) (C := R_Fam) (T := T_Fam) (N := 18) hx hb hT in_Fam ty_Fam tyo_Fam nm_Fam hown hK hP hD hS 0 rfl rfl 0 (by decide) (hT _ vt_72) (fun _ h9 => h9) rfl hin rfl (by decide +kernel) rfl rfl (Nat.le_of_ble_eq_true rfl) d_Fam_init_6 (fun H locs hP hD hS => ?_)
  have hP : va_P (dC, dI) classes [(h0, .inr (9, [.ref p1, .null, .null, .null, .null, .null, .null, .null, .null, .null, .int 0, .int 0, .int 0, .int 0, .int 0, .int 0, .int 0, .int 0]))] H := hP
  have hD : va_D A [(h0, .inr (9, [.ref p1, .null, .null, .null, .null, .null, .null, .null, .null, .null, .int 0, .int 0, .int 0, .int 0, .int 0, .int 0, .int 0, .int 0]))] := hD
  refine lv_aload_n hx hb d_Fam_init_9 rfl (lv_at hl 0 rfl) ?_
  refine lv_aload_n hx hb d_Fam_init_10 rfl (lv_at hl 2 rfl) ?_
  refine va_putF (D := (dC, dI)) (ci := 9) (v := .ref p2) (ty := (.object "FamilyKernel$Meter")) (C := R_Fam) (T := T_Fam) (N := 18) hx hb hT in_Fam ty_Fam tyo_Fam nm_Fam hown hK hP hD hS 0 rfl rfl 1 (by decide) (hT _ vt_73) (fun _ h9 => h9) rfl hin rfl (by decide +kernel) rfl rfl (Nat.le_of_ble_eq_true rfl) d_Fam_init_11 (fun H locs hP hD hS => ?_)
  have hP : va_P (dC, dI) classes [(h0, .inr (9, [.ref p1, .ref p2, .null, .null, .null, .null, .null, .null, .null, .null, .int 0, .int 0, .int 0, .int 0, .int 0, .int 0, .int 0, .int 0]))] H := hP
  have hD : va_D A [(h0, .inr (9, [.ref p1, .ref p2, .null, .null, .null, .null, .null, .null, .null, .null, .int 0, .int 0, .int 0, .int 0, .int 0, .int 0, .int 0, .int 0]))] := hD
  refine lv_aload_n hx hb d_Fam_init_14 rfl (lv_at hl 0 rfl) ?_
  refine lv_aload_n hx hb d_Fam_init_15 rfl (lv_at hl 3 rfl) ?_
  refine va_putF (D := (dC, dI)) (ci := 9) (v := .ref p3) (ty := (.object "FamilyKernel$Terms")) (C := R_Fam) (T := T_Fam) (N := 18) hx hb hT in_Fam ty_Fam tyo_Fam nm_Fam hown hK hP hD hS 0 rfl rfl 2 (by decide) (hT _ vt_74) (fun _ h9 => h9) rfl hin rfl (by decide +kernel) rfl rfl (Nat.le_of_ble_eq_true rfl) d_Fam_init_16 (fun H locs hP hD hS => ?_)
  have hP : va_P (dC, dI) classes [(h0, .inr (9, [.ref p1, .ref p2, .ref p3, .null, .null, .null, .null, .null, .null, .null, .int 0, .int 0, .int 0, .int 0, .int 0, .int 0, .int 0, .int 0]))] H := hP
  have hD : va_D A [(h0, .inr (9, [.ref p1, .ref p2, .ref p3, .null, .null, .null, .null, .null, .null, .null, .int 0, .int 0, .int 0, .int 0, .int 0, .int 0, .int 0, .int 0]))] := hD
  refine lv_aload_n hx hb d_Fam_init_19 rfl (lv_at hl 0 rfl) ?_
  refine lv_aload hx hb d_Fam_init_20 (lv_at hl 4 rfl) ?_
  refine va_putF (D := (dC, dI)) (ci := 9) (v := .ref p4) (ty := (.object "FamilyKernel$Environment")) (C := R_Fam) (T := T_Fam) (N := 18) hx hb hT in_Fam ty_Fam tyo_Fam nm_Fam hown hK hP hD hS 0 rfl rfl 3 (by decide) (hT _ vt_75) (fun _ h9 => h9) rfl hin rfl (by decide +kernel) rfl rfl (Nat.le_of_ble_eq_true rfl) d_Fam_init_22 (fun H locs hP hD hS => ?_)
  have hP : va_P (dC, dI) classes [(h0, .inr (9, [.ref p1, .ref p2, .ref p3, .ref p4, .null, .null, .null, .null, .null, .null, .int 0, .int 0, .int 0, .int 0, .int 0, .int 0, .int 0, .int 0]))] H := hP
  have hD : va_D A [(h0, .inr (9, [.ref p1, .ref p2, .ref p3, .ref p4, .null, .null, .null, .null, .null, .null, .int 0, .int 0, .int 0, .int 0, .int 0, .int 0, .int 0, .int 0]))] := hD
  refine lv_aload_n hx hb d_Fam_init_25 rfl (lv_at hl 0 rfl) ?_
  refine lv_aload hx hb d_Fam_init_26 (lv_at hl 5 rfl) ?_
  refine va_putF (D := (dC, dI)) (ci := 9) (v := .ref p5) (ty := (.object "FamilyKernel$Parser")) (C := R_Fam) (T := T_Fam) (N := 18) hx hb hT in_Fam ty_Fam tyo_Fam nm_Fam hown hK hP hD hS 0 rfl rfl 4 (by decide) (hT _ vt_76) (fun _ h9 => h9) rfl hin rfl (by decide +kernel) rfl rfl (Nat.le_of_ble_eq_true rfl) d_Fam_init_28 (fun H locs hP hD hS => ?_)
  have hP : va_P (dC, dI) classes [(h0, .inr (9, [.ref p1, .ref p2, .ref p3, .ref p4, .ref p5, .null, .null, .null, .null, .null, .int 0, .int 0, .int 0, .int 0, .int 0, .int 0, .int 0, .int 0]))] H := hP
  have hD : va_D A [(h0, .inr (9, [.ref p1, .ref p2, .ref p3, .ref p4, .ref p5, .null, .null, .null, .null, .null, .int 0, .int 0, .int 0, .int 0, .int 0, .int 0, .int 0, .int 0]))] := hD
  refine lv_aload_n hx hb d_Fam_init_31 rfl (lv_at hl 0 rfl) ?_
  refine va_new (ci := 0) (fs := [.int 0, .null, .int 0]) (C := R_Row) (T := T_Row) (N := 3) hx hb hT in_Row ty_Row tyo_Row hown (hT _ vt_77) (hT _ vt_10) (hT _ vt_11) hK hP hD hS hA rfl df_Row (Nat.le_of_ble_eq_true rfl) (Nat.le_of_ble_eq_true rfl) d_Fam_init_32 (fun q_1 H hP hD hS => ?_)
  have hP : va_P (dC, dI) classes [(h0, .inr (9, [.ref p1, .ref p2, .ref p3, .ref p4, .ref p5, .null, .null, .null, .null, .null, .int 0, .int 0, .int 0, .int 0, .int 0, .int 0, .int 0, .int 0])), (q_1, .inr (0, [.int 0, .null, .int 0]))] H := hP
  have hD : va_D A [(h0, .inr (9, [.ref p1, .ref p2, .ref p3, .ref p4, .ref p5, .null, .null, .null, .null, .null, .int 0, .int 0, .int 0, .int 0, .int 0, .int 0, .int 0, .int 0])), (q_1, .inr (0, [.int 0, .null, .int 0]))] := hD
  refine W.widen (k := 1) (n := 3) (Nat.le_of_ble_eq_true rfl) (Nat.le_of_ble_eq_true rfl) ?_
  refine lv_dup hx hb d_Fam_init_35 rfl ?_
  refine lv_bipush (v := 16) hx hb d_Fam_init_36 (by decide) ?_
  refine lv_ldc (v := 16777216) hx hb hown (hT _ vt_78) d_Fam_init_38 ?_
  have hPc := hP.sub (ws' := [(q_1, .inr (0, [.int 0, .null, .int 0]))]) [1] rfl
  have hDc := hD.sub (ws' := [(q_1, .inr (0, [.int 0, .null, .int 0]))]) [1] (by decide) rfl
  have hKc := hK.sub (tys' := []) [] rfl
  have hFc := va_free (wc := [(q_1, .inr (0, [.int 0, .null, .int 0]))]) hD hS hA [1] rfl
  refine va_callv (va_runI (As := [.int 16, .int 16777216]) (rest := [.ref q_1, .ref h0]) ⟨hx, hb, hml, hown, hT⟩ (c_Row_init l dC dI H.size q_1 16 16 16777216 (by decide) (by decide) (by decide) (by decide)) (cwI 2 hT (gI vt_13) rfl rfl rfl (hT _ vt_11) (hT _ vt_79) (hT _ vt_15) rfl (by decide +kernel) ⟨Nat.le_of_ble_eq_true rfl, Nat.le_of_ble_eq_true rfl⟩) ⟨Pw_blind, Pw_of hPc hKc hDc⟩ rfl rfl hl.1 rfl (lv_room (Nat.le_of_ble_eq_true rfl)) d_Fam_init_40 ⟨Nat.le_of_ble_eq_true rfl, Nat.le_of_ble_eq_true rfl⟩) hS (fun q _ h => hFc q h) hFc (fun u t H1 locs ht hvm hw hB hz1 hk1 hS => ?_)
  obtain ⟨qa_2, cR_3, hP1, hK1, hD1⟩ := hB
  rw [ht] at hP1
  have hK1 := va_K.moved hvm.symm hK1
  obtain ⟨hP, hD⟩ := va_join (wr := [(h0, .inr (9, [.ref p1, .ref p2, .ref p3, .ref p4, .ref p5, .null, .null, .null, .null, .null, .int 0, .int 0, .int 0, .int 0, .int 0, .int 0, .int 0, .int 0]))]) (w1 := [(q_1, .inr (0, [.int 16777216, .ref qa_2, .int 0])), (qa_2, .inl (cR_3, 16, .inl (fun _ => 0)))]) hP hD [1] [0] rfl rfl (by decide) (by decide) hk1 hFc hP1 hD1
  have hK := hK.app hK1
  have hK : va_K (dC, dI) classes [(cR_3, .int)] s := hK
  generalize H1 = H at hP hS ⊢
  have hP : va_P (dC, dI) classes [(h0, .inr (9, [.ref p1, .ref p2, .ref p3, .ref p4, .ref p5, .null, .null, .null, .null, .null, .int 0, .int 0, .int 0, .int 0, .int 0, .int 0, .int 0, .int 0])), (q_1, .inr (0, [.int 16777216, .ref qa_2, .int 0])), (qa_2, .inl (cR_3, 16, .inl (fun _ => 0)))] H := hP
  have hD : va_D A [(h0, .inr (9, [.ref p1, .ref p2, .ref p3, .ref p4, .ref p5, .null, .null, .null, .null, .null, .int 0, .int 0, .int 0, .int 0, .int 0, .int 0, .int 0, .int 0])), (q_1, .inr (0, [.int 16777216, .ref qa_2, .int 0])), (qa_2, .inl (cR_3, 16, .inl (fun _ => 0)))] := hD
  refine W.widen (k := 2) (n := 19) (Nat.le_of_ble_eq_true rfl) (Nat.le_of_ble_eq_true rfl) ?_
  refine va_putF (D := (dC, dI)) (ci := 9) (v := .ref q_1) (ty := (.object "FamilyKernel$Row")) (C := R_Fam) (T := T_Fam) (N := 18) hx hb hT in_Fam ty_Fam tyo_Fam nm_Fam hown hK hP hD hS 0 rfl rfl 5 (by decide) (hT _ vt_80) (fun _ h9 => h9) rfl hin rfl (by decide +kernel) rfl rfl (Nat.le_of_ble_eq_true rfl) d_Fam_init_43 (fun H locs hP hD hS => ?_)
  have hP : va_P (dC, dI) classes [(h0, .inr (9, [.ref p1, .ref p2, .ref p3, .ref p4, .ref p5, .ref q_1, .null, .null, .null, .null, .int 0, .int 0, .int 0, .int 0, .int 0, .int 0, .int 0, .int 0])), (q_1, .inr (0, [.int 16777216, .ref qa_2, .int 0])), (qa_2, .inl (cR_3, 16, .inl (fun _ => 0)))] H := hP
  have hD : va_D A [(h0, .inr (9, [.ref p1, .ref p2, .ref p3, .ref p4, .ref p5, .ref q_1, .null, .null, .null, .null, .int 0, .int 0, .int 0, .int 0, .int 0, .int 0, .int 0, .int 0])), (q_1, .inr (0, [.int 16777216, .ref qa_2, .int 0])), (qa_2, .inl (cR_3, 16, .inl (fun _ => 0)))] := hD
  have hP := hP.sub (ws' := [(h0, .inr (9, [.ref p1, .ref p2, .ref p3, .ref p4, .ref p5, .ref q_1, .null, .null, .null, .null, .int 0, .int 0, .int 0, .int 0, .int 0, .int 0, .int 0, .int 0]))]) [0] rfl
  have hD := hD.sub (ws' := [(h0, .inr (9, [.ref p1, .ref p2, .ref p3, .ref p4, .ref p5, .ref q_1, .null, .null, .null, .null, .int 0, .int 0, .int 0, .int 0, .int 0, .int 0, .int 0, .int 0]))]) [0] (by decide) rfl
  have hK := hK.sub (tys' := []) [] rfl
  refine lv_aload_n hx hb d_Fam_init_46 rfl (lv_at hl 0 rfl) ?_
  refine va_new (ci := 0) (fs := [.int 0, .null, .int 0]) (C := R_Row) (T := T_Row) (N := 3) hx hb hT in_Row ty_Row tyo_Row hown (hT _ vt_77) (hT _ vt_10) (hT _ vt_11) hK hP hD hS hA rfl df_Row (Nat.le_of_ble_eq_true rfl) (Nat.le_of_ble_eq_true rfl) d_Fam_init_47 (fun q_5 H hP hD hS => ?_)
  have hP : va_P (dC, dI) classes [(h0, .inr (9, [.ref p1, .ref p2, .ref p3, .ref p4, .ref p5, .ref q_1, .null, .null, .null, .null, .int 0, .int 0, .int 0, .int 0, .int 0, .int 0, .int 0, .int 0])), (q_5, .inr (0, [.int 0, .null, .int 0]))] H := hP
  have hD : va_D A [(h0, .inr (9, [.ref p1, .ref p2, .ref p3, .ref p4, .ref p5, .ref q_1, .null, .null, .null, .null, .int 0, .int 0, .int 0, .int 0, .int 0, .int 0, .int 0, .int 0])), (q_5, .inr (0, [.int 0, .null, .int 0]))] := hD
  refine W.widen (k := 3) (n := 22) (Nat.le_of_ble_eq_true rfl) (Nat.le_of_ble_eq_true rfl) ?_
  refine lv_dup hx hb d_Fam_init_50 rfl ?_
  refine lv_bipush (v := 16) hx hb d_Fam_init_51 (by decide) ?_
  refine lv_ldc (v := 16777216) hx hb hown (hT _ vt_78) d_Fam_init_53 ?_
  have hPc := hP.sub (ws' := [(q_5, .inr (0, [.int 0, .null, .int 0]))]) [1] rfl
  have hDc := hD.sub (ws' := [(q_5, .inr (0, [.int 0, .null, .int 0]))]) [1] (by decide) rfl
  have hKc := hK.sub (tys' := []) [] rfl
  have hFc := va_free (wc := [(q_5, .inr (0, [.int 0, .null, .int 0]))]) hD hS hA [1] rfl
  refine va_callv (va_runI (As := [.int 16, .int 16777216]) (rest := [.ref q_5, .ref h0]) ⟨hx, hb, hml, hown, hT⟩ (c_Row_init l dC dI H.size q_5 16 16 16777216 (by decide) (by decide) (by decide) (by decide)) (cwI 2 hT (gI vt_13) rfl rfl rfl (hT _ vt_11) (hT _ vt_79) (hT _ vt_15) rfl (by decide +kernel) ⟨Nat.le_of_ble_eq_true rfl, Nat.le_of_ble_eq_true rfl⟩) ⟨Pw_blind, Pw_of hPc hKc hDc⟩ rfl rfl hl.1 rfl (lv_room (Nat.le_of_ble_eq_true rfl)) d_Fam_init_55 ⟨Nat.le_of_ble_eq_true rfl, Nat.le_of_ble_eq_true rfl⟩) hS (fun q _ h => hFc q h) hFc (fun u t H1 locs ht hvm hw hB hz1 hk1 hS => ?_)
  obtain ⟨qa_6, cR_7, hP1, hK1, hD1⟩ := hB
  rw [ht] at hP1
  have hK1 := va_K.moved hvm.symm hK1
  obtain ⟨hP, hD⟩ := va_join (wr := [(h0, .inr (9, [.ref p1, .ref p2, .ref p3, .ref p4, .ref p5, .ref q_1, .null, .null, .null, .null, .int 0, .int 0, .int 0, .int 0, .int 0, .int 0, .int 0, .int 0]))]) (w1 := [(q_5, .inr (0, [.int 16777216, .ref qa_6, .int 0])), (qa_6, .inl (cR_7, 16, .inl (fun _ => 0)))]) hP hD [1] [0] rfl rfl (by decide) (by decide) hk1 hFc hP1 hD1
  have hK := hK.app hK1
  have hK : va_K (dC, dI) classes [(cR_7, .int)] s := hK
  generalize H1 = H at hP hS ⊢
  have hP : va_P (dC, dI) classes [(h0, .inr (9, [.ref p1, .ref p2, .ref p3, .ref p4, .ref p5, .ref q_1, .null, .null, .null, .null, .int 0, .int 0, .int 0, .int 0, .int 0, .int 0, .int 0, .int 0])), (q_5, .inr (0, [.int 16777216, .ref qa_6, .int 0])), (qa_6, .inl (cR_7, 16, .inl (fun _ => 0)))] H := hP
  have hD : va_D A [(h0, .inr (9, [.ref p1, .ref p2, .ref p3, .ref p4, .ref p5, .ref q_1, .null, .null, .null, .null, .int 0, .int 0, .int 0, .int 0, .int 0, .int 0, .int 0, .int 0])), (q_5, .inr (0, [.int 16777216, .ref qa_6, .int 0])), (qa_6, .inl (cR_7, 16, .inl (fun _ => 0)))] := hD
  refine W.widen (k := 4) (n := 38) (Nat.le_of_ble_eq_true rfl) (Nat.le_of_ble_eq_true rfl) ?_
  refine va_putF (D := (dC, dI)) (ci := 9) (v := .ref q_5) (ty := (.object "FamilyKernel$Row")) (C := R_Fam) (T := T_Fam) (N := 18) hx hb hT in_Fam ty_Fam tyo_Fam nm_Fam hown hK hP hD hS 0 rfl rfl 6 (by decide) (hT _ vt_81) (fun _ h9 => h9) rfl hin rfl (by decide +kernel) rfl rfl (Nat.le_of_ble_eq_true rfl) d_Fam_init_58 (fun H locs hP hD hS => ?_)
  have hP : va_P (dC, dI) classes [(h0, .inr (9, [.ref p1, .ref p2, .ref p3, .ref p4, .ref p5, .ref q_1, .ref q_5, .null, .null, .null, .int 0, .int 0, .int 0, .int 0, .int 0, .int 0, .int 0, .int 0])), (q_5, .inr (0, [.int 16777216, .ref qa_6, .int 0])), (qa_6, .inl (cR_7, 16, .inl (fun _ => 0)))] H := hP
  have hD : va_D A [(h0, .inr (9, [.ref p1, .ref p2, .ref p3, .ref p4, .ref p5, .ref q_1, .ref q_5, .null, .null, .null, .int 0, .int 0, .int 0, .int 0, .int 0, .int 0, .int 0, .int 0])), (q_5, .inr (0, [.int 16777216, .ref qa_6, .int 0])), (qa_6, .inl (cR_7, 16, .inl (fun _ => 0)))] := hD
  have hP := hP.sub (ws' := [(h0, .inr (9, [.ref p1, .ref p2, .ref p3, .ref p4, .ref p5, .ref q_1, .ref q_5, .null, .null, .null, .int 0, .int 0, .int 0, .int 0, .int 0, .int 0, .int 0, .int 0]))]) [0] rfl
  have hD := hD.sub (ws' := [(h0, .inr (9, [.ref p1, .ref p2, .ref p3, .ref p4, .ref p5, .ref q_1, .ref q_5, .null, .null, .null, .int 0, .int 0, .int 0, .int 0, .int 0, .int 0, .int 0, .int 0]))]) [0] (by decide) rfl
  have hK := hK.sub (tys' := []) [] rfl
  refine lv_aload_n hx hb d_Fam_init_61 rfl (lv_at hl 0 rfl) ?_
  refine va_new (ci := 0) (fs := [.int 0, .null, .int 0]) (C := R_Row) (T := T_Row) (N := 3) hx hb hT in_Row ty_Row tyo_Row hown (hT _ vt_77) (hT _ vt_10) (hT _ vt_11) hK hP hD hS hA rfl df_Row (Nat.le_of_ble_eq_true rfl) (Nat.le_of_ble_eq_true rfl) d_Fam_init_62 (fun q_9 H hP hD hS => ?_)
  have hP : va_P (dC, dI) classes [(h0, .inr (9, [.ref p1, .ref p2, .ref p3, .ref p4, .ref p5, .ref q_1, .ref q_5, .null, .null, .null, .int 0, .int 0, .int 0, .int 0, .int 0, .int 0, .int 0, .int 0])), (q_9, .inr (0, [.int 0, .null, .int 0]))] H := hP
  have hD : va_D A [(h0, .inr (9, [.ref p1, .ref p2, .ref p3, .ref p4, .ref p5, .ref q_1, .ref q_5, .null, .null, .null, .int 0, .int 0, .int 0, .int 0, .int 0, .int 0, .int 0, .int 0])), (q_9, .inr (0, [.int 0, .null, .int 0]))] := hD
  refine W.widen (k := 5) (n := 41) (Nat.le_of_ble_eq_true rfl) (Nat.le_of_ble_eq_true rfl) ?_
  refine lv_dup hx hb d_Fam_init_65 rfl ?_
  refine lv_bipush (v := 16) hx hb d_Fam_init_66 (by decide) ?_
  refine lv_ldc (v := 16777216) hx hb hown (hT _ vt_78) d_Fam_init_68 ?_
  have hPc := hP.sub (ws' := [(q_9, .inr (0, [.int 0, .null, .int 0]))]) [1] rfl
  have hDc := hD.sub (ws' := [(q_9, .inr (0, [.int 0, .null, .int 0]))]) [1] (by decide) rfl
  have hKc := hK.sub (tys' := []) [] rfl
  have hFc := va_free (wc := [(q_9, .inr (0, [.int 0, .null, .int 0]))]) hD hS hA [1] rfl
  refine va_callv (va_runI (As := [.int 16, .int 16777216]) (rest := [.ref q_9, .ref h0]) ⟨hx, hb, hml, hown, hT⟩ (c_Row_init l dC dI H.size q_9 16 16 16777216 (by decide) (by decide) (by decide) (by decide)) (cwI 2 hT (gI vt_13) rfl rfl rfl (hT _ vt_11) (hT _ vt_79) (hT _ vt_15) rfl (by decide +kernel) ⟨Nat.le_of_ble_eq_true rfl, Nat.le_of_ble_eq_true rfl⟩) ⟨Pw_blind, Pw_of hPc hKc hDc⟩ rfl rfl hl.1 rfl (lv_room (Nat.le_of_ble_eq_true rfl)) d_Fam_init_70 ⟨Nat.le_of_ble_eq_true rfl, Nat.le_of_ble_eq_true rfl⟩) hS (fun q _ h => hFc q h) hFc (fun u t H1 locs ht hvm hw hB hz1 hk1 hS => ?_)
  obtain ⟨qa_10, cR_11, hP1, hK1, hD1⟩ := hB
  rw [ht] at hP1
  have hK1 := va_K.moved hvm.symm hK1
  obtain ⟨hP, hD⟩ := va_join (wr := [(h0, .inr (9, [.ref p1, .ref p2, .ref p3, .ref p4, .ref p5, .ref q_1, .ref q_5, .null, .null, .null, .int 0, .int 0, .int 0, .int 0, .int 0, .int 0, .int 0, .int 0]))]) (w1 := [(q_9, .inr (0, [.int 16777216, .ref qa_10, .int 0])), (qa_10, .inl (cR_11, 16, .inl (fun _ => 0)))]) hP hD [1] [0] rfl rfl (by decide) (by decide) hk1 hFc hP1 hD1
  have hK := hK.app hK1
  have hK : va_K (dC, dI) classes [(cR_11, .int)] s := hK
  generalize H1 = H at hP hS ⊢
  have hP : va_P (dC, dI) classes [(h0, .inr (9, [.ref p1, .ref p2, .ref p3, .ref p4, .ref p5, .ref q_1, .ref q_5, .null, .null, .null, .int 0, .int 0, .int 0, .int 0, .int 0, .int 0, .int 0, .int 0])), (q_9, .inr (0, [.int 16777216, .ref qa_10, .int 0])), (qa_10, .inl (cR_11, 16, .inl (fun _ => 0)))] H := hP
  have hD : va_D A [(h0, .inr (9, [.ref p1, .ref p2, .ref p3, .ref p4, .ref p5, .ref q_1, .ref q_5, .null, .null, .null, .int 0, .int 0, .int 0, .int 0, .int 0, .int 0, .int 0, .int 0])), (q_9, .inr (0, [.int 16777216, .ref qa_10, .int 0])), (qa_10, .inl (cR_11, 16, .inl (fun _ => 0)))] := hD
  refine W.widen (k := 6) (n := 57) (Nat.le_of_ble_eq_true rfl) (Nat.le_of_ble_eq_true rfl) ?_
  refine va_putF (D := (dC, dI)) (ci := 9) (v := .ref q_9) (ty := (.object "FamilyKernel$Row")) (C := R_Fam) (T := T_Fam) (N := 18) hx hb hT in_Fam ty_Fam tyo_Fam nm_Fam hown hK hP hD hS 0 rfl rfl 7 (by decide) (hT _ vt_82) (fun _ h9 => h9) rfl hin rfl (by decide +kernel) rfl rfl (Nat.le_of_ble_eq_true rfl) d_Fam_init_73 (fun H locs hP hD hS => ?_)
  have hP : va_P (dC, dI) classes [(h0, .inr (9, [.ref p1, .ref p2, .ref p3, .ref p4, .ref p5, .ref q_1, .ref q_5, .ref q_9, .null, .null, .int 0, .int 0, .int 0, .int 0, .int 0, .int 0, .int 0, .int 0])), (q_9, .inr (0, [.int 16777216, .ref qa_10, .int 0])), (qa_10, .inl (cR_11, 16, .inl (fun _ => 0)))] H := hP
  have hD : va_D A [(h0, .inr (9, [.ref p1, .ref p2, .ref p3, .ref p4, .ref p5, .ref q_1, .ref q_5, .ref q_9, .null, .null, .int 0, .int 0, .int 0, .int 0, .int 0, .int 0, .int 0, .int 0])), (q_9, .inr (0, [.int 16777216, .ref qa_10, .int 0])), (qa_10, .inl (cR_11, 16, .inl (fun _ => 0)))] := hD
  have hP := hP.sub (ws' := [(h0, .inr (9, [.ref p1, .ref p2, .ref p3, .ref p4, .ref p5, .ref q_1, .ref q_5, .ref q_9, .null, .null, .int 0, .int 0, .int 0, .int 0, .int 0, .int 0, .int 0, .int 0]))]) [0] rfl
  have hD := hD.sub (ws' := [(h0, .inr (9, [.ref p1, .ref p2, .ref p3, .ref p4, .ref p5, .ref q_1, .ref q_5, .ref q_9, .null, .null, .int 0, .int 0, .int 0, .int 0, .int 0, .int 0, .int 0, .int 0]))]) [0] (by decide) rfl
  have hK := hK.sub (tys' := []) [] rfl
  refine lv_aload_n hx hb d_Fam_init_76 rfl (lv_at hl 0 rfl) ?_
  refine va_new (ci := 0) (fs := [.int 0, .null, .int 0]) (C := R_Row) (T := T_Row) (N := 3) hx hb hT in_Row ty_Row tyo_Row hown (hT _ vt_77) (hT _ vt_10) (hT _ vt_11) hK hP hD hS hA rfl df_Row (Nat.le_of_ble_eq_true rfl) (Nat.le_of_ble_eq_true rfl) d_Fam_init_77 (fun q_13 H hP hD hS => ?_)
  have hP : va_P (dC, dI) classes [(h0, .inr (9, [.ref p1, .ref p2, .ref p3, .ref p4, .ref p5, .ref q_1, .ref q_5, .ref q_9, .null, .null, .int 0, .int 0, .int 0, .int 0, .int 0, .int 0, .int 0, .int 0])), (q_13, .inr (0, [.int 0, .null, .int 0]))] H := hP
  have hD : va_D A [(h0, .inr (9, [.ref p1, .ref p2, .ref p3, .ref p4, .ref p5, .ref q_1, .ref q_5, .ref q_9, .null, .null, .int 0, .int 0, .int 0, .int 0, .int 0, .int 0, .int 0, .int 0])), (q_13, .inr (0, [.int 0, .null, .int 0]))] := hD
  refine W.widen (k := 7) (n := 60) (Nat.le_of_ble_eq_true rfl) (Nat.le_of_ble_eq_true rfl) ?_
  refine lv_dup hx hb d_Fam_init_80 rfl ?_
  refine lv_bipush (v := 16) hx hb d_Fam_init_81 (by decide) ?_
  refine lv_ldc (v := 16777216) hx hb hown (hT _ vt_78) d_Fam_init_83 ?_
  have hPc := hP.sub (ws' := [(q_13, .inr (0, [.int 0, .null, .int 0]))]) [1] rfl
  have hDc := hD.sub (ws' := [(q_13, .inr (0, [.int 0, .null, .int 0]))]) [1] (by decide) rfl
  have hKc := hK.sub (tys' := []) [] rfl
  have hFc := va_free (wc := [(q_13, .inr (0, [.int 0, .null, .int 0]))]) hD hS hA [1] rfl
  refine va_callv (va_runI (As := [.int 16, .int 16777216]) (rest := [.ref q_13, .ref h0]) ⟨hx, hb, hml, hown, hT⟩ (c_Row_init l dC dI H.size q_13 16 16 16777216 (by decide) (by decide) (by decide) (by decide)) (cwI 2 hT (gI vt_13) rfl rfl rfl (hT _ vt_11) (hT _ vt_79) (hT _ vt_15) rfl (by decide +kernel) ⟨Nat.le_of_ble_eq_true rfl, Nat.le_of_ble_eq_true rfl⟩) ⟨Pw_blind, Pw_of hPc hKc hDc⟩ rfl rfl hl.1 rfl (lv_room (Nat.le_of_ble_eq_true rfl)) d_Fam_init_85 ⟨Nat.le_of_ble_eq_true rfl, Nat.le_of_ble_eq_true rfl⟩) hS (fun q _ h => hFc q h) hFc (fun u t H1 locs ht hvm hw hB hz1 hk1 hS => ?_)
  obtain ⟨qa_14, cR_15, hP1, hK1, hD1⟩ := hB
  rw [ht] at hP1
  have hK1 := va_K.moved hvm.symm hK1
  obtain ⟨hP, hD⟩ := va_join (wr := [(h0, .inr (9, [.ref p1, .ref p2, .ref p3, .ref p4, .ref p5, .ref q_1, .ref q_5, .ref q_9, .null, .null, .int 0, .int 0, .int 0, .int 0, .int 0, .int 0, .int 0, .int 0]))]) (w1 := [(q_13, .inr (0, [.int 16777216, .ref qa_14, .int 0])), (qa_14, .inl (cR_15, 16, .inl (fun _ => 0)))]) hP hD [1] [0] rfl rfl (by decide) (by decide) hk1 hFc hP1 hD1
  have hK := hK.app hK1
  have hK : va_K (dC, dI) classes [(cR_15, .int)] s := hK
  generalize H1 = H at hP hS ⊢
  have hP : va_P (dC, dI) classes [(h0, .inr (9, [.ref p1, .ref p2, .ref p3, .ref p4, .ref p5, .ref q_1, .ref q_5, .ref q_9, .null, .null, .int 0, .int 0, .int 0, .int 0, .int 0, .int 0, .int 0, .int 0])), (q_13, .inr (0, [.int 16777216, .ref qa_14, .int 0])), (qa_14, .inl (cR_15, 16, .inl (fun _ => 0)))] H := hP
  have hD : va_D A [(h0, .inr (9, [.ref p1, .ref p2, .ref p3, .ref p4, .ref p5, .ref q_1, .ref q_5, .ref q_9, .null, .null, .int 0, .int 0, .int 0, .int 0, .int 0, .int 0, .int 0, .int 0])), (q_13, .inr (0, [.int 16777216, .ref qa_14, .int 0])), (qa_14, .inl (cR_15, 16, .inl (fun _ => 0)))] := hD
  refine W.widen (k := 8) (n := 76) (Nat.le_of_ble_eq_true rfl) (Nat.le_of_ble_eq_true rfl) ?_
  refine va_putF (D := (dC, dI)) (ci := 9) (v := .ref q_13) (ty := (.object "FamilyKernel$Row")) (C := R_Fam) (T := T_Fam) (N := 18) hx hb hT in_Fam ty_Fam tyo_Fam nm_Fam hown hK hP hD hS 0 rfl rfl 8 (by decide) (hT _ vt_83) (fun _ h9 => h9) rfl hin rfl (by decide +kernel) rfl rfl (Nat.le_of_ble_eq_true rfl) d_Fam_init_88 (fun H locs hP hD hS => ?_)
  have hP : va_P (dC, dI) classes [(h0, .inr (9, [.ref p1, .ref p2, .ref p3, .ref p4, .ref p5, .ref q_1, .ref q_5, .ref q_9, .ref q_13, .null, .int 0, .int 0, .int 0, .int 0, .int 0, .int 0, .int 0, .int 0])), (q_13, .inr (0, [.int 16777216, .ref qa_14, .int 0])), (qa_14, .inl (cR_15, 16, .inl (fun _ => 0)))] H := hP
  have hD : va_D A [(h0, .inr (9, [.ref p1, .ref p2, .ref p3, .ref p4, .ref p5, .ref q_1, .ref q_5, .ref q_9, .ref q_13, .null, .int 0, .int 0, .int 0, .int 0, .int 0, .int 0, .int 0, .int 0])), (q_13, .inr (0, [.int 16777216, .ref qa_14, .int 0])), (qa_14, .inl (cR_15, 16, .inl (fun _ => 0)))] := hD
  have hP := hP.sub (ws' := [(h0, .inr (9, [.ref p1, .ref p2, .ref p3, .ref p4, .ref p5, .ref q_1, .ref q_5, .ref q_9, .ref q_13, .null, .int 0, .int 0, .int 0, .int 0, .int 0, .int 0, .int 0, .int 0]))]) [0] rfl
  have hD := hD.sub (ws' := [(h0, .inr (9, [.ref p1, .ref p2, .ref p3, .ref p4, .ref p5, .ref q_1, .ref q_5, .ref q_9, .ref q_13, .null, .int 0, .int 0, .int 0, .int 0, .int 0, .int 0, .int 0, .int 0]))]) [0] (by decide) rfl
  have hK := hK.sub (tys' := []) [] rfl
  refine lv_aload_n hx hb d_Fam_init_91 rfl (lv_at hl 0 rfl) ?_
  refine va_new (ci := 0) (fs := [.int 0, .null, .int 0]) (C := R_Row) (T := T_Row) (N := 3) hx hb hT in_Row ty_Row tyo_Row hown (hT _ vt_77) (hT _ vt_10) (hT _ vt_11) hK hP hD hS hA rfl df_Row (Nat.le_of_ble_eq_true rfl) (Nat.le_of_ble_eq_true rfl) d_Fam_init_92 (fun q_17 H hP hD hS => ?_)
  have hP : va_P (dC, dI) classes [(h0, .inr (9, [.ref p1, .ref p2, .ref p3, .ref p4, .ref p5, .ref q_1, .ref q_5, .ref q_9, .ref q_13, .null, .int 0, .int 0, .int 0, .int 0, .int 0, .int 0, .int 0, .int 0])), (q_17, .inr (0, [.int 0, .null, .int 0]))] H := hP
  have hD : va_D A [(h0, .inr (9, [.ref p1, .ref p2, .ref p3, .ref p4, .ref p5, .ref q_1, .ref q_5, .ref q_9, .ref q_13, .null, .int 0, .int 0, .int 0, .int 0, .int 0, .int 0, .int 0, .int 0])), (q_17, .inr (0, [.int 0, .null, .int 0]))] := hD
  refine W.widen (k := 9) (n := 79) (Nat.le_of_ble_eq_true rfl) (Nat.le_of_ble_eq_true rfl) ?_
  refine lv_dup hx hb d_Fam_init_95 rfl ?_
  refine lv_bipush (v := 16) hx hb d_Fam_init_96 (by decide) ?_
  refine lv_ldc (v := 16777216) hx hb hown (hT _ vt_78) d_Fam_init_98 ?_
  have hPc := hP.sub (ws' := [(q_17, .inr (0, [.int 0, .null, .int 0]))]) [1] rfl
  have hDc := hD.sub (ws' := [(q_17, .inr (0, [.int 0, .null, .int 0]))]) [1] (by decide) rfl
  have hKc := hK.sub (tys' := []) [] rfl
  have hFc := va_free (wc := [(q_17, .inr (0, [.int 0, .null, .int 0]))]) hD hS hA [1] rfl
  refine va_callv (va_runI (As := [.int 16, .int 16777216]) (rest := [.ref q_17, .ref h0]) ⟨hx, hb, hml, hown, hT⟩ (c_Row_init l dC dI H.size q_17 16 16 16777216 (by decide) (by decide) (by decide) (by decide)) (cwI 2 hT (gI vt_13) rfl rfl rfl (hT _ vt_11) (hT _ vt_79) (hT _ vt_15) rfl (by decide +kernel) ⟨Nat.le_of_ble_eq_true rfl, Nat.le_of_ble_eq_true rfl⟩) ⟨Pw_blind, Pw_of hPc hKc hDc⟩ rfl rfl hl.1 rfl (lv_room (Nat.le_of_ble_eq_true rfl)) d_Fam_init_100 ⟨Nat.le_of_ble_eq_true rfl, Nat.le_of_ble_eq_true rfl⟩) hS (fun q _ h => hFc q h) hFc (fun u t H1 locs ht hvm hw hB hz1 hk1 hS => ?_)
  obtain ⟨qa_18, cR_19, hP1, hK1, hD1⟩ := hB
  rw [ht] at hP1
  have hK1 := va_K.moved hvm.symm hK1
  obtain ⟨hP, hD⟩ := va_join (wr := [(h0, .inr (9, [.ref p1, .ref p2, .ref p3, .ref p4, .ref p5, .ref q_1, .ref q_5, .ref q_9, .ref q_13, .null, .int 0, .int 0, .int 0, .int 0, .int 0, .int 0, .int 0, .int 0]))]) (w1 := [(q_17, .inr (0, [.int 16777216, .ref qa_18, .int 0])), (qa_18, .inl (cR_19, 16, .inl (fun _ => 0)))]) hP hD [1] [0] rfl rfl (by decide) (by decide) hk1 hFc hP1 hD1
  have hK := hK.app hK1
  have hK : va_K (dC, dI) classes [(cR_19, .int)] s := hK
  generalize H1 = H at hP hS ⊢
  have hP : va_P (dC, dI) classes [(h0, .inr (9, [.ref p1, .ref p2, .ref p3, .ref p4, .ref p5, .ref q_1, .ref q_5, .ref q_9, .ref q_13, .null, .int 0, .int 0, .int 0, .int 0, .int 0, .int 0, .int 0, .int 0])), (q_17, .inr (0, [.int 16777216, .ref qa_18, .int 0])), (qa_18, .inl (cR_19, 16, .inl (fun _ => 0)))] H := hP
  have hD : va_D A [(h0, .inr (9, [.ref p1, .ref p2, .ref p3, .ref p4, .ref p5, .ref q_1, .ref q_5, .ref q_9, .ref q_13, .null, .int 0, .int 0, .int 0, .int 0, .int 0, .int 0, .int 0, .int 0])), (q_17, .inr (0, [.int 16777216, .ref qa_18, .int 0])), (qa_18, .inl (cR_19, 16, .inl (fun _ => 0)))] := hD
  refine W.widen (k := 10) (n := 95) (Nat.le_of_ble_eq_true rfl) (Nat.le_of_ble_eq_true rfl) ?_
  refine va_putF (D := (dC, dI)) (ci := 9) (v := .ref q_17) (ty := (.object "FamilyKernel$Row")) (C := R_Fam) (T := T_Fam) (N := 18) hx hb hT in_Fam ty_Fam tyo_Fam nm_Fam hown hK hP hD hS 0 rfl rfl 9 (by decide) (hT _ vt_84) (fun _ h9 => h9) rfl hin rfl (by decide +kernel) rfl rfl (Nat.le_of_ble_eq_true rfl) d_Fam_init_103 (fun H locs hP hD hS => ?_)
  have hP : va_P (dC, dI) classes [(h0, .inr (9, [.ref p1, .ref p2, .ref p3, .ref p4, .ref p5, .ref q_1, .ref q_5, .ref q_9, .ref q_13, .ref q_17, .int 0, .int 0, .int 0, .int 0, .int 0, .int 0, .int 0, .int 0])), (q_17, .inr (0, [.int 16777216, .ref qa_18, .int 0])), (qa_18, .inl (cR_19, 16, .inl (fun _ => 0)))] H := hP
  have hD : va_D A [(h0, .inr (9, [.ref p1, .ref p2, .ref p3, .ref p4, .ref p5, .ref q_1, .ref q_5, .ref q_9, .ref q_13, .ref q_17, .int 0, .int 0, .int 0, .int 0, .int 0, .int 0, .int 0, .int 0])), (q_17, .inr (0, [.int 16777216, .ref qa_18, .int 0])), (qa_18, .inl (cR_19, 16, .inl (fun _ => 0)))] := hD
  have hP := hP.sub (ws' := [(h0, .inr (9, [.ref p1, .ref p2, .ref p3, .ref p4, .ref p5, .ref q_1, .ref q_5, .ref q_9, .ref q_13, .ref q_17, .int 0, .int 0, .int 0, .int 0, .int 0, .int 0, .int 0, .int 0]))]) [0] rfl
  have hD := hD.sub (ws' := [(h0, .inr (9, [.ref p1, .ref p2, .ref p3, .ref p4, .ref p5, .ref q_1, .ref q_5, .ref q_9, .ref q_13, .ref q_17, .int 0, .int 0, .int 0, .int 0, .int 0, .int 0, .int 0, .int 0]))]) [0] (by decide) rfl
  have hK := hK.sub (tys' := []) [] rfl
  refine W.widen (k := 10) (n := 95) (Nat.le_of_ble_eq_true rfl) (Nat.le_of_ble_eq_true rfl) ?_
  exact W.vret hx hb hr (fun t ht hW => ⟨⟨(), rfl, trivial, trivial⟩, hS.F ht⟩) hS.2.2 d_Fam_init_106
set_option maxHeartbeats 4000000 in
set_option maxRecDepth 100000 in
/-- Pri(..) -/
theorem c_Pri_init (l : Launch) (dC : Nat → ClassId) (dI : Nat → Nat → Nat) (sz : Nat) (h0 p1 p2 p3 : Nat) : Met l y_Pri_init w_Pri_init ({ frames := 20, cells := 2, slots := 99, locals := 600 }) (Pw dC dI [.ref h0, .ref p1, .ref p2, .ref p3] sz [(h0, .inr (10, [.null, .null, .null, .null]))] []) (va_Qv (fun _ : Unit => True) (fun _ t => True) (va_A [(h0, .inr (10, [.null, .null, .null, .null]))] sz)) 2 99 (va_A [(h0, .inr (10, [.null, .null, .null, .null]))] sz) := by
  refine Met.ofW (cc := b_Pri_init) (maxL := 4) (ret := none) (by decide) rfl ?_
  intro p e s m args below meth c s₁ B hml hv
  obtain ⟨rfl, hsz, hP, hK, hD0⟩ := hv
  have hx := B.exec
  have hb := B.bytes
  have hr := B.returns
  have hT : ∀ w ∈ vT, w.before _ s = true := fun w h => atoms_spec (ws := w_Pri_init) B.pre w (List.mem_cons_of_mem _ h)
  have hown : s.vm.findClass R_Pri = some m.cls := findClass_of_methodNamed B.named
  have hlocks := B.notSynchronized
  have hin : meth.name = "<init>" := (name_of_methodNamed B.named B.method).1
  subst hsz
  have hD := hD0.self (sz := s.heap.size)
  generalize hAe : va_A [(h0, .inr (10, [.null, .null, .null, .null]))] s.heap.size = A at hD ⊢
  have hA : ∀ q : Nat, s.heap.size ≤ q → A q := fun q h => by rw [← hAe]; exact Or.inr h
  have hS : va_S A s.heap s.heap [] := va_S.rf
  have hP : va_P (dC, dI) classes [(h0, .inr (10, [.null, .null, .null, .null]))] s.heap := hP
  have hl := lv_entry ([.ref h0, .ref p1, .ref p2, .ref p3]) (n := 4) (Nat.le_of_ble_eq_true rfl)
  rw [lg_entry_eq]
  generalize (lg_sl ([.ref h0, .ref p1, .ref p2, .ref p3]) ++ List.replicate (4 - (lg_sl ([.ref h0, .ref p1, .ref p2, .ref p3])).length) Slot.unset).toArray = ls at hl ⊢
  have hl : lv_has ls 4 [(0, .ref h0), (1, .ref p1), (2, .ref p2), (3, .ref p3)] := hl
  refine lv_aload_n hx hb d_Pri_init_0 rfl (lv_at hl 0 rfl) ?_
  refine W.objInit hx hb hown (hT _ vt_85) (hT _ vt_1) (hT _ vt_2) rfl (by rw [hml]; exact hl.1) rfl d_Pri_init_1 (Nat.le_of_ble_eq_true rfl) (Nat.le_of_ble_eq_true rfl) ?_
  refine W.eq (g2 := F0 m 4 ls []) rfl ?_
  refine lv_aload_n hx hb d_Pri_init_4 rfl (lv_at hl 0 rfl) ?_
  refine lv_aload_n hx hb d_Pri_init_5 rfl (lv_at hl 1 rfl) ?_
  refine va_putF (D := (dC, dI)) (ci := 10) (v := .ref p1) (ty := (.object "FamilyKernel$Row")) (C := R_Pri) (T := T_Pri) (N := 4) hx hb hT in_Pri ty_Pri tyo_Pri nm_Pri hown hK hP hD hS 0 rfl rfl 0 (by decide) (hT _ vt_86) (fun _ h9 => h9) rfl hin rfl (by decide +kernel) rfl rfl (Nat.le_of_ble_eq_true rfl) d_Pri_init_6 (fun H locs hP hD hS => ?_)
  have hP : va_P (dC, dI) classes [(h0, .inr (10, [.ref p1, .null, .null, .null]))] H := hP
  have hD : va_D A [(h0, .inr (10, [.ref p1, .null, .null, .null]))] := hD
  refine lv_aload_n hx hb d_Pri_init_9 rfl (lv_at hl 0 rfl) ?_
  refine lv_aload_n hx hb d_Pri_init_10 rfl (lv_at hl 2 rfl) ?_
  refine va_putF (D := (dC, dI)) (ci := 10) (v := .ref p2) (ty := (.object "FamilyKernel$Terms")) (C := R_Pri) (T := T_Pri) (N := 4) hx hb hT in_Pri ty_Pri tyo_Pri nm_Pri hown hK hP hD hS 0 rfl rfl 1 (by decide) (hT _ vt_87) (fun _ h9 => h9) rfl hin rfl (by decide +kernel) rfl rfl (Nat.le_of_ble_eq_true rfl) d_Pri_init_11 (fun H locs hP hD hS => ?_)
  have hP : va_P (dC, dI) classes [(h0, .inr (10, [.ref p1, .ref p2, .null, .null]))] H := hP
  have hD : va_D A [(h0, .inr (10, [.ref p1, .ref p2, .null, .null]))] := hD
  refine lv_aload_n hx hb d_Pri_init_14 rfl (lv_at hl 0 rfl) ?_
  refine lv_aload_n hx hb d_Pri_init_15 rfl (lv_at hl 3 rfl) ?_
  refine va_putF (D := (dC, dI)) (ci := 10) (v := .ref p3) (ty := (.object "FamilyKernel$Environment")) (C := R_Pri) (T := T_Pri) (N := 4) hx hb hT in_Pri ty_Pri tyo_Pri nm_Pri hown hK hP hD hS 0 rfl rfl 2 (by decide) (hT _ vt_88) (fun _ h9 => h9) rfl hin rfl (by decide +kernel) rfl rfl (Nat.le_of_ble_eq_true rfl) d_Pri_init_16 (fun H locs hP hD hS => ?_)
  have hP : va_P (dC, dI) classes [(h0, .inr (10, [.ref p1, .ref p2, .ref p3, .null]))] H := hP
  have hD : va_D A [(h0, .inr (10, [.ref p1, .ref p2, .ref p3, .null]))] := hD
  refine lv_aload_n hx hb d_Pri_init_19 rfl (lv_at hl 0 rfl) ?_
  refine va_new (ci := 0) (fs := [.int 0, .null, .int 0]) (C := R_Row) (T := T_Row) (N := 3) hx hb hT in_Row ty_Row tyo_Row hown (hT _ vt_89) (hT _ vt_10) (hT _ vt_11) hK hP hD hS hA rfl df_Row (Nat.le_of_ble_eq_true rfl) (Nat.le_of_ble_eq_true rfl) d_Pri_init_20 (fun q_1 H hP hD hS => ?_)
  have hP : va_P (dC, dI) classes [(h0, .inr (10, [.ref p1, .ref p2, .ref p3, .null])), (q_1, .inr (0, [.int 0, .null, .int 0]))] H := hP
  have hD : va_D A [(h0, .inr (10, [.ref p1, .ref p2, .ref p3, .null])), (q_1, .inr (0, [.int 0, .null, .int 0]))] := hD
  refine W.widen (k := 1) (n := 3) (Nat.le_of_ble_eq_true rfl) (Nat.le_of_ble_eq_true rfl) ?_
  refine lv_dup hx hb d_Pri_init_23 rfl ?_
  refine lv_bipush (v := 96) hx hb d_Pri_init_24 (by decide) ?_
  refine lv_ldc (v := 16777216) hx hb hown (hT _ vt_90) d_Pri_init_26 ?_
  have hPc := hP.sub (ws' := [(q_1, .inr (0, [.int 0, .null, .int 0]))]) [1] rfl
  have hDc := hD.sub (ws' := [(q_1, .inr (0, [.int 0, .null, .int 0]))]) [1] (by decide) rfl
  have hKc := hK.sub (tys' := []) [] rfl
  have hFc := va_free (wc := [(q_1, .inr (0, [.int 0, .null, .int 0]))]) hD hS hA [1] rfl
  refine va_callv (va_runI (As := [.int 96, .int 16777216]) (rest := [.ref q_1, .ref h0]) ⟨hx, hb, hml, hown, hT⟩ (c_Row_init l dC dI H.size q_1 96 96 16777216 (by decide) (by decide) (by decide) (by decide)) (cwI 2 hT (gI vt_13) rfl rfl rfl (hT _ vt_11) (hT _ vt_91) (hT _ vt_15) rfl (by decide +kernel) ⟨Nat.le_of_ble_eq_true rfl, Nat.le_of_ble_eq_true rfl⟩) ⟨Pw_blind, Pw_of hPc hKc hDc⟩ rfl rfl hl.1 rfl (lv_room (Nat.le_of_ble_eq_true rfl)) d_Pri_init_28 ⟨Nat.le_of_ble_eq_true rfl, Nat.le_of_ble_eq_true rfl⟩) hS (fun q _ h => hFc q h) hFc (fun u t H1 locs ht hvm hw hB hz1 hk1 hS => ?_)
  obtain ⟨qa_2, cR_3, hP1, hK1, hD1⟩ := hB
  rw [ht] at hP1
  have hK1 := va_K.moved hvm.symm hK1
  obtain ⟨hP, hD⟩ := va_join (wr := [(h0, .inr (10, [.ref p1, .ref p2, .ref p3, .null]))]) (w1 := [(q_1, .inr (0, [.int 16777216, .ref qa_2, .int 0])), (qa_2, .inl (cR_3, 96, .inl (fun _ => 0)))]) hP hD [1] [0] rfl rfl (by decide) (by decide) hk1 hFc hP1 hD1
  have hK := hK.app hK1
  have hK : va_K (dC, dI) classes [(cR_3, .int)] s := hK
  generalize H1 = H at hP hS ⊢
  have hP : va_P (dC, dI) classes [(h0, .inr (10, [.ref p1, .ref p2, .ref p3, .null])), (q_1, .inr (0, [.int 16777216, .ref qa_2, .int 0])), (qa_2, .inl (cR_3, 96, .inl (fun _ => 0)))] H := hP
  have hD : va_D A [(h0, .inr (10, [.ref p1, .ref p2, .ref p3, .null])), (q_1, .inr (0, [.int 16777216, .ref qa_2, .int 0])), (qa_2, .inl (cR_3, 96, .inl (fun _ => 0)))] := hD
  refine W.widen (k := 2) (n := 99) (Nat.le_of_ble_eq_true rfl) (Nat.le_of_ble_eq_true rfl) ?_
  refine va_putF (D := (dC, dI)) (ci := 10) (v := .ref q_1) (ty := (.object "FamilyKernel$Row")) (C := R_Pri) (T := T_Pri) (N := 4) hx hb hT in_Pri ty_Pri tyo_Pri nm_Pri hown hK hP hD hS 0 rfl rfl 3 (by decide) (hT _ vt_92) (fun _ h9 => h9) rfl hin rfl (by decide +kernel) rfl rfl (Nat.le_of_ble_eq_true rfl) d_Pri_init_31 (fun H locs hP hD hS => ?_)
  have hP : va_P (dC, dI) classes [(h0, .inr (10, [.ref p1, .ref p2, .ref p3, .ref q_1])), (q_1, .inr (0, [.int 16777216, .ref qa_2, .int 0])), (qa_2, .inl (cR_3, 96, .inl (fun _ => 0)))] H := hP
  have hD : va_D A [(h0, .inr (10, [.ref p1, .ref p2, .ref p3, .ref q_1])), (q_1, .inr (0, [.int 16777216, .ref qa_2, .int 0])), (qa_2, .inl (cR_3, 96, .inl (fun _ => 0)))] := hD
  have hP := hP.sub (ws' := [(h0, .inr (10, [.ref p1, .ref p2, .ref p3, .ref q_1]))]) [0] rfl
  have hD := hD.sub (ws' := [(h0, .inr (10, [.ref p1, .ref p2, .ref p3, .ref q_1]))]) [0] (by decide) rfl
  have hK := hK.sub (tys' := []) [] rfl
  refine W.widen (k := 2) (n := 99) (Nat.le_of_ble_eq_true rfl) (Nat.le_of_ble_eq_true rfl) ?_
  exact W.vret hx hb hr (fun t ht hW => ⟨⟨(), rfl, trivial, trivial⟩, hS.F ht⟩) hS.2.2 d_Pri_init_34
