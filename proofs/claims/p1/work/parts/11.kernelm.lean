set_option maxHeartbeats 4000000 in
set_option maxRecDepth 100000 in
/-- read with an empty TAPE -/
theorem c_Ker_read (l : Launch) (dC : Nat → ClassId) (dI : Nat → Nat → Nat) (sz : Nat) (h0 tp ta sh sa me te t1 t2 t3 t4 t5 t6 t7 t8 en fc fa nn lx tk ka pa fr re ty fm pr : Nat) (cT cK : ClassId) : Met l y_Ker_read w_Ker_read ({ frames := 60, cells := 0, slots := 0, locals := 1800 }) (Pw dC dI [.ref h0] sz [(h0, .inr (11, [.ref tp, .ref sh, .ref me, .ref te, .ref en, .ref lx, .ref pa, .ref fr, .ref re, .ref ty, .ref fm, .ref pr, .int 0, .int 0])), (tp, .inr (0, [.int 65536, .ref ta, .int 0])), (me, .inr (1, [.int 0, .int 0, .int 0, .int 0])), (lx, .inr (4, [.ref tp, .ref tk, .int 0, .int 0, .int 0, .int 0, .int 0])), (tk, .inr (0, [.int 16777216, .ref ka, .int 0])), (ka, .inl (cK, 64, .inl (fun _ => 0)))] [(cK, .int)]) (va_Qi (fun (r : Int32) (_ : Unit) => r = 0) (fun _ t => True) (va_A [(h0, .inr (11, [.ref tp, .ref sh, .ref me, .ref te, .ref en, .ref lx, .ref pa, .ref fr, .ref re, .ref ty, .ref fm, .ref pr, .int 0, .int 0])), (tp, .inr (0, [.int 65536, .ref ta, .int 0])), (me, .inr (1, [.int 0, .int 0, .int 0, .int 0])), (lx, .inr (4, [.ref tp, .ref tk, .int 0, .int 0, .int 0, .int 0, .int 0])), (tk, .inr (0, [.int 16777216, .ref ka, .int 0])), (ka, .inl (cK, 64, .inl (fun _ => 0)))] sz)) 0 0 (va_A [(h0, .inr (11, [.ref tp, .ref sh, .ref me, .ref te, .ref en, .ref lx, .ref pa, .ref fr, .ref re, .ref ty, .ref fm, .ref pr, .int 0, .int 0])), (tp, .inr (0, [.int 65536, .ref ta, .int 0])), (me, .inr (1, [.int 0, .int 0, .int 0, .int 0])), (lx, .inr (4, [.ref tp, .ref tk, .int 0, .int 0, .int 0, .int 0, .int 0])), (tk, .inr (0, [.int 16777216, .ref ka, .int 0])), (ka, .inl (cK, 64, .inl (fun _ => 0)))] sz) := by
  refine va_MetW (hh := [(65, 104, 107, 108)]) (cc := b_Ker_read) (maxL := 6) (ret := (some .int)) (by decide) rfl ?_
  intro p e s m args below meth c s₁ B hml hv
  obtain ⟨rfl, hsz, hP, hK, hD0⟩ := hv
  have hx := B.exec
  have hb := B.bytes
  have hr := B.returns
  have hT : ∀ w ∈ vT, w.before _ s = true := fun w h => atoms_spec (ws := w_Ker_read) B.pre w (List.mem_cons_of_mem _ h)
  have hown : s.vm.findClass R_Ker = some m.cls := findClass_of_methodNamed B.named
  have hlocks := B.notSynchronized
  subst hsz
  have hD := hD0.self (sz := s.heap.size)
  generalize hAe : va_A [(h0, .inr (11, [.ref tp, .ref sh, .ref me, .ref te, .ref en, .ref lx, .ref pa, .ref fr, .ref re, .ref ty, .ref fm, .ref pr, .int 0, .int 0])), (tp, .inr (0, [.int 65536, .ref ta, .int 0])), (me, .inr (1, [.int 0, .int 0, .int 0, .int 0])), (lx, .inr (4, [.ref tp, .ref tk, .int 0, .int 0, .int 0, .int 0, .int 0])), (tk, .inr (0, [.int 16777216, .ref ka, .int 0])), (ka, .inl (cK, 64, .inl (fun _ => 0)))] s.heap.size = A at hD ⊢
  have hA : ∀ q : Nat, s.heap.size ≤ q → A q := fun q h => by rw [← hAe]; exact Or.inr h
  have hS : va_S A s.heap s.heap [] := va_S.rf
  have hP : va_P (dC, dI) classes [(h0, .inr (11, [.ref tp, .ref sh, .ref me, .ref te, .ref en, .ref lx, .ref pa, .ref fr, .ref re, .ref ty, .ref fm, .ref pr, .int 0, .int 0])), (tp, .inr (0, [.int 65536, .ref ta, .int 0])), (me, .inr (1, [.int 0, .int 0, .int 0, .int 0])), (lx, .inr (4, [.ref tp, .ref tk, .int 0, .int 0, .int 0, .int 0, .int 0])), (tk, .inr (0, [.int 16777216, .ref ka, .int 0])), (ka, .inl (cK, 64, .inl (fun _ => 0)))] s.heap := hP
  have hl := lv_entry ([.ref h0]) (n := 6) (Nat.le_of_ble_eq_true rfl)
  rw [lg_entry_eq]
  generalize (lg_sl ([.ref h0]) ++ List.replicate (6 - (lg_sl ([.ref h0])).length) Slot.unset).toArray = ls at hl ⊢
  have hl : lv_has ls 6 [(0, .ref h0)] := hl
  refine lv_aload_n hx hb d_Ker_read_0 rfl (lv_at hl 0 rfl) ?_
  refine va_get (D := (dC, dI)) (ci := 11) (v := .ref me) (C := R_Ker) (T := T_Ker) (N := 14) hx hb hT in_Ker hown hK hP 0 rfl rfl 2 (by decide) (hT _ vt_104) (fun _ h9 => h9) rfl d_Ker_read_1 ?_
  have hPc := hP.sub (ws' := [(me, .inr (1, [.int 0, .int 0, .int 0, .int 0]))]) [2] rfl
  have hDc := hD.sub (ws' := [(me, .inr (1, [.int 0, .int 0, .int 0, .int 0]))]) [2] (by decide) rfl
  have hKc := hK.sub (tys' := []) [] rfl
  have hFc := va_free (wc := [(me, .inr (1, [.int 0, .int 0, .int 0, .int 0]))]) hD hS hA [2] rfl
  refine va_callv (va_runV (As := []) (rest := []) ⟨hx, hb, hml, hown, hT⟩ (c_Meter_forget l dC dI s.heap.size me) (cwV 0 hT (gV vt_300 vt_301 vt_302 vt_101 vt_303) rfl rfl rfl (by decide +kernel) ⟨Nat.le_of_ble_eq_true rfl, Nat.le_of_ble_eq_true rfl⟩) ⟨Pw_blind, va_recv hK hP (ci := 1) (q0 := 2) rfl rfl, Pw_of hPc hKc hDc⟩ rfl rfl hl.1 rfl (lv_room (Nat.le_of_ble_eq_true rfl)) d_Ker_read_4 ⟨Nat.le_of_ble_eq_true rfl, Nat.le_of_ble_eq_true rfl⟩) hS (fun q _ h => hFc q h) hFc (fun u t H1 locs ht hvm hw hB hz1 hk1 hS => ?_)
  obtain ⟨hP1, hK1, hD1⟩ := hB
  rw [ht] at hP1
  have hK1 := va_K.moved hvm.symm hK1
  obtain ⟨hP, hD⟩ := va_join (wr := [(h0, .inr (11, [.ref tp, .ref sh, .ref me, .ref te, .ref en, .ref lx, .ref pa, .ref fr, .ref re, .ref ty, .ref fm, .ref pr, .int 0, .int 0])), (tp, .inr (0, [.int 65536, .ref ta, .int 0])), (lx, .inr (4, [.ref tp, .ref tk, .int 0, .int 0, .int 0, .int 0, .int 0])), (tk, .inr (0, [.int 16777216, .ref ka, .int 0])), (ka, .inl (cK, 64, .inl (fun _ => 0)))]) (w1 := [(me, .inr (1, [.int 0, .int 0, .int 0, .int 0]))]) hP hD [2] [0, 1, 3, 4, 5] rfl rfl (by decide) (by decide) hk1 hFc hP1 hD1
  generalize H1 = H at hP hS ⊢
  have hP : va_P (dC, dI) classes [(h0, .inr (11, [.ref tp, .ref sh, .ref me, .ref te, .ref en, .ref lx, .ref pa, .ref fr, .ref re, .ref ty, .ref fm, .ref pr, .int 0, .int 0])), (tp, .inr (0, [.int 65536, .ref ta, .int 0])), (lx, .inr (4, [.ref tp, .ref tk, .int 0, .int 0, .int 0, .int 0, .int 0])), (tk, .inr (0, [.int 16777216, .ref ka, .int 0])), (ka, .inl (cK, 64, .inl (fun _ => 0))), (me, .inr (1, [.int 0, .int 0, .int 0, .int 0]))] H := hP
  have hD : va_D A [(h0, .inr (11, [.ref tp, .ref sh, .ref me, .ref te, .ref en, .ref lx, .ref pa, .ref fr, .ref re, .ref ty, .ref fm, .ref pr, .int 0, .int 0])), (tp, .inr (0, [.int 65536, .ref ta, .int 0])), (lx, .inr (4, [.ref tp, .ref tk, .int 0, .int 0, .int 0, .int 0, .int 0])), (tk, .inr (0, [.int 16777216, .ref ka, .int 0])), (ka, .inl (cK, 64, .inl (fun _ => 0))), (me, .inr (1, [.int 0, .int 0, .int 0, .int 0]))] := hD
  refine W.widen (k := 0) (n := 0) (Nat.le_of_ble_eq_true rfl) (Nat.le_of_ble_eq_true rfl) ?_
  refine lv_aload_n hx hb d_Ker_read_7 rfl (lv_at hl 0 rfl) ?_
  refine va_get (D := (dC, dI)) (ci := 11) (v := .ref lx) (C := R_Ker) (T := T_Ker) (N := 14) hx hb hT in_Ker hown hK hP 0 rfl rfl 5 (by decide) (hT _ vt_125) (fun _ h9 => h9) rfl d_Ker_read_8 ?_
  have hPc := hP.sub (ws' := [(lx, .inr (4, [.ref tp, .ref tk, .int 0, .int 0, .int 0, .int 0, .int 0])), (tp, .inr (0, [.int 65536, .ref ta, .int 0])), (tk, .inr (0, [.int 16777216, .ref ka, .int 0])), (ka, .inl (cK, 64, .inl (fun _ => 0)))]) [2, 1, 3, 4] rfl
  have hDc := hD.sub (ws' := [(lx, .inr (4, [.ref tp, .ref tk, .int 0, .int 0, .int 0, .int 0, .int 0])), (tp, .inr (0, [.int 65536, .ref ta, .int 0])), (tk, .inr (0, [.int 16777216, .ref ka, .int 0])), (ka, .inl (cK, 64, .inl (fun _ => 0)))]) [2, 1, 3, 4] (by decide) rfl
  have hKc := hK.sub (tys' := [(cK, .int)]) [0] rfl
  have hFc := va_free (wc := [(lx, .inr (4, [.ref tp, .ref tk, .int 0, .int 0, .int 0, .int 0, .int 0])), (tp, .inr (0, [.int 65536, .ref ta, .int 0])), (tk, .inr (0, [.int 16777216, .ref ka, .int 0])), (ka, .inl (cK, 64, .inl (fun _ => 0)))]) hD hS hA [2, 1, 3, 4] rfl
  refine va_callv (va_runV (As := []) (rest := []) ⟨hx, hb, hml, hown, hT⟩ (c_Lex_begin l dC dI H.size lx tp tk ta ka cK) (cwV 0 hT (gV vt_304 vt_305 vt_306 vt_121 vt_307) rfl rfl rfl (by decide +kernel) ⟨Nat.le_of_ble_eq_true rfl, Nat.le_of_ble_eq_true rfl⟩) ⟨Pw_blind, va_recv hK hP (ci := 4) (q0 := 2) rfl rfl, Pw_of hPc hKc hDc⟩ rfl rfl hl.1 rfl (lv_room (Nat.le_of_ble_eq_true rfl)) d_Ker_read_11 ⟨Nat.le_of_ble_eq_true rfl, Nat.le_of_ble_eq_true rfl⟩) hS (fun q _ h => hFc q h) hFc (fun u t H1 locs ht hvm hw hB hz1 hk1 hS => ?_)
  obtain ⟨hP1, hK1, hD1⟩ := hB
  rw [ht] at hP1
  have hK1 := va_K.moved hvm.symm hK1
  obtain ⟨hP, hD⟩ := va_join (wr := [(h0, .inr (11, [.ref tp, .ref sh, .ref me, .ref te, .ref en, .ref lx, .ref pa, .ref fr, .ref re, .ref ty, .ref fm, .ref pr, .int 0, .int 0])), (me, .inr (1, [.int 0, .int 0, .int 0, .int 0]))]) (w1 := [(lx, .inr (4, [.ref tp, .ref tk, .int 0, .int 0, .int 0, .int 0, .int 0])), (tp, .inr (0, [.int 65536, .ref ta, .int 0]))]) hP hD [2, 1, 3, 4] [0, 5] rfl rfl (by decide) (by decide) hk1 hFc hP1 hD1
  generalize H1 = H at hP hS ⊢
  have hP : va_P (dC, dI) classes [(h0, .inr (11, [.ref tp, .ref sh, .ref me, .ref te, .ref en, .ref lx, .ref pa, .ref fr, .ref re, .ref ty, .ref fm, .ref pr, .int 0, .int 0])), (me, .inr (1, [.int 0, .int 0, .int 0, .int 0])), (lx, .inr (4, [.ref tp, .ref tk, .int 0, .int 0, .int 0, .int 0, .int 0])), (tp, .inr (0, [.int 65536, .ref ta, .int 0]))] H := hP
  have hD : va_D A [(h0, .inr (11, [.ref tp, .ref sh, .ref me, .ref te, .ref en, .ref lx, .ref pa, .ref fr, .ref re, .ref ty, .ref fm, .ref pr, .int 0, .int 0])), (me, .inr (1, [.int 0, .int 0, .int 0, .int 0])), (lx, .inr (4, [.ref tp, .ref tk, .int 0, .int 0, .int 0, .int 0, .int 0])), (tp, .inr (0, [.int 65536, .ref ta, .int 0]))] := hD
  refine W.widen (k := 0) (n := 0) (Nat.le_of_ble_eq_true rfl) (Nat.le_of_ble_eq_true rfl) ?_
  refine lv_iconst (v := 0) hx hb d_Ker_read_14 (by decide) ?_
  refine lv_istore_n (lv' := [(1, .int 0), (0, .ref h0)]) hx hb d_Ker_read_15 rfl hl (by decide) rfl (fun ls hl => ?_)
  refine lv_iconst (v := 0) hx hb d_Ker_read_16 (by decide) ?_
  refine lv_istore_n (lv' := [(2, .int 0), (1, .int 0), (0, .ref h0)]) hx hb d_Ker_read_17 rfl hl (by decide) rfl (fun ls hl => ?_)
  refine lv_iload_n hx hb d_Ker_read_18 rfl (lv_at hl 0 rfl) ?_
  refine lv_ldc (v := 65536) hx hb hown (hT _ vt_95) d_Ker_read_19 ?_
  refine lv_icmp_gt (tgt := 159) hx hb d_Ker_read_21 (by decide) (fun c_3 => absurd c_3 (by decide)) (fun c_3 => ?_)
  refine lv_aload_n hx hb d_Ker_read_24 rfl (lv_at hl 2 rfl) ?_
  refine va_get (D := (dC, dI)) (ci := 11) (v := .ref lx) (C := R_Ker) (T := T_Ker) (N := 14) hx hb hT in_Ker hown hK hP 0 rfl rfl 5 (by decide) (hT _ vt_125) (fun _ h9 => h9) rfl d_Ker_read_25 ?_
  refine W.callR (W.runV (As := []) (rest := []) ⟨hx, hb, hml, hown, hT⟩ (c_Lex_kind l dC dI lx tp tk) (cwV 0 hT (gV vt_308 vt_309 vt_310 vt_121 vt_311) rfl rfl rfl (by decide +kernel) ⟨Nat.le_of_ble_eq_true rfl, Nat.le_of_ble_eq_true rfl⟩) ⟨Pp_blind, va_recv hK hP (ci := 4) (q0 := 2) rfl rfl, Pp_of (hP.sub (ws' := [(lx, .inr (4, [.ref tp, .ref tk, .int 0, .int 0, .int 0, .int 0, .int 0]))]) [2] rfl) (hK.sub (tys' := []) [] rfl)⟩ rfl rfl hl.1 rfl (lv_room (Nat.le_of_ble_eq_true rfl)) d_Ker_read_28 ⟨Nat.le_of_ble_eq_true rfl, Nat.le_of_ble_eq_true rfl⟩) ?_
  refine W.eq (g2 := F0 m 31 ls [.int 0]) rfl ?_
  refine lv_if_eq (tgt := 159) hx hb d_Ker_read_31 (by decide) (fun c_4 => ?_) (fun c_4 => absurd (by decide) c_4)
  refine lv_aload_n hx hb d_Ker_read_159 rfl (lv_at hl 2 rfl) ?_
  refine va_get (D := (dC, dI)) (ci := 11) (v := .ref tp) (C := R_Ker) (T := T_Ker) (N := 14) hx hb hT in_Ker hown hK hP 0 rfl rfl 0 (by decide) (hT _ vt_97) (fun _ h9 => h9) rfl d_Ker_read_160 ?_
  refine lv_iconst (v := 0) hx hb d_Ker_read_163 (by decide) ?_
  refine vx_callU (W.runV (As := [.int 0]) (rest := []) ⟨hx, hb, hml, hown, hT⟩ (c_Row_cut l dC dI tp ta 65536 0 0 (by decide) (by decide)) (cwV 1 hT (gV vt_312 vt_281 vt_282 vt_11 vt_283) rfl rfl rfl (by decide +kernel) ⟨Nat.le_of_ble_eq_true rfl, Nat.le_of_ble_eq_true rfl⟩) ⟨Pp_blind, va_recv hK hP (ci := 0) (q0 := 3) rfl rfl, Pp_of (hP.sub (ws' := [(tp, .inr (0, [.int 65536, .ref ta, .int 0]))]) [3] rfl) (hK.sub (tys' := []) [] rfl)⟩ rfl rfl hl.1 rfl (lv_room (Nat.le_of_ble_eq_true rfl)) d_Ker_read_164 ⟨Nat.le_of_ble_eq_true rfl, Nat.le_of_ble_eq_true rfl⟩) ?_
  refine W.eq (g2 := F0 m 167 ls []) rfl ?_
  refine lv_iload_n hx hb d_Ker_read_167 rfl (lv_at hl 1 rfl) ?_
  refine W.widen (k := 0) (n := 0) (Nat.le_of_ble_eq_true rfl) (Nat.le_of_ble_eq_true rfl) ?_
  exact W.iret (v := 0) hx hb hr (fun t ht hW => ⟨⟨0, (), rfl, rfl, trivial⟩, hS.F ht⟩) hS.2.2 d_Ker_read_168
set_option maxHeartbeats 4000000 in
set_option maxRecDepth 100000 in
/-- takeBytes -/
theorem c_Ker_takeBytes (l : Launch) (dC : Nat → ClassId) (dI : Nat → Nat → Nat) (sz : Nat) (h0 tp ta sh sa me te t1 t2 t3 t4 t5 t6 t7 t8 en fc fa nn lx tk ka pa fr re ty fm pr : Nat) (cT cK : ClassId) (k : Nat) (f : Nat → Int32) (v : Int32) (hk : k + 4 ≤ 20) : Met l y_Ker_takeBytes w_Ker_takeBytes ({ frames := 30, cells := 0, slots := 0, locals := 900 }) (Pw dC dI [.ref h0, .int v] sz [(h0, .inr (11, [.ref tp, .ref sh, .ref me, .ref te, .ref en, .ref lx, .ref pa, .ref fr, .ref re, .ref ty, .ref fm, .ref pr, .int 0, .int 0])), (tp, .inr (0, [.int 65536, .ref ta, .int (nI k)])), (ta, .inl (cT, 256, .inl f))] [(cT, .int)]) (va_Qv (fun _ : Unit => True) (fun _ t => ∃ (f2 : Nat → Int32), va_P (dC, dI) classes [(h0, .inr (11, [.ref tp, .ref sh, .ref me, .ref te, .ref en, .ref lx, .ref pa, .ref fr, .ref re, .ref ty, .ref fm, .ref pr, .int 0, .int 0])), (tp, .inr (0, [.int 65536, .ref ta, .int (nI (k + 4))])), (ta, .inl (cT, 256, .inl f2))] t.heap ∧ va_K (dC, dI) classes [(cT, .int)] t ∧ va_D (va_A [(h0, .inr (11, [.ref tp, .ref sh, .ref me, .ref te, .ref en, .ref lx, .ref pa, .ref fr, .ref re, .ref ty, .ref fm, .ref pr, .int 0, .int 0])), (tp, .inr (0, [.int 65536, .ref ta, .int (nI k)])), (ta, .inl (cT, 256, .inl f))] sz) [(h0, .inr (11, [.ref tp, .ref sh, .ref me, .ref te, .ref en, .ref lx, .ref pa, .ref fr, .ref re, .ref ty, .ref fm, .ref pr, .int 0, .int 0])), (tp, .inr (0, [.int 65536, .ref ta, .int (nI (k + 4))])), (ta, .inl (cT, 256, .inl f2))]) (va_A [(h0, .inr (11, [.ref tp, .ref sh, .ref me, .ref te, .ref en, .ref lx, .ref pa, .ref fr, .ref re, .ref ty, .ref fm, .ref pr, .int 0, .int 0])), (tp, .inr (0, [.int 65536, .ref ta, .int (nI k)])), (ta, .inl (cT, 256, .inl f))] sz)) 0 0 (va_A [(h0, .inr (11, [.ref tp, .ref sh, .ref me, .ref te, .ref en, .ref lx, .ref pa, .ref fr, .ref re, .ref ty, .ref fm, .ref pr, .int 0, .int 0])), (tp, .inr (0, [.int 65536, .ref ta, .int (nI k)])), (ta, .inl (cT, 256, .inl f))] sz) := by
  refine Met.ofW (cc := b_Ker_takeBytes) (maxL := 3) (ret := none) (by decide) rfl ?_
  intro p e s m args below meth c s₁ B hml hv
  obtain ⟨rfl, hsz, hP, hK, hD0⟩ := hv
  have hx := B.exec
  have hb := B.bytes
  have hr := B.returns
  have hT : ∀ w ∈ vT, w.before _ s = true := fun w h => atoms_spec (ws := w_Ker_takeBytes) B.pre w (List.mem_cons_of_mem _ h)
  have hown : s.vm.findClass R_Ker = some m.cls := findClass_of_methodNamed B.named
  have hlocks := B.notSynchronized
  subst hsz
  have hD := hD0.self (sz := s.heap.size)
  generalize hAe : va_A [(h0, .inr (11, [.ref tp, .ref sh, .ref me, .ref te, .ref en, .ref lx, .ref pa, .ref fr, .ref re, .ref ty, .ref fm, .ref pr, .int 0, .int 0])), (tp, .inr (0, [.int 65536, .ref ta, .int (nI k)])), (ta, .inl (cT, 256, .inl f))] s.heap.size = A at hD ⊢
  have hA : ∀ q : Nat, s.heap.size ≤ q → A q := fun q h => by rw [← hAe]; exact Or.inr h
  have hS : va_S A s.heap s.heap [] := va_S.rf
  have hP : va_P (dC, dI) classes [(h0, .inr (11, [.ref tp, .ref sh, .ref me, .ref te, .ref en, .ref lx, .ref pa, .ref fr, .ref re, .ref ty, .ref fm, .ref pr, .int 0, .int 0])), (tp, .inr (0, [.int 65536, .ref ta, .int (nI k)])), (ta, .inl (cT, 256, .inl f))] s.heap := hP
  have hl := lv_entry ([.ref h0, .int v]) (n := 3) (Nat.le_of_ble_eq_true rfl)
  rw [lg_entry_eq]
  generalize (lg_sl ([.ref h0, .int v]) ++ List.replicate (3 - (lg_sl ([.ref h0, .int v])).length) Slot.unset).toArray = ls at hl ⊢
  have hl : lv_has ls 3 [(0, .ref h0), (1, .int v)] := hl
  refine lv_bipush (v := 24) hx hb d_Ker_takeBytes_0 (by decide) ?_
  refine lv_istore_n (lv' := [(2, .int 24), (0, .ref h0), (1, .int v)]) hx hb d_Ker_takeBytes_2 rfl hl (by decide) rfl (fun ls hl => ?_)
  refine lv_iload_n hx hb d_Ker_takeBytes_3 rfl (lv_at hl 0 rfl) ?_
  refine lv_if_lt (tgt := 27) hx hb d_Ker_takeBytes_4 (by decide) (fun c_1 => absurd c_1 (by decide)) (fun c_1 => ?_)
  refine lv_aload_n hx hb d_Ker_takeBytes_7 rfl (lv_at hl 1 rfl) ?_
  refine va_get (D := (dC, dI)) (ci := 11) (v := .ref tp) (C := R_Ker) (T := T_Ker) (N := 14) hx hb hT in_Ker hown hK hP 0 rfl rfl 0 (by decide) (hT _ vt_97) (fun _ h9 => h9) rfl d_Ker_takeBytes_8 ?_
  refine lv_iload_n hx hb d_Ker_takeBytes_11 rfl (lv_at hl 2 rfl) ?_
  refine lv_iload_n hx hb d_Ker_takeBytes_12 rfl (lv_at hl 0 rfl) ?_
  refine lv_iushr hx hb d_Ker_takeBytes_13 rfl ?_
  refine lv_topi (fun x_2 ex_2 => ?_)
  refine lv_sipush (v := 255) hx hb d_Ker_takeBytes_14 (by decide) ?_
  refine lv_iand hx hb d_Ker_takeBytes_17 ?_
  refine lv_topi (fun x_3 ex_3 => ?_)
  have hPc := hP.sub (ws' := [(tp, .inr (0, [.int 65536, .ref ta, .int (nI k)])), (ta, .inl (cT, 256, .inl f))]) [1, 2] rfl
  have hDc := hD.sub (ws' := [(tp, .inr (0, [.int 65536, .ref ta, .int (nI k)])), (ta, .inl (cT, 256, .inl f))]) [1, 2] (by decide) rfl
  have hKc := hK.sub (tys' := [(cT, .int)]) [0] rfl
  have hFc := va_free (wc := [(tp, .inr (0, [.int 65536, .ref ta, .int (nI k)])), (ta, .inl (cT, 256, .inl f))]) hD hS hA [1, 2] rfl
  refine va_callv (va_runV (As := [.int x_3]) (rest := []) ⟨hx, hb, hml, hown, hT⟩ (c_Row_push l dC dI s.heap.size tp ta 256 k cT f 65536 x_3 (by omega) (by decide) (nI_b16 (by omega))) (cwV 1 hT (gV vt_313 vt_293 vt_294 vt_11 vt_295) rfl rfl rfl (by decide +kernel) ⟨Nat.le_of_ble_eq_true rfl, Nat.le_of_ble_eq_true rfl⟩) ⟨Pw_blind, va_recv hK hP (ci := 0) (q0 := 1) rfl rfl, Pw_of hPc hKc hDc⟩ rfl rfl hl.1 rfl (lv_room (Nat.le_of_ble_eq_true rfl)) d_Ker_takeBytes_18 ⟨Nat.le_of_ble_eq_true rfl, Nat.le_of_ble_eq_true rfl⟩) hS (fun q _ h => hFc q h) hFc (fun u t H1 locs ht hvm hw hB hz1 hk1 hS => ?_)
  obtain ⟨hP1, hK1, hD1⟩ := hB
  rw [ht] at hP1
  have hK1 := va_K.moved hvm.symm hK1
  obtain ⟨hP, hD⟩ := va_join (wr := [(h0, .inr (11, [.ref tp, .ref sh, .ref me, .ref te, .ref en, .ref lx, .ref pa, .ref fr, .ref re, .ref ty, .ref fm, .ref pr, .int 0, .int 0]))]) (w1 := [(tp, .inr (0, [.int 65536, .ref ta, .int (nI (k + 1))])), (ta, .inl (cT, 256, .inl (upd f k x_3)))]) hP hD [1, 2] [0] rfl rfl (by decide) (by decide) hk1 hFc hP1 hD1
  generalize H1 = H at hP hS ⊢
  have hP : va_P (dC, dI) classes [(h0, .inr (11, [.ref tp, .ref sh, .ref me, .ref te, .ref en, .ref lx, .ref pa, .ref fr, .ref re, .ref ty, .ref fm, .ref pr, .int 0, .int 0])), (tp, .inr (0, [.int 65536, .ref ta, .int (nI (k + 1))])), (ta, .inl (cT, 256, .inl (upd f k x_3)))] H := hP
  have hD : va_D A [(h0, .inr (11, [.ref tp, .ref sh, .ref me, .ref te, .ref en, .ref lx, .ref pa, .ref fr, .ref re, .ref ty, .ref fm, .ref pr, .int 0, .int 0])), (tp, .inr (0, [.int 65536, .ref ta, .int (nI (k + 1))])), (ta, .inl (cT, 256, .inl (upd f k x_3)))] := hD
  refine W.widen (k := 0) (n := 0) (Nat.le_of_ble_eq_true rfl) (Nat.le_of_ble_eq_true rfl) ?_
  generalize upd f k x_3 = f_5 at hP hD
  have hP : va_P (dC, dI) classes [(h0, .inr (11, [.ref tp, .ref sh, .ref me, .ref te, .ref en, .ref lx, .ref pa, .ref fr, .ref re, .ref ty, .ref fm, .ref pr, .int 0, .int 0])), (tp, .inr (0, [.int 65536, .ref ta, .int (nI (k + 1))])), (ta, .inl (cT, 256, .inl f_5))] H := hP
  have hD : va_D A [(h0, .inr (11, [.ref tp, .ref sh, .ref me, .ref te, .ref en, .ref lx, .ref pa, .ref fr, .ref re, .ref ty, .ref fm, .ref pr, .int 0, .int 0])), (tp, .inr (0, [.int 65536, .ref ta, .int (nI (k + 1))])), (ta, .inl (cT, 256, .inl f_5))] := hD
  refine lv_iinc (v := 16) (lv' := [(2, .int 16), (0, .ref h0), (1, .int v)]) hx hb d_Ker_takeBytes_21 hl (k := 0) rfl (by decide) (by decide) rfl (fun ls hl => ?_)
  refine lv_goto (tgt := 3) hx hb d_Ker_takeBytes_24 (by decide) ?_
  refine lv_iload_n hx hb d_Ker_takeBytes_3 rfl (lv_at hl 0 rfl) ?_
  refine lv_if_lt (tgt := 27) hx hb d_Ker_takeBytes_4 (by decide) (fun c_6 => absurd c_6 (by decide)) (fun c_6 => ?_)
  refine lv_aload_n hx hb d_Ker_takeBytes_7 rfl (lv_at hl 1 rfl) ?_
  refine va_get (D := (dC, dI)) (ci := 11) (v := .ref tp) (C := R_Ker) (T := T_Ker) (N := 14) hx hb hT in_Ker hown hK hP 0 rfl rfl 0 (by decide) (hT _ vt_97) (fun _ h9 => h9) rfl d_Ker_takeBytes_8 ?_
  refine lv_iload_n hx hb d_Ker_takeBytes_11 rfl (lv_at hl 2 rfl) ?_
  refine lv_iload_n hx hb d_Ker_takeBytes_12 rfl (lv_at hl 0 rfl) ?_
  refine lv_iushr hx hb d_Ker_takeBytes_13 rfl ?_
  refine lv_topi (fun x_7 ex_7 => ?_)
  refine lv_sipush (v := 255) hx hb d_Ker_takeBytes_14 (by decide) ?_
  refine lv_iand hx hb d_Ker_takeBytes_17 ?_
  refine lv_topi (fun x_8 ex_8 => ?_)
  have hPc := hP.sub (ws' := [(tp, .inr (0, [.int 65536, .ref ta, .int (nI (k + 1))])), (ta, .inl (cT, 256, .inl f_5))]) [1, 2] rfl
  have hDc := hD.sub (ws' := [(tp, .inr (0, [.int 65536, .ref ta, .int (nI (k + 1))])), (ta, .inl (cT, 256, .inl f_5))]) [1, 2] (by decide) rfl
  have hKc := hK.sub (tys' := [(cT, .int)]) [0] rfl
  have hFc := va_free (wc := [(tp, .inr (0, [.int 65536, .ref ta, .int (nI (k + 1))])), (ta, .inl (cT, 256, .inl f_5))]) hD hS hA [1, 2] rfl
  refine va_callv (va_runV (As := [.int x_8]) (rest := []) ⟨hx, hb, hml, hown, hT⟩ (c_Row_push l dC dI H.size tp ta 256 (k + 1) cT f_5 65536 x_8 (by omega) (by decide) (nI_b16 (by omega))) (cwV 1 hT (gV vt_313 vt_293 vt_294 vt_11 vt_295) rfl rfl rfl (by decide +kernel) ⟨Nat.le_of_ble_eq_true rfl, Nat.le_of_ble_eq_true rfl⟩) ⟨Pw_blind, va_recv hK hP (ci := 0) (q0 := 1) rfl rfl, Pw_of hPc hKc hDc⟩ rfl rfl hl.1 rfl (lv_room (Nat.le_of_ble_eq_true rfl)) d_Ker_takeBytes_18 ⟨Nat.le_of_ble_eq_true rfl, Nat.le_of_ble_eq_true rfl⟩) hS (fun q _ h => hFc q h) hFc (fun u t H1 locs ht hvm hw hB hz1 hk1 hS => ?_)
  obtain ⟨hP1, hK1, hD1⟩ := hB
  rw [ht] at hP1
  have hK1 := va_K.moved hvm.symm hK1
  obtain ⟨hP, hD⟩ := va_join (wr := [(h0, .inr (11, [.ref tp, .ref sh, .ref me, .ref te, .ref en, .ref lx, .ref pa, .ref fr, .ref re, .ref ty, .ref fm, .ref pr, .int 0, .int 0]))]) (w1 := [(tp, .inr (0, [.int 65536, .ref ta, .int (nI ((k + 1) + 1))])), (ta, .inl (cT, 256, .inl (upd f_5 (k + 1) x_8)))]) hP hD [1, 2] [0] rfl rfl (by decide) (by decide) hk1 hFc hP1 hD1
  generalize H1 = H at hP hS ⊢
  have hP : va_P (dC, dI) classes [(h0, .inr (11, [.ref tp, .ref sh, .ref me, .ref te, .ref en, .ref lx, .ref pa, .ref fr, .ref re, .ref ty, .ref fm, .ref pr, .int 0, .int 0])), (tp, .inr (0, [.int 65536, .ref ta, .int (nI ((k + 1) + 1))])), (ta, .inl (cT, 256, .inl (upd f_5 (k + 1) x_8)))] H := hP
  have hD : va_D A [(h0, .inr (11, [.ref tp, .ref sh, .ref me, .ref te, .ref en, .ref lx, .ref pa, .ref fr, .ref re, .ref ty, .ref fm, .ref pr, .int 0, .int 0])), (tp, .inr (0, [.int 65536, .ref ta, .int (nI ((k + 1) + 1))])), (ta, .inl (cT, 256, .inl (upd f_5 (k + 1) x_8)))] := hD
  refine W.widen (k := 0) (n := 0) (Nat.le_of_ble_eq_true rfl) (Nat.le_of_ble_eq_true rfl) ?_
  generalize upd f_5 (k + 1) x_8 = f_10 at hP hD
  have hP : va_P (dC, dI) classes [(h0, .inr (11, [.ref tp, .ref sh, .ref me, .ref te, .ref en, .ref lx, .ref pa, .ref fr, .ref re, .ref ty, .ref fm, .ref pr, .int 0, .int 0])), (tp, .inr (0, [.int 65536, .ref ta, .int (nI (k + 2))])), (ta, .inl (cT, 256, .inl f_10))] H := hP
  have hD : va_D A [(h0, .inr (11, [.ref tp, .ref sh, .ref me, .ref te, .ref en, .ref lx, .ref pa, .ref fr, .ref re, .ref ty, .ref fm, .ref pr, .int 0, .int 0])), (tp, .inr (0, [.int 65536, .ref ta, .int (nI (k + 2))])), (ta, .inl (cT, 256, .inl f_10))] := hD
  refine lv_iinc (v := 8) (lv' := [(2, .int 8), (0, .ref h0), (1, .int v)]) hx hb d_Ker_takeBytes_21 hl (k := 0) rfl (by decide) (by decide) rfl (fun ls hl => ?_)
  refine lv_goto (tgt := 3) hx hb d_Ker_takeBytes_24 (by decide) ?_
  refine lv_iload_n hx hb d_Ker_takeBytes_3 rfl (lv_at hl 0 rfl) ?_
  refine lv_if_lt (tgt := 27) hx hb d_Ker_takeBytes_4 (by decide) (fun c_11 => absurd c_11 (by decide)) (fun c_11 => ?_)
  refine lv_aload_n hx hb d_Ker_takeBytes_7 rfl (lv_at hl 1 rfl) ?_
  refine va_get (D := (dC, dI)) (ci := 11) (v := .ref tp) (C := R_Ker) (T := T_Ker) (N := 14) hx hb hT in_Ker hown hK hP 0 rfl rfl 0 (by decide) (hT _ vt_97) (fun _ h9 => h9) rfl d_Ker_takeBytes_8 ?_
  refine lv_iload_n hx hb d_Ker_takeBytes_11 rfl (lv_at hl 2 rfl) ?_
  refine lv_iload_n hx hb d_Ker_takeBytes_12 rfl (lv_at hl 0 rfl) ?_
  refine lv_iushr hx hb d_Ker_takeBytes_13 rfl ?_
  refine lv_topi (fun x_12 ex_12 => ?_)
  refine lv_sipush (v := 255) hx hb d_Ker_takeBytes_14 (by decide) ?_
  refine lv_iand hx hb d_Ker_takeBytes_17 ?_
  refine lv_topi (fun x_13 ex_13 => ?_)
  have hPc := hP.sub (ws' := [(tp, .inr (0, [.int 65536, .ref ta, .int (nI (k + 2))])), (ta, .inl (cT, 256, .inl f_10))]) [1, 2] rfl
  have hDc := hD.sub (ws' := [(tp, .inr (0, [.int 65536, .ref ta, .int (nI (k + 2))])), (ta, .inl (cT, 256, .inl f_10))]) [1, 2] (by decide) rfl
  have hKc := hK.sub (tys' := [(cT, .int)]) [0] rfl
  have hFc := va_free (wc := [(tp, .inr (0, [.int 65536, .ref ta, .int (nI (k + 2))])), (ta, .inl (cT, 256, .inl f_10))]) hD hS hA [1, 2] rfl
  refine va_callv (va_runV (As := [.int x_13]) (rest := []) ⟨hx, hb, hml, hown, hT⟩ (c_Row_push l dC dI H.size tp ta 256 (k + 2) cT f_10 65536 x_13 (by omega) (by decide) (nI_b16 (by omega))) (cwV 1 hT (gV vt_313 vt_293 vt_294 vt_11 vt_295) rfl rfl rfl (by decide +kernel) ⟨Nat.le_of_ble_eq_true rfl, Nat.le_of_ble_eq_true rfl⟩) ⟨Pw_blind, va_recv hK hP (ci := 0) (q0 := 1) rfl rfl, Pw_of hPc hKc hDc⟩ rfl rfl hl.1 rfl (lv_room (Nat.le_of_ble_eq_true rfl)) d_Ker_takeBytes_18 ⟨Nat.le_of_ble_eq_true rfl, Nat.le_of_ble_eq_true rfl⟩) hS (fun q _ h => hFc q h) hFc (fun u t H1 locs ht hvm hw hB hz1 hk1 hS => ?_)
  obtain ⟨hP1, hK1, hD1⟩ := hB
  rw [ht] at hP1
  have hK1 := va_K.moved hvm.symm hK1
  obtain ⟨hP, hD⟩ := va_join (wr := [(h0, .inr (11, [.ref tp, .ref sh, .ref me, .ref te, .ref en, .ref lx, .ref pa, .ref fr, .ref re, .ref ty, .ref fm, .ref pr, .int 0, .int 0]))]) (w1 := [(tp, .inr (0, [.int 65536, .ref ta, .int (nI ((k + 2) + 1))])), (ta, .inl (cT, 256, .inl (upd f_10 (k + 2) x_13)))]) hP hD [1, 2] [0] rfl rfl (by decide) (by decide) hk1 hFc hP1 hD1
  generalize H1 = H at hP hS ⊢
  have hP : va_P (dC, dI) classes [(h0, .inr (11, [.ref tp, .ref sh, .ref me, .ref te, .ref en, .ref lx, .ref pa, .ref fr, .ref re, .ref ty, .ref fm, .ref pr, .int 0, .int 0])), (tp, .inr (0, [.int 65536, .ref ta, .int (nI ((k + 2) + 1))])), (ta, .inl (cT, 256, .inl (upd f_10 (k + 2) x_13)))] H := hP
  have hD : va_D A [(h0, .inr (11, [.ref tp, .ref sh, .ref me, .ref te, .ref en, .ref lx, .ref pa, .ref fr, .ref re, .ref ty, .ref fm, .ref pr, .int 0, .int 0])), (tp, .inr (0, [.int 65536, .ref ta, .int (nI ((k + 2) + 1))])), (ta, .inl (cT, 256, .inl (upd f_10 (k + 2) x_13)))] := hD
  refine W.widen (k := 0) (n := 0) (Nat.le_of_ble_eq_true rfl) (Nat.le_of_ble_eq_true rfl) ?_
  generalize upd f_10 (k + 2) x_13 = f_15 at hP hD
  have hP : va_P (dC, dI) classes [(h0, .inr (11, [.ref tp, .ref sh, .ref me, .ref te, .ref en, .ref lx, .ref pa, .ref fr, .ref re, .ref ty, .ref fm, .ref pr, .int 0, .int 0])), (tp, .inr (0, [.int 65536, .ref ta, .int (nI (k + 3))])), (ta, .inl (cT, 256, .inl f_15))] H := hP
  have hD : va_D A [(h0, .inr (11, [.ref tp, .ref sh, .ref me, .ref te, .ref en, .ref lx, .ref pa, .ref fr, .ref re, .ref ty, .ref fm, .ref pr, .int 0, .int 0])), (tp, .inr (0, [.int 65536, .ref ta, .int (nI (k + 3))])), (ta, .inl (cT, 256, .inl f_15))] := hD
  refine lv_iinc (v := 0) (lv' := [(2, .int 0), (0, .ref h0), (1, .int v)]) hx hb d_Ker_takeBytes_21 hl (k := 0) rfl (by decide) (by decide) rfl (fun ls hl => ?_)
  refine lv_goto (tgt := 3) hx hb d_Ker_takeBytes_24 (by decide) ?_
  refine lv_iload_n hx hb d_Ker_takeBytes_3 rfl (lv_at hl 0 rfl) ?_
  refine lv_if_lt (tgt := 27) hx hb d_Ker_takeBytes_4 (by decide) (fun c_16 => absurd c_16 (by decide)) (fun c_16 => ?_)
  refine lv_aload_n hx hb d_Ker_takeBytes_7 rfl (lv_at hl 1 rfl) ?_
  refine va_get (D := (dC, dI)) (ci := 11) (v := .ref tp) (C := R_Ker) (T := T_Ker) (N := 14) hx hb hT in_Ker hown hK hP 0 rfl rfl 0 (by decide) (hT _ vt_97) (fun _ h9 => h9) rfl d_Ker_takeBytes_8 ?_
  refine lv_iload_n hx hb d_Ker_takeBytes_11 rfl (lv_at hl 2 rfl) ?_
  refine lv_iload_n hx hb d_Ker_takeBytes_12 rfl (lv_at hl 0 rfl) ?_
  refine lv_iushr hx hb d_Ker_takeBytes_13 rfl ?_
  refine lv_topi (fun x_17 ex_17 => ?_)
  refine lv_sipush (v := 255) hx hb d_Ker_takeBytes_14 (by decide) ?_
  refine lv_iand hx hb d_Ker_takeBytes_17 ?_
  refine lv_topi (fun x_18 ex_18 => ?_)
  have hPc := hP.sub (ws' := [(tp, .inr (0, [.int 65536, .ref ta, .int (nI (k + 3))])), (ta, .inl (cT, 256, .inl f_15))]) [1, 2] rfl
  have hDc := hD.sub (ws' := [(tp, .inr (0, [.int 65536, .ref ta, .int (nI (k + 3))])), (ta, .inl (cT, 256, .inl f_15))]) [1, 2] (by decide) rfl
  have hKc := hK.sub (tys' := [(cT, .int)]) [0] rfl
  have hFc := va_free (wc := [(tp, .inr (0, [.int 65536, .ref ta, .int (nI (k + 3))])), (ta, .inl (cT, 256, .inl f_15))]) hD hS hA [1, 2] rfl
  refine va_callv (va_runV (As := [.int x_18]) (rest := []) ⟨hx, hb, hml, hown, hT⟩ (c_Row_push l dC dI H.size tp ta 256 (k + 3) cT f_15 65536 x_18 (by omega) (by decide) (nI_b16 (by omega))) (cwV 1 hT (gV vt_313 vt_293 vt_294 vt_11 vt_295) rfl rfl rfl (by decide +kernel) ⟨Nat.le_of_ble_eq_true rfl, Nat.le_of_ble_eq_true rfl⟩) ⟨Pw_blind, va_recv hK hP (ci := 0) (q0 := 1) rfl rfl, Pw_of hPc hKc hDc⟩ rfl rfl hl.1 rfl (lv_room (Nat.le_of_ble_eq_true rfl)) d_Ker_takeBytes_18 ⟨Nat.le_of_ble_eq_true rfl, Nat.le_of_ble_eq_true rfl⟩) hS (fun q _ h => hFc q h) hFc (fun u t H1 locs ht hvm hw hB hz1 hk1 hS => ?_)
  obtain ⟨hP1, hK1, hD1⟩ := hB
  rw [ht] at hP1
  have hK1 := va_K.moved hvm.symm hK1
  obtain ⟨hP, hD⟩ := va_join (wr := [(h0, .inr (11, [.ref tp, .ref sh, .ref me, .ref te, .ref en, .ref lx, .ref pa, .ref fr, .ref re, .ref ty, .ref fm, .ref pr, .int 0, .int 0]))]) (w1 := [(tp, .inr (0, [.int 65536, .ref ta, .int (nI ((k + 3) + 1))])), (ta, .inl (cT, 256, .inl (upd f_15 (k + 3) x_18)))]) hP hD [1, 2] [0] rfl rfl (by decide) (by decide) hk1 hFc hP1 hD1
  generalize H1 = H at hP hS ⊢
  have hP : va_P (dC, dI) classes [(h0, .inr (11, [.ref tp, .ref sh, .ref me, .ref te, .ref en, .ref lx, .ref pa, .ref fr, .ref re, .ref ty, .ref fm, .ref pr, .int 0, .int 0])), (tp, .inr (0, [.int 65536, .ref ta, .int (nI ((k + 3) + 1))])), (ta, .inl (cT, 256, .inl (upd f_15 (k + 3) x_18)))] H := hP
  have hD : va_D A [(h0, .inr (11, [.ref tp, .ref sh, .ref me, .ref te, .ref en, .ref lx, .ref pa, .ref fr, .ref re, .ref ty, .ref fm, .ref pr, .int 0, .int 0])), (tp, .inr (0, [.int 65536, .ref ta, .int (nI ((k + 3) + 1))])), (ta, .inl (cT, 256, .inl (upd f_15 (k + 3) x_18)))] := hD
  refine W.widen (k := 0) (n := 0) (Nat.le_of_ble_eq_true rfl) (Nat.le_of_ble_eq_true rfl) ?_
  generalize upd f_15 (k + 3) x_18 = f_20 at hP hD
  have hP : va_P (dC, dI) classes [(h0, .inr (11, [.ref tp, .ref sh, .ref me, .ref te, .ref en, .ref lx, .ref pa, .ref fr, .ref re, .ref ty, .ref fm, .ref pr, .int 0, .int 0])), (tp, .inr (0, [.int 65536, .ref ta, .int (nI (k + 4))])), (ta, .inl (cT, 256, .inl f_20))] H := hP
  have hD : va_D A [(h0, .inr (11, [.ref tp, .ref sh, .ref me, .ref te, .ref en, .ref lx, .ref pa, .ref fr, .ref re, .ref ty, .ref fm, .ref pr, .int 0, .int 0])), (tp, .inr (0, [.int 65536, .ref ta, .int (nI (k + 4))])), (ta, .inl (cT, 256, .inl f_20))] := hD
  refine lv_iinc (v := (-8)) (lv' := [(2, .int (-8)), (0, .ref h0), (1, .int v)]) hx hb d_Ker_takeBytes_21 hl (k := 0) rfl (by decide) (by decide) rfl (fun ls hl => ?_)
  refine lv_goto (tgt := 3) hx hb d_Ker_takeBytes_24 (by decide) ?_
  refine lv_iload_n hx hb d_Ker_takeBytes_3 rfl (lv_at hl 0 rfl) ?_
  refine lv_if_lt (tgt := 27) hx hb d_Ker_takeBytes_4 (by decide) (fun c_21 => ?_) (fun c_21 => absurd (by decide) c_21)
  refine W.widen (k := 0) (n := 0) (Nat.le_of_ble_eq_true rfl) (Nat.le_of_ble_eq_true rfl) ?_
  have hP9 := hP.sub (ws' := [(h0, .inr (11, [.ref tp, .ref sh, .ref me, .ref te, .ref en, .ref lx, .ref pa, .ref fr, .ref re, .ref ty, .ref fm, .ref pr, .int 0, .int 0])), (tp, .inr (0, [.int 65536, .ref ta, .int (nI (k + 4))])), (ta, .inl (cT, 256, .inl f_20))]) [0, 1, 2] rfl
  have hD9 := hD.sub (ws' := [(h0, .inr (11, [.ref tp, .ref sh, .ref me, .ref te, .ref en, .ref lx, .ref pa, .ref fr, .ref re, .ref ty, .ref fm, .ref pr, .int 0, .int 0])), (tp, .inr (0, [.int 65536, .ref ta, .int (nI (k + 4))])), (ta, .inl (cT, 256, .inl f_20))]) [0, 1, 2] (by decide) rfl
  have hK9 := hK.sub (tys' := [(cT, .int)]) [0] rfl
  exact W.vret hx hb hr (fun t ht hW => ⟨⟨(), rfl, trivial, f_20, by rw [ht]; exact hP9, va_K.moved hW.alike hK9, hD9⟩, hS.F ht⟩) hS.2.2 d_Ker_takeBytes_27
set_option maxHeartbeats 4000000 in
set_option maxRecDepth 100000 in
/-- feed on an empty TAPE -/
theorem c_Ker_feed (l : Launch) (dC : Nat → ClassId) (dI : Nat → Nat → Nat) (sz : Nat) (h0 tp ta sh sa me te t1 t2 t3 t4 t5 t6 t7 t8 en fc fa nn lx tk ka pa fr re ty fm pr : Nat) (cT cK : ClassId) (p1 p2 p3 p4 p5 : Int32) : Met l y_Ker_feed w_Ker_feed ({ frames := 40, cells := 0, slots := 0, locals := 1200 }) (Pw dC dI [.ref h0, .int p1, .int p2, .int p3, .int p4, .int p5] sz [(h0, .inr (11, [.ref tp, .ref sh, .ref me, .ref te, .ref en, .ref lx, .ref pa, .ref fr, .ref re, .ref ty, .ref fm, .ref pr, .int 0, .int 0])), (tp, .inr (0, [.int 65536, .ref ta, .int (nI 0)])), (ta, .inl (cT, 256, .inl (fun _ => 0)))] [(cT, .int)]) (va_Qi (fun (r : Int32) (_ : Unit) => r = 20) (fun _ t => True) (va_A [(h0, .inr (11, [.ref tp, .ref sh, .ref me, .ref te, .ref en, .ref lx, .ref pa, .ref fr, .ref re, .ref ty, .ref fm, .ref pr, .int 0, .int 0])), (tp, .inr (0, [.int 65536, .ref ta, .int (nI 0)])), (ta, .inl (cT, 256, .inl (fun _ => 0)))] sz)) 0 0 (va_A [(h0, .inr (11, [.ref tp, .ref sh, .ref me, .ref te, .ref en, .ref lx, .ref pa, .ref fr, .ref re, .ref ty, .ref fm, .ref pr, .int 0, .int 0])), (tp, .inr (0, [.int 65536, .ref ta, .int (nI 0)])), (ta, .inl (cT, 256, .inl (fun _ => 0)))] sz) := by
  refine Met.ofW (cc := b_Ker_feed) (maxL := 6) (ret := (some .int)) (by decide) rfl ?_
  intro p e s m args below meth c s₁ B hml hv
  obtain ⟨rfl, hsz, hP, hK, hD0⟩ := hv
  have hx := B.exec
  have hb := B.bytes
  have hr := B.returns
  have hT : ∀ w ∈ vT, w.before _ s = true := fun w h => atoms_spec (ws := w_Ker_feed) B.pre w (List.mem_cons_of_mem _ h)
  have hown : s.vm.findClass R_Ker = some m.cls := findClass_of_methodNamed B.named
  have hlocks := B.notSynchronized
  subst hsz
  have hD := hD0.self (sz := s.heap.size)
  generalize hAe : va_A [(h0, .inr (11, [.ref tp, .ref sh, .ref me, .ref te, .ref en, .ref lx, .ref pa, .ref fr, .ref re, .ref ty, .ref fm, .ref pr, .int 0, .int 0])), (tp, .inr (0, [.int 65536, .ref ta, .int (nI 0)])), (ta, .inl (cT, 256, .inl (fun _ => 0)))] s.heap.size = A at hD ⊢
  have hA : ∀ q : Nat, s.heap.size ≤ q → A q := fun q h => by rw [← hAe]; exact Or.inr h
  have hS : va_S A s.heap s.heap [] := va_S.rf
  have hP : va_P (dC, dI) classes [(h0, .inr (11, [.ref tp, .ref sh, .ref me, .ref te, .ref en, .ref lx, .ref pa, .ref fr, .ref re, .ref ty, .ref fm, .ref pr, .int 0, .int 0])), (tp, .inr (0, [.int 65536, .ref ta, .int (nI 0)])), (ta, .inl (cT, 256, .inl (fun _ => 0)))] s.heap := hP
  have hl := lv_entry ([.ref h0, .int p1, .int p2, .int p3, .int p4, .int p5]) (n := 6) (Nat.le_of_ble_eq_true rfl)
  rw [lg_entry_eq]
  generalize (lg_sl ([.ref h0, .int p1, .int p2, .int p3, .int p4, .int p5]) ++ List.replicate (6 - (lg_sl ([.ref h0, .int p1, .int p2, .int p3, .int p4, .int p5])).length) Slot.unset).toArray = ls at hl ⊢
  have hl : lv_has ls 6 [(0, .ref h0), (1, .int p1), (2, .int p2), (3, .int p3), (4, .int p4), (5, .int p5)] := hl
  refine lv_aload_n hx hb d_Ker_feed_0 rfl (lv_at hl 0 rfl) ?_
  refine va_get (D := (dC, dI)) (ci := 11) (v := .ref tp) (C := R_Ker) (T := T_Ker) (N := 14) hx hb hT in_Ker hown hK hP 0 rfl rfl 0 (by decide) (hT _ vt_97) (fun _ h9 => h9) rfl d_Ker_feed_1 ?_
  refine W.callR (W.runV (As := []) (rest := []) ⟨hx, hb, hml, hown, hT⟩ (c_Row_size l dC dI tp ta 65536 (nI 0)) (cwV 0 hT (gV vt_314 vt_253 vt_254 vt_11 vt_255) rfl rfl rfl (by decide +kernel) ⟨Nat.le_of_ble_eq_true rfl, Nat.le_of_ble_eq_true rfl⟩) ⟨Pp_blind, va_recv hK hP (ci := 0) (q0 := 1) rfl rfl, Pp_of (hP.sub (ws' := [(tp, .inr (0, [.int 65536, .ref ta, .int (nI 0)]))]) [1] rfl) (hK.sub (tys' := []) [] rfl)⟩ rfl rfl hl.1 rfl (lv_room (Nat.le_of_ble_eq_true rfl)) d_Ker_feed_4 ⟨Nat.le_of_ble_eq_true rfl, Nat.le_of_ble_eq_true rfl⟩) ?_
  refine W.eq (g2 := F0 m 7 ls [.int (nI 0)]) rfl ?_
  refine lv_bipush (v := 20) hx hb d_Ker_feed_7 (by decide) ?_
  refine lv_iadd hx hb d_Ker_feed_9 ?_
  refine lv_ldc (v := 65536) hx hb hown (hT _ vt_95) d_Ker_feed_10 ?_
  refine lv_icmp_le (tgt := 23) hx hb d_Ker_feed_12 (by decide) (fun c_1 => ?_) (fun c_1 => absurd (by decide) c_1)
  refine lv_aload_n hx hb d_Ker_feed_23 rfl (lv_at hl 0 rfl) ?_
  refine lv_iload_n hx hb d_Ker_feed_24 rfl (lv_at hl 1 rfl) ?_
  have hPc := hP.sub (ws' := [(h0, .inr (11, [.ref tp, .ref sh, .ref me, .ref te, .ref en, .ref lx, .ref pa, .ref fr, .ref re, .ref ty, .ref fm, .ref pr, .int 0, .int 0])), (tp, .inr (0, [.int 65536, .ref ta, .int (nI 0)])), (ta, .inl (cT, 256, .inl (fun _ => 0)))]) [0, 1, 2] rfl
  have hDc := hD.sub (ws' := [(h0, .inr (11, [.ref tp, .ref sh, .ref me, .ref te, .ref en, .ref lx, .ref pa, .ref fr, .ref re, .ref ty, .ref fm, .ref pr, .int 0, .int 0])), (tp, .inr (0, [.int 65536, .ref ta, .int (nI 0)])), (ta, .inl (cT, 256, .inl (fun _ => 0)))]) [0, 1, 2] (by decide) rfl
  have hKc := hK.sub (tys' := [(cT, .int)]) [0] rfl
  have hFc := va_free (wc := [(h0, .inr (11, [.ref tp, .ref sh, .ref me, .ref te, .ref en, .ref lx, .ref pa, .ref fr, .ref re, .ref ty, .ref fm, .ref pr, .int 0, .int 0])), (tp, .inr (0, [.int 65536, .ref ta, .int (nI 0)])), (ta, .inl (cT, 256, .inl (fun _ => 0)))]) hD hS hA [0, 1, 2] rfl
  refine va_callv (va_runV (As := [.int p1]) (rest := []) ⟨hx, hb, hml, hown, hT⟩ (c_Ker_takeBytes l dC dI s.heap.size h0 tp ta sh sa me te t1 t2 t3 t4 t5 t6 t7 t8 en fc fa nn lx tk ka pa fr re ty fm pr cT cK 0 (fun _ => 0) p1 (by decide)) (cwV 1 hT (gV vt_315 vt_316 vt_317 vt_318 vt_319) rfl rfl rfl (by decide +kernel) ⟨Nat.le_of_ble_eq_true rfl, Nat.le_of_ble_eq_true rfl⟩) ⟨Pw_blind, va_recv hK hP (ci := 11) (q0 := 0) rfl rfl, Pw_of hPc hKc hDc⟩ rfl rfl hl.1 rfl (lv_room (Nat.le_of_ble_eq_true rfl)) d_Ker_feed_25 ⟨Nat.le_of_ble_eq_true rfl, Nat.le_of_ble_eq_true rfl⟩) hS (fun q _ h => hFc q h) hFc (fun u t H1 locs ht hvm hw hB hz1 hk1 hS => ?_)
  obtain ⟨f_2, hP1, hK1, hD1⟩ := hB
  rw [ht] at hP1
  have hK1 := va_K.moved hvm.symm hK1
  obtain ⟨hP, hD⟩ := va_join (wr := []) (w1 := [(h0, .inr (11, [.ref tp, .ref sh, .ref me, .ref te, .ref en, .ref lx, .ref pa, .ref fr, .ref re, .ref ty, .ref fm, .ref pr, .int 0, .int 0])), (tp, .inr (0, [.int 65536, .ref ta, .int (nI (0 + 4))])), (ta, .inl (cT, 256, .inl f_2))]) hP hD [0, 1, 2] [] rfl rfl (by decide) (by decide) hk1 hFc hP1 hD1
  generalize H1 = H at hP hS ⊢
  have hP : va_P (dC, dI) classes [(h0, .inr (11, [.ref tp, .ref sh, .ref me, .ref te, .ref en, .ref lx, .ref pa, .ref fr, .ref re, .ref ty, .ref fm, .ref pr, .int 0, .int 0])), (tp, .inr (0, [.int 65536, .ref ta, .int (nI (0 + 4))])), (ta, .inl (cT, 256, .inl f_2))] H := hP
  have hD : va_D A [(h0, .inr (11, [.ref tp, .ref sh, .ref me, .ref te, .ref en, .ref lx, .ref pa, .ref fr, .ref re, .ref ty, .ref fm, .ref pr, .int 0, .int 0])), (tp, .inr (0, [.int 65536, .ref ta, .int (nI (0 + 4))])), (ta, .inl (cT, 256, .inl f_2))] := hD
  refine W.widen (k := 0) (n := 0) (Nat.le_of_ble_eq_true rfl) (Nat.le_of_ble_eq_true rfl) ?_
  have hP : va_P (dC, dI) classes [(h0, .inr (11, [.ref tp, .ref sh, .ref me, .ref te, .ref en, .ref lx, .ref pa, .ref fr, .ref re, .ref ty, .ref fm, .ref pr, .int 0, .int 0])), (tp, .inr (0, [.int 65536, .ref ta, .int (nI 4)])), (ta, .inl (cT, 256, .inl f_2))] H := hP
  have hD : va_D A [(h0, .inr (11, [.ref tp, .ref sh, .ref me, .ref te, .ref en, .ref lx, .ref pa, .ref fr, .ref re, .ref ty, .ref fm, .ref pr, .int 0, .int 0])), (tp, .inr (0, [.int 65536, .ref ta, .int (nI 4)])), (ta, .inl (cT, 256, .inl f_2))] := hD
  refine lv_aload_n hx hb d_Ker_feed_28 rfl (lv_at hl 0 rfl) ?_
  refine lv_iload_n hx hb d_Ker_feed_29 rfl (lv_at hl 2 rfl) ?_
  have hPc := hP.sub (ws' := [(h0, .inr (11, [.ref tp, .ref sh, .ref me, .ref te, .ref en, .ref lx, .ref pa, .ref fr, .ref re, .ref ty, .ref fm, .ref pr, .int 0, .int 0])), (tp, .inr (0, [.int 65536, .ref ta, .int (nI 4)])), (ta, .inl (cT, 256, .inl f_2))]) [0, 1, 2] rfl
  have hDc := hD.sub (ws' := [(h0, .inr (11, [.ref tp, .ref sh, .ref me, .ref te, .ref en, .ref lx, .ref pa, .ref fr, .ref re, .ref ty, .ref fm, .ref pr, .int 0, .int 0])), (tp, .inr (0, [.int 65536, .ref ta, .int (nI 4)])), (ta, .inl (cT, 256, .inl f_2))]) [0, 1, 2] (by decide) rfl
  have hKc := hK.sub (tys' := [(cT, .int)]) [0] rfl
  have hFc := va_free (wc := [(h0, .inr (11, [.ref tp, .ref sh, .ref me, .ref te, .ref en, .ref lx, .ref pa, .ref fr, .ref re, .ref ty, .ref fm, .ref pr, .int 0, .int 0])), (tp, .inr (0, [.int 65536, .ref ta, .int (nI 4)])), (ta, .inl (cT, 256, .inl f_2))]) hD hS hA [0, 1, 2] rfl
  refine va_callv (va_runV (As := [.int p2]) (rest := []) ⟨hx, hb, hml, hown, hT⟩ (c_Ker_takeBytes l dC dI H.size h0 tp ta sh sa me te t1 t2 t3 t4 t5 t6 t7 t8 en fc fa nn lx tk ka pa fr re ty fm pr cT cK 4 f_2 p2 (by decide)) (cwV 1 hT (gV vt_315 vt_316 vt_317 vt_318 vt_319) rfl rfl rfl (by decide +kernel) ⟨Nat.le_of_ble_eq_true rfl, Nat.le_of_ble_eq_true rfl⟩) ⟨Pw_blind, va_recv hK hP (ci := 11) (q0 := 0) rfl rfl, Pw_of hPc hKc hDc⟩ rfl rfl hl.1 rfl (lv_room (Nat.le_of_ble_eq_true rfl)) d_Ker_feed_30 ⟨Nat.le_of_ble_eq_true rfl, Nat.le_of_ble_eq_true rfl⟩) hS (fun q _ h => hFc q h) hFc (fun u t H1 locs ht hvm hw hB hz1 hk1 hS => ?_)
  obtain ⟨f_4, hP1, hK1, hD1⟩ := hB
  rw [ht] at hP1
  have hK1 := va_K.moved hvm.symm hK1
  obtain ⟨hP, hD⟩ := va_join (wr := []) (w1 := [(h0, .inr (11, [.ref tp, .ref sh, .ref me, .ref te, .ref en, .ref lx, .ref pa, .ref fr, .ref re, .ref ty, .ref fm, .ref pr, .int 0, .int 0])), (tp, .inr (0, [.int 65536, .ref ta, .int (nI (4 + 4))])), (ta, .inl (cT, 256, .inl f_4))]) hP hD [0, 1, 2] [] rfl rfl (by decide) (by decide) hk1 hFc hP1 hD1
  generalize H1 = H at hP hS ⊢
  have hP : va_P (dC, dI) classes [(h0, .inr (11, [.ref tp, .ref sh, .ref me, .ref te, .ref en, .ref lx, .ref pa, .ref fr, .ref re, .ref ty, .ref fm, .ref pr, .int 0, .int 0])), (tp, .inr (0, [.int 65536, .ref ta, .int (nI (4 + 4))])), (ta, .inl (cT, 256, .inl f_4))] H := hP
  have hD : va_D A [(h0, .inr (11, [.ref tp, .ref sh, .ref me, .ref te, .ref en, .ref lx, .ref pa, .ref fr, .ref re, .ref ty, .ref fm, .ref pr, .int 0, .int 0])), (tp, .inr (0, [.int 65536, .ref ta, .int (nI (4 + 4))])), (ta, .inl (cT, 256, .inl f_4))] := hD
  refine W.widen (k := 0) (n := 0) (Nat.le_of_ble_eq_true rfl) (Nat.le_of_ble_eq_true rfl) ?_
  have hP : va_P (dC, dI) classes [(h0, .inr (11, [.ref tp, .ref sh, .ref me, .ref te, .ref en, .ref lx, .ref pa, .ref fr, .ref re, .ref ty, .ref fm, .ref pr, .int 0, .int 0])), (tp, .inr (0, [.int 65536, .ref ta, .int (nI 8)])), (ta, .inl (cT, 256, .inl f_4))] H := hP
  have hD : va_D A [(h0, .inr (11, [.ref tp, .ref sh, .ref me, .ref te, .ref en, .ref lx, .ref pa, .ref fr, .ref re, .ref ty, .ref fm, .ref pr, .int 0, .int 0])), (tp, .inr (0, [.int 65536, .ref ta, .int (nI 8)])), (ta, .inl (cT, 256, .inl f_4))] := hD
  refine lv_aload_n hx hb d_Ker_feed_33 rfl (lv_at hl 0 rfl) ?_
  refine lv_iload_n hx hb d_Ker_feed_34 rfl (lv_at hl 3 rfl) ?_
  have hPc := hP.sub (ws' := [(h0, .inr (11, [.ref tp, .ref sh, .ref me, .ref te, .ref en, .ref lx, .ref pa, .ref fr, .ref re, .ref ty, .ref fm, .ref pr, .int 0, .int 0])), (tp, .inr (0, [.int 65536, .ref ta, .int (nI 8)])), (ta, .inl (cT, 256, .inl f_4))]) [0, 1, 2] rfl
  have hDc := hD.sub (ws' := [(h0, .inr (11, [.ref tp, .ref sh, .ref me, .ref te, .ref en, .ref lx, .ref pa, .ref fr, .ref re, .ref ty, .ref fm, .ref pr, .int 0, .int 0])), (tp, .inr (0, [.int 65536, .ref ta, .int (nI 8)])), (ta, .inl (cT, 256, .inl f_4))]) [0, 1, 2] (by decide) rfl
  have hKc := hK.sub (tys' := [(cT, .int)]) [0] rfl
  have hFc := va_free (wc := [(h0, .inr (11, [.ref tp, .ref sh, .ref me, .ref te, .ref en, .ref lx, .ref pa, .ref fr, .ref re, .ref ty, .ref fm, .ref pr, .int 0, .int 0])), (tp, .inr (0, [.int 65536, .ref ta, .int (nI 8)])), (ta, .inl (cT, 256, .inl f_4))]) hD hS hA [0, 1, 2] rfl
  refine va_callv (va_runV (As := [.int p3]) (rest := []) ⟨hx, hb, hml, hown, hT⟩ (c_Ker_takeBytes l dC dI H.size h0 tp ta sh sa me te t1 t2 t3 t4 t5 t6 t7 t8 en fc fa nn lx tk ka pa fr re ty fm pr cT cK 8 f_4 p3 (by decide)) (cwV 1 hT (gV vt_315 vt_316 vt_317 vt_318 vt_319) rfl rfl rfl (by decide +kernel) ⟨Nat.le_of_ble_eq_true rfl, Nat.le_of_ble_eq_true rfl⟩) ⟨Pw_blind, va_recv hK hP (ci := 11) (q0 := 0) rfl rfl, Pw_of hPc hKc hDc⟩ rfl rfl hl.1 rfl (lv_room (Nat.le_of_ble_eq_true rfl)) d_Ker_feed_35 ⟨Nat.le_of_ble_eq_true rfl, Nat.le_of_ble_eq_true rfl⟩) hS (fun q _ h => hFc q h) hFc (fun u t H1 locs ht hvm hw hB hz1 hk1 hS => ?_)
  obtain ⟨f_6, hP1, hK1, hD1⟩ := hB
  rw [ht] at hP1
  have hK1 := va_K.moved hvm.symm hK1
  obtain ⟨hP, hD⟩ := va_join (wr := []) (w1 := [(h0, .inr (11, [.ref tp, .ref sh, .ref me, .ref te, .ref en, .ref lx, .ref pa, .ref fr, .ref re, .ref ty, .ref fm, .ref pr, .int 0, .int 0])), (tp, .inr (0, [.int 65536, .ref ta, .int (nI (8 + 4))])), (ta, .inl (cT, 256, .inl f_6))]) hP hD [0, 1, 2] [] rfl rfl (by decide) (by decide) hk1 hFc hP1 hD1
  generalize H1 = H at hP hS ⊢
  have hP : va_P (dC, dI) classes [(h0, .inr (11, [.ref tp, .ref sh, .ref me, .ref te, .ref en, .ref lx, .ref pa, .ref fr, .ref re, .ref ty, .ref fm, .ref pr, .int 0, .int 0])), (tp, .inr (0, [.int 65536, .ref ta, .int (nI (8 + 4))])), (ta, .inl (cT, 256, .inl f_6))] H := hP
  have hD : va_D A [(h0, .inr (11, [.ref tp, .ref sh, .ref me, .ref te, .ref en, .ref lx, .ref pa, .ref fr, .ref re, .ref ty, .ref fm, .ref pr, .int 0, .int 0])), (tp, .inr (0, [.int 65536, .ref ta, .int (nI (8 + 4))])), (ta, .inl (cT, 256, .inl f_6))] := hD
  refine W.widen (k := 0) (n := 0) (Nat.le_of_ble_eq_true rfl) (Nat.le_of_ble_eq_true rfl) ?_
  have hP : va_P (dC, dI) classes [(h0, .inr (11, [.ref tp, .ref sh, .ref me, .ref te, .ref en, .ref lx, .ref pa, .ref fr, .ref re, .ref ty, .ref fm, .ref pr, .int 0, .int 0])), (tp, .inr (0, [.int 65536, .ref ta, .int (nI 12)])), (ta, .inl (cT, 256, .inl f_6))] H := hP
  have hD : va_D A [(h0, .inr (11, [.ref tp, .ref sh, .ref me, .ref te, .ref en, .ref lx, .ref pa, .ref fr, .ref re, .ref ty, .ref fm, .ref pr, .int 0, .int 0])), (tp, .inr (0, [.int 65536, .ref ta, .int (nI 12)])), (ta, .inl (cT, 256, .inl f_6))] := hD
  refine lv_aload_n hx hb d_Ker_feed_38 rfl (lv_at hl 0 rfl) ?_
  refine lv_iload hx hb d_Ker_feed_39 (lv_at hl 4 rfl) ?_
  have hPc := hP.sub (ws' := [(h0, .inr (11, [.ref tp, .ref sh, .ref me, .ref te, .ref en, .ref lx, .ref pa, .ref fr, .ref re, .ref ty, .ref fm, .ref pr, .int 0, .int 0])), (tp, .inr (0, [.int 65536, .ref ta, .int (nI 12)])), (ta, .inl (cT, 256, .inl f_6))]) [0, 1, 2] rfl
  have hDc := hD.sub (ws' := [(h0, .inr (11, [.ref tp, .ref sh, .ref me, .ref te, .ref en, .ref lx, .ref pa, .ref fr, .ref re, .ref ty, .ref fm, .ref pr, .int 0, .int 0])), (tp, .inr (0, [.int 65536, .ref ta, .int (nI 12)])), (ta, .inl (cT, 256, .inl f_6))]) [0, 1, 2] (by decide) rfl
  have hKc := hK.sub (tys' := [(cT, .int)]) [0] rfl
  have hFc := va_free (wc := [(h0, .inr (11, [.ref tp, .ref sh, .ref me, .ref te, .ref en, .ref lx, .ref pa, .ref fr, .ref re, .ref ty, .ref fm, .ref pr, .int 0, .int 0])), (tp, .inr (0, [.int 65536, .ref ta, .int (nI 12)])), (ta, .inl (cT, 256, .inl f_6))]) hD hS hA [0, 1, 2] rfl
  refine va_callv (va_runV (As := [.int p4]) (rest := []) ⟨hx, hb, hml, hown, hT⟩ (c_Ker_takeBytes l dC dI H.size h0 tp ta sh sa me te t1 t2 t3 t4 t5 t6 t7 t8 en fc fa nn lx tk ka pa fr re ty fm pr cT cK 12 f_6 p4 (by decide)) (cwV 1 hT (gV vt_315 vt_316 vt_317 vt_318 vt_319) rfl rfl rfl (by decide +kernel) ⟨Nat.le_of_ble_eq_true rfl, Nat.le_of_ble_eq_true rfl⟩) ⟨Pw_blind, va_recv hK hP (ci := 11) (q0 := 0) rfl rfl, Pw_of hPc hKc hDc⟩ rfl rfl hl.1 rfl (lv_room (Nat.le_of_ble_eq_true rfl)) d_Ker_feed_41 ⟨Nat.le_of_ble_eq_true rfl, Nat.le_of_ble_eq_true rfl⟩) hS (fun q _ h => hFc q h) hFc (fun u t H1 locs ht hvm hw hB hz1 hk1 hS => ?_)
  obtain ⟨f_8, hP1, hK1, hD1⟩ := hB
  rw [ht] at hP1
  have hK1 := va_K.moved hvm.symm hK1
  obtain ⟨hP, hD⟩ := va_join (wr := []) (w1 := [(h0, .inr (11, [.ref tp, .ref sh, .ref me, .ref te, .ref en, .ref lx, .ref pa, .ref fr, .ref re, .ref ty, .ref fm, .ref pr, .int 0, .int 0])), (tp, .inr (0, [.int 65536, .ref ta, .int (nI (12 + 4))])), (ta, .inl (cT, 256, .inl f_8))]) hP hD [0, 1, 2] [] rfl rfl (by decide) (by decide) hk1 hFc hP1 hD1
  generalize H1 = H at hP hS ⊢
  have hP : va_P (dC, dI) classes [(h0, .inr (11, [.ref tp, .ref sh, .ref me, .ref te, .ref en, .ref lx, .ref pa, .ref fr, .ref re, .ref ty, .ref fm, .ref pr, .int 0, .int 0])), (tp, .inr (0, [.int 65536, .ref ta, .int (nI (12 + 4))])), (ta, .inl (cT, 256, .inl f_8))] H := hP
  have hD : va_D A [(h0, .inr (11, [.ref tp, .ref sh, .ref me, .ref te, .ref en, .ref lx, .ref pa, .ref fr, .ref re, .ref ty, .ref fm, .ref pr, .int 0, .int 0])), (tp, .inr (0, [.int 65536, .ref ta, .int (nI (12 + 4))])), (ta, .inl (cT, 256, .inl f_8))] := hD
  refine W.widen (k := 0) (n := 0) (Nat.le_of_ble_eq_true rfl) (Nat.le_of_ble_eq_true rfl) ?_
  have hP : va_P (dC, dI) classes [(h0, .inr (11, [.ref tp, .ref sh, .ref me, .ref te, .ref en, .ref lx, .ref pa, .ref fr, .ref re, .ref ty, .ref fm, .ref pr, .int 0, .int 0])), (tp, .inr (0, [.int 65536, .ref ta, .int (nI 16)])), (ta, .inl (cT, 256, .inl f_8))] H := hP
  have hD : va_D A [(h0, .inr (11, [.ref tp, .ref sh, .ref me, .ref te, .ref en, .ref lx, .ref pa, .ref fr, .ref re, .ref ty, .ref fm, .ref pr, .int 0, .int 0])), (tp, .inr (0, [.int 65536, .ref ta, .int (nI 16)])), (ta, .inl (cT, 256, .inl f_8))] := hD
  refine lv_aload_n hx hb d_Ker_feed_44 rfl (lv_at hl 0 rfl) ?_
  refine lv_iload hx hb d_Ker_feed_45 (lv_at hl 5 rfl) ?_
  have hPc := hP.sub (ws' := [(h0, .inr (11, [.ref tp, .ref sh, .ref me, .ref te, .ref en, .ref lx, .ref pa, .ref fr, .ref re, .ref ty, .ref fm, .ref pr, .int 0, .int 0])), (tp, .inr (0, [.int 65536, .ref ta, .int (nI 16)])), (ta, .inl (cT, 256, .inl f_8))]) [0, 1, 2] rfl
  have hDc := hD.sub (ws' := [(h0, .inr (11, [.ref tp, .ref sh, .ref me, .ref te, .ref en, .ref lx, .ref pa, .ref fr, .ref re, .ref ty, .ref fm, .ref pr, .int 0, .int 0])), (tp, .inr (0, [.int 65536, .ref ta, .int (nI 16)])), (ta, .inl (cT, 256, .inl f_8))]) [0, 1, 2] (by decide) rfl
  have hKc := hK.sub (tys' := [(cT, .int)]) [0] rfl
  have hFc := va_free (wc := [(h0, .inr (11, [.ref tp, .ref sh, .ref me, .ref te, .ref en, .ref lx, .ref pa, .ref fr, .ref re, .ref ty, .ref fm, .ref pr, .int 0, .int 0])), (tp, .inr (0, [.int 65536, .ref ta, .int (nI 16)])), (ta, .inl (cT, 256, .inl f_8))]) hD hS hA [0, 1, 2] rfl
  refine va_callv (va_runV (As := [.int p5]) (rest := []) ⟨hx, hb, hml, hown, hT⟩ (c_Ker_takeBytes l dC dI H.size h0 tp ta sh sa me te t1 t2 t3 t4 t5 t6 t7 t8 en fc fa nn lx tk ka pa fr re ty fm pr cT cK 16 f_8 p5 (by decide)) (cwV 1 hT (gV vt_315 vt_316 vt_317 vt_318 vt_319) rfl rfl rfl (by decide +kernel) ⟨Nat.le_of_ble_eq_true rfl, Nat.le_of_ble_eq_true rfl⟩) ⟨Pw_blind, va_recv hK hP (ci := 11) (q0 := 0) rfl rfl, Pw_of hPc hKc hDc⟩ rfl rfl hl.1 rfl (lv_room (Nat.le_of_ble_eq_true rfl)) d_Ker_feed_47 ⟨Nat.le_of_ble_eq_true rfl, Nat.le_of_ble_eq_true rfl⟩) hS (fun q _ h => hFc q h) hFc (fun u t H1 locs ht hvm hw hB hz1 hk1 hS => ?_)
  obtain ⟨f_10, hP1, hK1, hD1⟩ := hB
  rw [ht] at hP1
  have hK1 := va_K.moved hvm.symm hK1
  obtain ⟨hP, hD⟩ := va_join (wr := []) (w1 := [(h0, .inr (11, [.ref tp, .ref sh, .ref me, .ref te, .ref en, .ref lx, .ref pa, .ref fr, .ref re, .ref ty, .ref fm, .ref pr, .int 0, .int 0])), (tp, .inr (0, [.int 65536, .ref ta, .int (nI (16 + 4))])), (ta, .inl (cT, 256, .inl f_10))]) hP hD [0, 1, 2] [] rfl rfl (by decide) (by decide) hk1 hFc hP1 hD1
  generalize H1 = H at hP hS ⊢
  have hP : va_P (dC, dI) classes [(h0, .inr (11, [.ref tp, .ref sh, .ref me, .ref te, .ref en, .ref lx, .ref pa, .ref fr, .ref re, .ref ty, .ref fm, .ref pr, .int 0, .int 0])), (tp, .inr (0, [.int 65536, .ref ta, .int (nI (16 + 4))])), (ta, .inl (cT, 256, .inl f_10))] H := hP
  have hD : va_D A [(h0, .inr (11, [.ref tp, .ref sh, .ref me, .ref te, .ref en, .ref lx, .ref pa, .ref fr, .ref re, .ref ty, .ref fm, .ref pr, .int 0, .int 0])), (tp, .inr (0, [.int 65536, .ref ta, .int (nI (16 + 4))])), (ta, .inl (cT, 256, .inl f_10))] := hD
  refine W.widen (k := 0) (n := 0) (Nat.le_of_ble_eq_true rfl) (Nat.le_of_ble_eq_true rfl) ?_
  have hP : va_P (dC, dI) classes [(h0, .inr (11, [.ref tp, .ref sh, .ref me, .ref te, .ref en, .ref lx, .ref pa, .ref fr, .ref re, .ref ty, .ref fm, .ref pr, .int 0, .int 0])), (tp, .inr (0, [.int 65536, .ref ta, .int (nI 20)])), (ta, .inl (cT, 256, .inl f_10))] H := hP
  have hD : va_D A [(h0, .inr (11, [.ref tp, .ref sh, .ref me, .ref te, .ref en, .ref lx, .ref pa, .ref fr, .ref re, .ref ty, .ref fm, .ref pr, .int 0, .int 0])), (tp, .inr (0, [.int 65536, .ref ta, .int (nI 20)])), (ta, .inl (cT, 256, .inl f_10))] := hD
  refine lv_aload_n hx hb d_Ker_feed_50 rfl (lv_at hl 0 rfl) ?_
  refine va_get (D := (dC, dI)) (ci := 11) (v := .ref tp) (C := R_Ker) (T := T_Ker) (N := 14) hx hb hT in_Ker hown hK hP 0 rfl rfl 0 (by decide) (hT _ vt_97) (fun _ h9 => h9) rfl d_Ker_feed_51 ?_
  refine W.callR (W.runV (As := []) (rest := []) ⟨hx, hb, hml, hown, hT⟩ (c_Row_size l dC dI tp ta 65536 (nI 20)) (cwV 0 hT (gV vt_314 vt_253 vt_254 vt_11 vt_255) rfl rfl rfl (by decide +kernel) ⟨Nat.le_of_ble_eq_true rfl, Nat.le_of_ble_eq_true rfl⟩) ⟨Pp_blind, va_recv hK hP (ci := 0) (q0 := 1) rfl rfl, Pp_of (hP.sub (ws' := [(tp, .inr (0, [.int 65536, .ref ta, .int (nI 20)]))]) [1] rfl) (hK.sub (tys' := []) [] rfl)⟩ rfl rfl hl.1 rfl (lv_room (Nat.le_of_ble_eq_true rfl)) d_Ker_feed_54 ⟨Nat.le_of_ble_eq_true rfl, Nat.le_of_ble_eq_true rfl⟩) ?_
  refine W.eq (g2 := F0 m 57 ls [.int (nI 20)]) rfl ?_
  refine W.widen (k := 0) (n := 0) (Nat.le_of_ble_eq_true rfl) (Nat.le_of_ble_eq_true rfl) ?_
  exact W.iret (v := (nI 20)) hx hb hr (fun t ht hW => ⟨⟨(nI 20), (), rfl, (by decide), trivial⟩, hS.F ht⟩) hS.2.2 d_Ker_feed_57
set_option maxHeartbeats 4000000 in
set_option maxRecDepth 100000 in
/-- end(0) on an empty TAPE -/
theorem c_Ker_end0 (l : Launch) (dC : Nat → ClassId) (dI : Nat → Nat → Nat) (h0 tp ta sh sa me te t1 t2 t3 t4 t5 t6 t7 t8 en fc fa nn lx tk ka pa fr re ty fm pr : Nat) (cT cK : ClassId) : Met l y_Ker_end w_Ker_end ({ frames := 30, cells := 0, slots := 0, locals := 900 }) (Pp dC dI [.ref h0, .int 0] [(h0, .inr (11, [.ref tp, .ref sh, .ref me, .ref te, .ref en, .ref lx, .ref pa, .ref fr, .ref re, .ref ty, .ref fm, .ref pr, .int 0, .int 0])), (tp, .inr (0, [.int 65536, .ref ta, .int 0]))] []) (QcRead 0) 0 0 (fun _ => False) := by
  refine Met.ofW (cc := b_Ker_end) (maxL := 2) (ret := (some .int)) (by decide) rfl ?_
  intro p e s m args below meth c s₁ B hml hv
  obtain ⟨rfl, hP, hK⟩ := hv
  have hx := B.exec
  have hb := B.bytes
  have hr := B.returns
  have hT : ∀ w ∈ vT, w.before _ s = true := fun w h => atoms_spec (ws := w_Ker_end) B.pre w (List.mem_cons_of_mem _ h)
  have hown : s.vm.findClass R_Ker = some m.cls := findClass_of_methodNamed B.named
  have hlocks := B.notSynchronized
  have hP : va_P (dC, dI) classes [(h0, .inr (11, [.ref tp, .ref sh, .ref me, .ref te, .ref en, .ref lx, .ref pa, .ref fr, .ref re, .ref ty, .ref fm, .ref pr, .int 0, .int 0])), (tp, .inr (0, [.int 65536, .ref ta, .int 0]))] s.heap := hP
  have hl := lv_entry ([.ref h0, .int 0]) (n := 2) (Nat.le_of_ble_eq_true rfl)
  rw [lg_entry_eq]
  generalize (lg_sl ([.ref h0, .int 0]) ++ List.replicate (2 - (lg_sl ([.ref h0, .int 0])).length) Slot.unset).toArray = ls at hl ⊢
  have hl : lv_has ls 2 [(0, .ref h0), (1, .int 0)] := hl
  refine lv_iload_n hx hb d_Ker_end_0 rfl (lv_at hl 1 rfl) ?_
  refine lv_if_lt (tgt := 15) hx hb d_Ker_end_1 (by decide) (fun c_1 => absurd c_1 (by decide)) (fun c_1 => ?_)
  refine lv_iload_n hx hb d_Ker_end_4 rfl (lv_at hl 1 rfl) ?_
  refine lv_aload_n hx hb d_Ker_end_5 rfl (lv_at hl 0 rfl) ?_
  refine va_get (D := (dC, dI)) (ci := 11) (v := .ref tp) (C := R_Ker) (T := T_Ker) (N := 14) hx hb hT in_Ker hown hK hP 0 rfl rfl 0 (by decide) (hT _ vt_97) (fun _ h9 => h9) rfl d_Ker_end_6 ?_
  refine W.callR (W.runV (As := []) (rest := [.int 0]) ⟨hx, hb, hml, hown, hT⟩ (c_Row_size l dC dI tp ta 65536 0) (cwV 0 hT (gV vt_314 vt_253 vt_254 vt_11 vt_255) rfl rfl rfl (by decide +kernel) ⟨Nat.le_of_ble_eq_true rfl, Nat.le_of_ble_eq_true rfl⟩) ⟨Pp_blind, va_recv hK hP (ci := 0) (q0 := 1) rfl rfl, Pp_of (hP.sub (ws' := [(tp, .inr (0, [.int 65536, .ref ta, .int 0]))]) [1] rfl) (hK.sub (tys' := []) [] rfl)⟩ rfl rfl hl.1 rfl (lv_room (Nat.le_of_ble_eq_true rfl)) d_Ker_end_9 ⟨Nat.le_of_ble_eq_true rfl, Nat.le_of_ble_eq_true rfl⟩) ?_
  refine W.eq (g2 := F0 m 12 ls [.int 0, .int 0]) rfl ?_
  refine lv_icmp_le (tgt := 23) hx hb d_Ker_end_12 (by decide) (fun c_2 => ?_) (fun c_2 => absurd (by decide) c_2)
  refine lv_aload_n hx hb d_Ker_end_23 rfl (lv_at hl 0 rfl) ?_
  refine va_get (D := (dC, dI)) (ci := 11) (v := .ref tp) (C := R_Ker) (T := T_Ker) (N := 14) hx hb hT in_Ker hown hK hP 0 rfl rfl 0 (by decide) (hT _ vt_97) (fun _ h9 => h9) rfl d_Ker_end_24 ?_
  refine lv_iload_n hx hb d_Ker_end_27 rfl (lv_at hl 1 rfl) ?_
  refine vx_callU (W.runV (As := [.int 0]) (rest := []) ⟨hx, hb, hml, hown, hT⟩ (c_Row_cut l dC dI tp ta 65536 0 0 (by decide) (by decide)) (cwV 1 hT (gV vt_312 vt_281 vt_282 vt_11 vt_283) rfl rfl rfl (by decide +kernel) ⟨Nat.le_of_ble_eq_true rfl, Nat.le_of_ble_eq_true rfl⟩) ⟨Pp_blind, va_recv hK hP (ci := 0) (q0 := 1) rfl rfl, Pp_of (hP.sub (ws' := [(tp, .inr (0, [.int 65536, .ref ta, .int 0]))]) [1] rfl) (hK.sub (tys' := []) [] rfl)⟩ rfl rfl hl.1 rfl (lv_room (Nat.le_of_ble_eq_true rfl)) d_Ker_end_28 ⟨Nat.le_of_ble_eq_true rfl, Nat.le_of_ble_eq_true rfl⟩) ?_
  refine W.eq (g2 := F0 m 31 ls []) rfl ?_
  refine lv_iload_n hx hb d_Ker_end_31 rfl (lv_at hl 1 rfl) ?_
  exact W.iret (v := 0) hx hb hr (fun t ht hW => ⟨rfl, ht⟩) (fun _ h => nomatch h) d_Ker_end_32
set_option maxHeartbeats 4000000 in
set_option maxRecDepth 100000 in
/-- fault -/
theorem c_Ker_fault (l : Launch) (dC : Nat → ClassId) (dI : Nat → Nat → Nat) (h0 tp ta sh sa me te t1 t2 t3 t4 t5 t6 t7 t8 en fc fa nn lx tk ka pa fr re ty fm pr : Nat) (cT cK : ClassId) (w : Int32) : Met l y_Ker_fault w_Ker_fault ({ frames := 30, cells := 0, slots := 0, locals := 900 }) (Pp dC dI [.ref h0, .int w] [(h0, .inr (11, [.ref tp, .ref sh, .ref me, .ref te, .ref en, .ref lx, .ref pa, .ref fr, .ref re, .ref ty, .ref fm, .ref pr, .int 0, .int 0])), (me, .inr (1, [.int 0, .int 0, .int 0, .int 0]))] []) (QcRead (vfv w)) 0 0 (fun _ => False) := by
  refine Met.ofW (cc := b_Ker_fault) (maxL := 2) (ret := (some .int)) (by decide) rfl ?_
  intro p e s m args below meth c s₁ B hml hv
  obtain ⟨rfl, hP, hK⟩ := hv
  have hx := B.exec
  have hb := B.bytes
  have hr := B.returns
  have hT : ∀ w ∈ vT, w.before _ s = true := fun w h => atoms_spec (ws := w_Ker_fault) B.pre w (List.mem_cons_of_mem _ h)
  have hown : s.vm.findClass R_Ker = some m.cls := findClass_of_methodNamed B.named
  have hlocks := B.notSynchronized
  have hP : va_P (dC, dI) classes [(h0, .inr (11, [.ref tp, .ref sh, .ref me, .ref te, .ref en, .ref lx, .ref pa, .ref fr, .ref re, .ref ty, .ref fm, .ref pr, .int 0, .int 0])), (me, .inr (1, [.int 0, .int 0, .int 0, .int 0]))] s.heap := hP
  have hl := lv_entry ([.ref h0, .int w]) (n := 2) (Nat.le_of_ble_eq_true rfl)
  rw [lg_entry_eq]
  generalize (lg_sl ([.ref h0, .int w]) ++ List.replicate (2 - (lg_sl ([.ref h0, .int w])).length) Slot.unset).toArray = ls at hl ⊢
  have hl : lv_has ls 2 [(0, .ref h0), (1, .int w)] := hl
  unfold vfv
  by_cases h0w : w = 0
  · skip
    subst h0w
    refine lv_iload_n hx hb d_Ker_fault_0 rfl (lv_at hl 1 rfl) ?_
    refine lv_if_ne (tgt := 12) hx hb d_Ker_fault_1 (by decide) (fun c_1 => absurd (by decide) c_1) (fun c_1 => ?_)
    refine lv_aload_n hx hb d_Ker_fault_4 rfl (lv_at hl 0 rfl) ?_
    refine va_get (D := (dC, dI)) (ci := 11) (v := .ref me) (C := R_Ker) (T := T_Ker) (N := 14) hx hb hT in_Ker hown hK hP 0 rfl rfl 2 (by decide) (hT _ vt_104) (fun _ h9 => h9) rfl d_Ker_fault_5 ?_
    refine W.callR (W.runV (As := []) (rest := []) ⟨hx, hb, hml, hown, hT⟩ (c_Meter_code l dC dI me) (cwV 0 hT (gV vt_320 vt_321 vt_322 vt_101 vt_323) rfl rfl rfl (by decide +kernel) ⟨Nat.le_of_ble_eq_true rfl, Nat.le_of_ble_eq_true rfl⟩) ⟨Pp_blind, va_recv hK hP (ci := 1) (q0 := 1) rfl rfl, Pp_of (hP.sub (ws' := [(me, .inr (1, [.int 0, .int 0, .int 0, .int 0]))]) [1] rfl) (hK.sub (tys' := []) [] rfl)⟩ rfl rfl hl.1 rfl (lv_room (Nat.le_of_ble_eq_true rfl)) d_Ker_fault_8 ⟨Nat.le_of_ble_eq_true rfl, Nat.le_of_ble_eq_true rfl⟩) ?_
    refine W.eq (g2 := F0 m 11 ls [.int 0]) rfl ?_
    exact W.iret (v := 0) hx hb hr (fun t ht hW => ⟨rfl, ht⟩) (fun _ h => nomatch h) d_Ker_fault_11
  · skip
    refine lv_iload_n hx hb d_Ker_fault_0 rfl (lv_at hl 1 rfl) ?_
    refine lv_if_ne (tgt := 12) hx hb d_Ker_fault_1 (by decide) (fun c_1 => ?_) (fun c_1 => absurd c_1 (h0w))
    by_cases h1w : w = 1
    · skip
      subst h1w
      refine lv_iload_n hx hb d_Ker_fault_12 rfl (lv_at hl 1 rfl) ?_
      refine lv_iconst (v := 1) hx hb d_Ker_fault_13 (by decide) ?_
      refine lv_icmp_ne (tgt := 27) hx hb d_Ker_fault_14 (by decide) (fun c_2 => absurd (by decide) c_2) (fun c_2 => ?_)
      refine lv_aload_n hx hb d_Ker_fault_17 rfl (lv_at hl 0 rfl) ?_
      refine va_get (D := (dC, dI)) (ci := 11) (v := .ref me) (C := R_Ker) (T := T_Ker) (N := 14) hx hb hT in_Ker hown hK hP 0 rfl rfl 2 (by decide) (hT _ vt_104) (fun _ h9 => h9) rfl d_Ker_fault_18 ?_
      refine W.callR (W.runV (As := []) (rest := []) ⟨hx, hb, hml, hown, hT⟩ (c_Meter_place l dC dI me) (cwV 0 hT (gV vt_324 vt_325 vt_326 vt_101 vt_327) rfl rfl rfl (by decide +kernel) ⟨Nat.le_of_ble_eq_true rfl, Nat.le_of_ble_eq_true rfl⟩) ⟨Pp_blind, va_recv hK hP (ci := 1) (q0 := 1) rfl rfl, Pp_of (hP.sub (ws' := [(me, .inr (1, [.int 0, .int 0, .int 0, .int 0]))]) [1] rfl) (hK.sub (tys' := []) [] rfl)⟩ rfl rfl hl.1 rfl (lv_room (Nat.le_of_ble_eq_true rfl)) d_Ker_fault_21 ⟨Nat.le_of_ble_eq_true rfl, Nat.le_of_ble_eq_true rfl⟩) ?_
      refine W.eq (g2 := F0 m 24 ls [.int 0]) rfl ?_
      refine lv_goto (tgt := 28) hx hb d_Ker_fault_24 (by decide) ?_
      exact W.iret (v := 0) hx hb hr (fun t ht hW => ⟨rfl, ht⟩) (fun _ h => nomatch h) d_Ker_fault_28
    · skip
      rw [if_neg (fun h => h.elim h0w h1w)]
      refine lv_iload_n hx hb d_Ker_fault_12 rfl (lv_at hl 1 rfl) ?_
      refine lv_iconst (v := 1) hx hb d_Ker_fault_13 (by decide) ?_
      refine lv_icmp_ne (tgt := 27) hx hb d_Ker_fault_14 (by decide) (fun c_2 => ?_) (fun c_2 => absurd c_2 (h1w))
      refine lv_iconst (v := (-1)) hx hb d_Ker_fault_27 (by decide) ?_
      exact W.iret (v := (-1)) hx hb hr (fun t ht hW => ⟨rfl, ht⟩) (fun _ h => nomatch h) d_Ker_fault_28
set_option maxHeartbeats 4000000 in
set_option maxRecDepth 100000 in
/-- count -/
theorem c_Ker_count (l : Launch) (dC : Nat → ClassId) (dI : Nat → Nat → Nat) (h0 tp ta sh sa me te t1 t2 t3 t4 t5 t6 t7 t8 en fc fa nn lx tk ka pa fr re ty fm pr : Nat) (cT cK : ClassId) (w : Int32) : Met l y_Ker_count w_Ker_count ({ frames := 30, cells := 0, slots := 0, locals := 900 }) (Pp dC dI [.ref h0, .int w] [(h0, .inr (11, [.ref tp, .ref sh, .ref me, .ref te, .ref en, .ref lx, .ref pa, .ref fr, .ref re, .ref ty, .ref fm, .ref pr, .int 0, .int 0])), (tp, .inr (0, [.int 65536, .ref ta, .int 0])), (sh, .inr (0, [.int 65536, .ref sa, .int 0])), (en, .inr (3, [.ref fc, .ref nn, .int 0])), (fc, .inr (0, [.int 16777216, .ref fa, .int 0]))] []) (QcRead (vcv w)) 0 0 (fun _ => False) := by
  refine Met.ofW (cc := b_Ker_count) (maxL := 2) (ret := (some .int)) (by decide) rfl ?_
  intro p e s m args below meth c s₁ B hml hv
  obtain ⟨rfl, hP, hK⟩ := hv
  have hx := B.exec
  have hb := B.bytes
  have hr := B.returns
  have hT : ∀ w ∈ vT, w.before _ s = true := fun w h => atoms_spec (ws := w_Ker_count) B.pre w (List.mem_cons_of_mem _ h)
  have hown : s.vm.findClass R_Ker = some m.cls := findClass_of_methodNamed B.named
  have hlocks := B.notSynchronized
  have hP : va_P (dC, dI) classes [(h0, .inr (11, [.ref tp, .ref sh, .ref me, .ref te, .ref en, .ref lx, .ref pa, .ref fr, .ref re, .ref ty, .ref fm, .ref pr, .int 0, .int 0])), (tp, .inr (0, [.int 65536, .ref ta, .int 0])), (sh, .inr (0, [.int 65536, .ref sa, .int 0])), (en, .inr (3, [.ref fc, .ref nn, .int 0])), (fc, .inr (0, [.int 16777216, .ref fa, .int 0]))] s.heap := hP
  have hl := lv_entry ([.ref h0, .int w]) (n := 2) (Nat.le_of_ble_eq_true rfl)
  rw [lg_entry_eq]
  generalize (lg_sl ([.ref h0, .int w]) ++ List.replicate (2 - (lg_sl ([.ref h0, .int w])).length) Slot.unset).toArray = ls at hl ⊢
  have hl : lv_has ls 2 [(0, .ref h0), (1, .int w)] := hl
  by_cases hsw : w.toInt < 0 ∨ 5 < w.toInt
  · skip
    rw [vcv_out hsw]
    refine lv_iload_n hx hb d_Ker_count_0 rfl (lv_at hl 1 rfl) ?_
    refine lv_tableOut (tgt := 82) hx hb d_Ker_count_1 hsw (by decide) ?_
    refine lv_iconst (v := (-1)) hx hb d_Ker_count_82 (by decide) ?_
    exact W.iret (v := (-1)) hx hb hr (fun t ht hW => ⟨rfl, ht⟩) (fun _ h => nomatch h) d_Ker_count_83
  · skip
    obtain ⟨hcv, hcs⟩ := vcv_in hsw
    rw [hcv]
    clear hsw hcv
    rcases hcs with rfl | rfl | rfl | rfl | rfl | rfl
    · skip
      refine lv_iload_n hx hb d_Ker_count_0 rfl (lv_at hl 1 rfl) ?_
      refine lv_tableIn (tgt := 40) (off := 39) hx hb d_Ker_count_1 (by decide) (by decide) rfl (by decide) ?_
      refine lv_aload_n hx hb d_Ker_count_40 rfl (lv_at hl 0 rfl) ?_
      refine va_get (D := (dC, dI)) (ci := 11) (v := .ref en) (C := R_Ker) (T := T_Ker) (N := 14) hx hb hT in_Ker hown hK hP 0 rfl rfl 4 (by decide) (hT _ vt_118) (fun _ h9 => h9) rfl d_Ker_count_41 ?_
      refine W.callR (W.runV (As := []) (rest := []) ⟨hx, hb, hml, hown, hT⟩ (c_Env_length l dC dI en fc fa nn) (cwV 0 hT (gV vt_328 vt_258 vt_259 vt_114 vt_260) rfl rfl rfl (by decide +kernel) ⟨Nat.le_of_ble_eq_true rfl, Nat.le_of_ble_eq_true rfl⟩) ⟨Pp_blind, va_recv hK hP (ci := 3) (q0 := 3) rfl rfl, Pp_of (hP.sub (ws' := [(en, .inr (3, [.ref fc, .ref nn, .int 0])), (fc, .inr (0, [.int 16777216, .ref fa, .int 0]))]) [3, 4] rfl) (hK.sub (tys' := []) [] rfl)⟩ rfl rfl hl.1 rfl (lv_room (Nat.le_of_ble_eq_true rfl)) d_Ker_count_44 ⟨Nat.le_of_ble_eq_true rfl, Nat.le_of_ble_eq_true rfl⟩) ?_
      refine W.eq (g2 := F0 m 47 ls [.int 0]) rfl ?_
      exact W.iret (v := 0) hx hb hr (fun t ht hW => ⟨rfl, ht⟩) (fun _ h => nomatch h) d_Ker_count_47
    · skip
      refine lv_iload_n hx hb d_Ker_count_0 rfl (lv_at hl 1 rfl) ?_
      refine lv_tableIn (tgt := 48) (off := 47) hx hb d_Ker_count_1 (by decide) (by decide) rfl (by decide) ?_
      refine lv_aload_n hx hb d_Ker_count_48 rfl (lv_at hl 0 rfl) ?_
      refine va_get (D := (dC, dI)) (ci := 11) (v := .int 0) (C := R_Ker) (T := T_Ker) (N := 14) hx hb hT in_Ker hown hK hP 0 rfl rfl 12 (by decide) (hT _ vt_329) (fun _ h9 => h9) rfl d_Ker_count_49 ?_
      exact W.iret (v := 0) hx hb hr (fun t ht hW => ⟨rfl, ht⟩) (fun _ h => nomatch h) d_Ker_count_52
    · skip
      refine lv_iload_n hx hb d_Ker_count_0 rfl (lv_at hl 1 rfl) ?_
      refine lv_tableIn (tgt := 53) (off := 52) hx hb d_Ker_count_1 (by decide) (by decide) rfl (by decide) ?_
      refine lv_aload_n hx hb d_Ker_count_53 rfl (lv_at hl 0 rfl) ?_
      refine va_get (D := (dC, dI)) (ci := 11) (v := .int 0) (C := R_Ker) (T := T_Ker) (N := 14) hx hb hT in_Ker hown hK hP 0 rfl rfl 13 (by decide) (hT _ vt_330) (fun _ h9 => h9) rfl d_Ker_count_54 ?_
      exact W.iret (v := 0) hx hb hr (fun t ht hW => ⟨rfl, ht⟩) (fun _ h => nomatch h) d_Ker_count_57
    · skip
      refine lv_iload_n hx hb d_Ker_count_0 rfl (lv_at hl 1 rfl) ?_
      refine lv_tableIn (tgt := 58) (off := 57) hx hb d_Ker_count_1 (by decide) (by decide) rfl (by decide) ?_
      refine lv_aload_n hx hb d_Ker_count_58 rfl (lv_at hl 0 rfl) ?_
      refine va_get (D := (dC, dI)) (ci := 11) (v := .ref en) (C := R_Ker) (T := T_Ker) (N := 14) hx hb hT in_Ker hown hK hP 0 rfl rfl 4 (by decide) (hT _ vt_118) (fun _ h9 => h9) rfl d_Ker_count_59 ?_
      refine W.callR (W.runV (As := []) (rest := []) ⟨hx, hb, hml, hown, hT⟩ (c_Env_sizes l dC dI en fc nn) (cwV 0 hT (gV vt_331 vt_332 vt_333 vt_114 vt_334) rfl rfl rfl (by decide +kernel) ⟨Nat.le_of_ble_eq_true rfl, Nat.le_of_ble_eq_true rfl⟩) ⟨Pp_blind, va_recv hK hP (ci := 3) (q0 := 3) rfl rfl, Pp_of (hP.sub (ws' := [(en, .inr (3, [.ref fc, .ref nn, .int 0]))]) [3] rfl) (hK.sub (tys' := []) [] rfl)⟩ rfl rfl hl.1 rfl (lv_room (Nat.le_of_ble_eq_true rfl)) d_Ker_count_62 ⟨Nat.le_of_ble_eq_true rfl, Nat.le_of_ble_eq_true rfl⟩) ?_
      refine W.eq (g2 := F0 m 65 ls [.int 0]) rfl ?_
      exact W.iret (v := 0) hx hb hr (fun t ht hW => ⟨rfl, ht⟩) (fun _ h => nomatch h) d_Ker_count_65
    · skip
      refine lv_iload_n hx hb d_Ker_count_0 rfl (lv_at hl 1 rfl) ?_
      refine lv_tableIn (tgt := 66) (off := 65) hx hb d_Ker_count_1 (by decide) (by decide) rfl (by decide) ?_
      refine lv_aload_n hx hb d_Ker_count_66 rfl (lv_at hl 0 rfl) ?_
      refine va_get (D := (dC, dI)) (ci := 11) (v := .ref tp) (C := R_Ker) (T := T_Ker) (N := 14) hx hb hT in_Ker hown hK hP 0 rfl rfl 0 (by decide) (hT _ vt_97) (fun _ h9 => h9) rfl d_Ker_count_67 ?_
      refine W.callR (W.runV (As := []) (rest := []) ⟨hx, hb, hml, hown, hT⟩ (c_Row_size l dC dI tp ta 65536 0) (cwV 0 hT (gV vt_314 vt_253 vt_254 vt_11 vt_255) rfl rfl rfl (by decide +kernel) ⟨Nat.le_of_ble_eq_true rfl, Nat.le_of_ble_eq_true rfl⟩) ⟨Pp_blind, va_recv hK hP (ci := 0) (q0 := 1) rfl rfl, Pp_of (hP.sub (ws' := [(tp, .inr (0, [.int 65536, .ref ta, .int 0]))]) [1] rfl) (hK.sub (tys' := []) [] rfl)⟩ rfl rfl hl.1 rfl (lv_room (Nat.le_of_ble_eq_true rfl)) d_Ker_count_70 ⟨Nat.le_of_ble_eq_true rfl, Nat.le_of_ble_eq_true rfl⟩) ?_
      refine W.eq (g2 := F0 m 73 ls [.int 0]) rfl ?_
      exact W.iret (v := 0) hx hb hr (fun t ht hW => ⟨rfl, ht⟩) (fun _ h => nomatch h) d_Ker_count_73
    · skip
      refine lv_iload_n hx hb d_Ker_count_0 rfl (lv_at hl 1 rfl) ?_
      refine lv_tableIn (tgt := 74) (off := 73) hx hb d_Ker_count_1 (by decide) (by decide) rfl (by decide) ?_
      refine lv_aload_n hx hb d_Ker_count_74 rfl (lv_at hl 0 rfl) ?_
      refine va_get (D := (dC, dI)) (ci := 11) (v := .ref sh) (C := R_Ker) (T := T_Ker) (N := 14) hx hb hT in_Ker hown hK hP 0 rfl rfl 1 (by decide) (hT _ vt_98) (fun _ h9 => h9) rfl d_Ker_count_75 ?_
      refine W.callR (W.runV (As := []) (rest := []) ⟨hx, hb, hml, hown, hT⟩ (c_Row_size l dC dI sh sa 65536 0) (cwV 0 hT (gV vt_314 vt_253 vt_254 vt_11 vt_255) rfl rfl rfl (by decide +kernel) ⟨Nat.le_of_ble_eq_true rfl, Nat.le_of_ble_eq_true rfl⟩) ⟨Pp_blind, va_recv hK hP (ci := 0) (q0 := 2) rfl rfl, Pp_of (hP.sub (ws' := [(sh, .inr (0, [.int 65536, .ref sa, .int 0]))]) [2] rfl) (hK.sub (tys' := []) [] rfl)⟩ rfl rfl hl.1 rfl (lv_room (Nat.le_of_ble_eq_true rfl)) d_Ker_count_78 ⟨Nat.le_of_ble_eq_true rfl, Nat.le_of_ble_eq_true rfl⟩) ?_
      refine W.eq (g2 := F0 m 81 ls [.int 0]) rfl ?_
      exact W.iret (v := 0) hx hb hr (fun t ht hW => ⟨rfl, ht⟩) (fun _ h => nomatch h) d_Ker_count_81
set_option maxHeartbeats 4000000 in
set_option maxRecDepth 100000 in
/-- reset -/
theorem c_Ker_reset (l : Launch) (dC : Nat → ClassId) (dI : Nat → Nat → Nat) (sz : Nat) (h0 tp ta sh sa me te t1 t2 t3 t4 t5 t6 t7 t8 en fc fa nn lx tk ka pa fr re ty fm pr : Nat) (cT cK : ClassId) : Met l y_Ker_reset w_Ker_reset ({ frames := 50, cells := 0, slots := 0, locals := 1500 }) (Pw dC dI [.ref h0] sz [(h0, .inr (11, [.ref tp, .ref sh, .ref me, .ref te, .ref en, .ref lx, .ref pa, .ref fr, .ref re, .ref ty, .ref fm, .ref pr, .int 0, .int 0])), (te, .inr (2, [.ref me, .ref t1, .ref t2, .ref t3, .ref t4, .ref t5, .ref t6, .ref t7, .ref t8, .int 0])), (en, .inr (3, [.ref fc, .ref nn, .int 0])), (fc, .inr (0, [.int 16777216, .ref fa, .int 0]))] []) (va_Qi (fun (r : Int32) (_ : Unit) => r = 0) (fun _ t => True) (va_A [(h0, .inr (11, [.ref tp, .ref sh, .ref me, .ref te, .ref en, .ref lx, .ref pa, .ref fr, .ref re, .ref ty, .ref fm, .ref pr, .int 0, .int 0])), (te, .inr (2, [.ref me, .ref t1, .ref t2, .ref t3, .ref t4, .ref t5, .ref t6, .ref t7, .ref t8, .int 0])), (en, .inr (3, [.ref fc, .ref nn, .int 0])), (fc, .inr (0, [.int 16777216, .ref fa, .int 0]))] sz)) 0 0 (va_A [(h0, .inr (11, [.ref tp, .ref sh, .ref me, .ref te, .ref en, .ref lx, .ref pa, .ref fr, .ref re, .ref ty, .ref fm, .ref pr, .int 0, .int 0])), (te, .inr (2, [.ref me, .ref t1, .ref t2, .ref t3, .ref t4, .ref t5, .ref t6, .ref t7, .ref t8, .int 0])), (en, .inr (3, [.ref fc, .ref nn, .int 0])), (fc, .inr (0, [.int 16777216, .ref fa, .int 0]))] sz) := by
  refine Met.ofW (cc := b_Ker_reset) (maxL := 2) (ret := (some .int)) (by decide) rfl ?_
  intro p e s m args below meth c s₁ B hml hv
  obtain ⟨rfl, hsz, hP, hK, hD0⟩ := hv
  have hx := B.exec
  have hb := B.bytes
  have hr := B.returns
  have hT : ∀ w ∈ vT, w.before _ s = true := fun w h => atoms_spec (ws := w_Ker_reset) B.pre w (List.mem_cons_of_mem _ h)
  have hown : s.vm.findClass R_Ker = some m.cls := findClass_of_methodNamed B.named
  have hlocks := B.notSynchronized
  subst hsz
  have hD := hD0.self (sz := s.heap.size)
  generalize hAe : va_A [(h0, .inr (11, [.ref tp, .ref sh, .ref me, .ref te, .ref en, .ref lx, .ref pa, .ref fr, .ref re, .ref ty, .ref fm, .ref pr, .int 0, .int 0])), (te, .inr (2, [.ref me, .ref t1, .ref t2, .ref t3, .ref t4, .ref t5, .ref t6, .ref t7, .ref t8, .int 0])), (en, .inr (3, [.ref fc, .ref nn, .int 0])), (fc, .inr (0, [.int 16777216, .ref fa, .int 0]))] s.heap.size = A at hD ⊢
  have hA : ∀ q : Nat, s.heap.size ≤ q → A q := fun q h => by rw [← hAe]; exact Or.inr h
  have hS : va_S A s.heap s.heap [] := va_S.rf
  have hP : va_P (dC, dI) classes [(h0, .inr (11, [.ref tp, .ref sh, .ref me, .ref te, .ref en, .ref lx, .ref pa, .ref fr, .ref re, .ref ty, .ref fm, .ref pr, .int 0, .int 0])), (te, .inr (2, [.ref me, .ref t1, .ref t2, .ref t3, .ref t4, .ref t5, .ref t6, .ref t7, .ref t8, .int 0])), (en, .inr (3, [.ref fc, .ref nn, .int 0])), (fc, .inr (0, [.int 16777216, .ref fa, .int 0]))] s.heap := hP
  have hl := lv_entry ([.ref h0]) (n := 2) (Nat.le_of_ble_eq_true rfl)
  rw [lg_entry_eq]
  generalize (lg_sl ([.ref h0]) ++ List.replicate (2 - (lg_sl ([.ref h0])).length) Slot.unset).toArray = ls at hl ⊢
  have hl : lv_has ls 2 [(0, .ref h0)] := hl
  refine lv_aload_n hx hb d_Ker_reset_0 rfl (lv_at hl 0 rfl) ?_
  refine va_get (D := (dC, dI)) (ci := 11) (v := .ref en) (C := R_Ker) (T := T_Ker) (N := 14) hx hb hT in_Ker hown hK hP 0 rfl rfl 4 (by decide) (hT _ vt_118) (fun _ h9 => h9) rfl d_Ker_reset_1 ?_
  refine W.callR (W.runV (As := []) (rest := []) ⟨hx, hb, hml, hown, hT⟩ (c_Env_length l dC dI en fc fa nn) (cwV 0 hT (gV vt_328 vt_258 vt_259 vt_114 vt_260) rfl rfl rfl (by decide +kernel) ⟨Nat.le_of_ble_eq_true rfl, Nat.le_of_ble_eq_true rfl⟩) ⟨Pp_blind, va_recv hK hP (ci := 3) (q0 := 2) rfl rfl, Pp_of (hP.sub (ws' := [(en, .inr (3, [.ref fc, .ref nn, .int 0])), (fc, .inr (0, [.int 16777216, .ref fa, .int 0]))]) [2, 3] rfl) (hK.sub (tys' := []) [] rfl)⟩ rfl rfl hl.1 rfl (lv_room (Nat.le_of_ble_eq_true rfl)) d_Ker_reset_4 ⟨Nat.le_of_ble_eq_true rfl, Nat.le_of_ble_eq_true rfl⟩) ?_
  refine W.eq (g2 := F0 m 7 ls [.int 0]) rfl ?_
  refine lv_istore_n (lv' := [(1, .int 0), (0, .ref h0)]) hx hb d_Ker_reset_7 rfl hl (by decide) rfl (fun ls hl => ?_)
  refine lv_aload_n hx hb d_Ker_reset_8 rfl (lv_at hl 1 rfl) ?_
  refine va_get (D := (dC, dI)) (ci := 11) (v := .ref en) (C := R_Ker) (T := T_Ker) (N := 14) hx hb hT in_Ker hown hK hP 0 rfl rfl 4 (by decide) (hT _ vt_118) (fun _ h9 => h9) rfl d_Ker_reset_9 ?_
  have hPc := hP.sub (ws' := [(en, .inr (3, [.ref fc, .ref nn, .int 0])), (fc, .inr (0, [.int 16777216, .ref fa, .int 0]))]) [2, 3] rfl
  have hDc := hD.sub (ws' := [(en, .inr (3, [.ref fc, .ref nn, .int 0])), (fc, .inr (0, [.int 16777216, .ref fa, .int 0]))]) [2, 3] (by decide) rfl
  have hKc := hK.sub (tys' := []) [] rfl
  have hFc := va_free (wc := [(en, .inr (3, [.ref fc, .ref nn, .int 0])), (fc, .inr (0, [.int 16777216, .ref fa, .int 0]))]) hD hS hA [2, 3] rfl
  refine va_callv (va_runV (As := []) (rest := []) ⟨hx, hb, hml, hown, hT⟩ (c_Env_clear l dC dI s.heap.size en fc fa nn) (cwV 0 hT (gV vt_335 vt_336 vt_337 vt_114 vt_338) rfl rfl rfl (by decide +kernel) ⟨Nat.le_of_ble_eq_true rfl, Nat.le_of_ble_eq_true rfl⟩) ⟨Pw_blind, va_recv hK hP (ci := 3) (q0 := 2) rfl rfl, Pw_of hPc hKc hDc⟩ rfl rfl hl.1 rfl (lv_room (Nat.le_of_ble_eq_true rfl)) d_Ker_reset_12 ⟨Nat.le_of_ble_eq_true rfl, Nat.le_of_ble_eq_true rfl⟩) hS (fun q _ h => hFc q h) hFc (fun u t H1 locs ht hvm hw hB hz1 hk1 hS => ?_)
  obtain ⟨hP1, hK1, hD1⟩ := hB
  rw [ht] at hP1
  have hK1 := va_K.moved hvm.symm hK1
  obtain ⟨hP, hD⟩ := va_join (wr := [(h0, .inr (11, [.ref tp, .ref sh, .ref me, .ref te, .ref en, .ref lx, .ref pa, .ref fr, .ref re, .ref ty, .ref fm, .ref pr, .int 0, .int 0])), (te, .inr (2, [.ref me, .ref t1, .ref t2, .ref t3, .ref t4, .ref t5, .ref t6, .ref t7, .ref t8, .int 0]))]) (w1 := [(en, .inr (3, [.ref fc, .ref nn, .int 0])), (fc, .inr (0, [.int 16777216, .ref fa, .int 0]))]) hP hD [2, 3] [0, 1] rfl rfl (by decide) (by decide) hk1 hFc hP1 hD1
  generalize H1 = H at hP hS ⊢
  have hP : va_P (dC, dI) classes [(h0, .inr (11, [.ref tp, .ref sh, .ref me, .ref te, .ref en, .ref lx, .ref pa, .ref fr, .ref re, .ref ty, .ref fm, .ref pr, .int 0, .int 0])), (te, .inr (2, [.ref me, .ref t1, .ref t2, .ref t3, .ref t4, .ref t5, .ref t6, .ref t7, .ref t8, .int 0])), (en, .inr (3, [.ref fc, .ref nn, .int 0])), (fc, .inr (0, [.int 16777216, .ref fa, .int 0]))] H := hP
  have hD : va_D A [(h0, .inr (11, [.ref tp, .ref sh, .ref me, .ref te, .ref en, .ref lx, .ref pa, .ref fr, .ref re, .ref ty, .ref fm, .ref pr, .int 0, .int 0])), (te, .inr (2, [.ref me, .ref t1, .ref t2, .ref t3, .ref t4, .ref t5, .ref t6, .ref t7, .ref t8, .int 0])), (en, .inr (3, [.ref fc, .ref nn, .int 0])), (fc, .inr (0, [.int 16777216, .ref fa, .int 0]))] := hD
  refine W.widen (k := 0) (n := 0) (Nat.le_of_ble_eq_true rfl) (Nat.le_of_ble_eq_true rfl) ?_
  refine lv_aload_n hx hb d_Ker_reset_15 rfl (lv_at hl 1 rfl) ?_
  refine va_get (D := (dC, dI)) (ci := 11) (v := .ref te) (C := R_Ker) (T := T_Ker) (N := 14) hx hb hT in_Ker hown hK hP 0 rfl rfl 3 (by decide) (hT _ vt_111) (fun _ h9 => h9) rfl d_Ker_reset_16 ?_
  refine lv_iconst (v := 0) hx hb d_Ker_reset_19 (by decide) ?_
  refine vx_callU (W.runV (As := [.int 0]) (rest := []) ⟨hx, hb, hml, hown, hT⟩ (c_Terms_release l dC dI te me t1 t2 t3 t4 t5 t6 t7 t8) (cwV 1 hT (gV vt_339 vt_340 vt_341 vt_107 vt_342) rfl rfl rfl (by decide +kernel) ⟨Nat.le_of_ble_eq_true rfl, Nat.le_of_ble_eq_true rfl⟩) ⟨Pp_blind, va_recv hK hP (ci := 2) (q0 := 1) rfl rfl, Pp_of (hP.sub (ws' := [(te, .inr (2, [.ref me, .ref t1, .ref t2, .ref t3, .ref t4, .ref t5, .ref t6, .ref t7, .ref t8, .int 0]))]) [1] rfl) (hK.sub (tys' := []) [] rfl)⟩ rfl rfl hl.1 rfl (lv_room (Nat.le_of_ble_eq_true rfl)) d_Ker_reset_20 ⟨Nat.le_of_ble_eq_true rfl, Nat.le_of_ble_eq_true rfl⟩) ?_
  refine W.eq (g2 := F0 m 23 ls []) rfl ?_
  refine lv_aload_n hx hb d_Ker_reset_23 rfl (lv_at hl 1 rfl) ?_
  refine lv_iconst (v := 0) hx hb d_Ker_reset_24 (by decide) ?_
  refine va_put (D := (dC, dI)) (ci := 11) (v := .int 0) (ty := .int) (C := R_Ker) (T := T_Ker) (N := 14) hx hb hT in_Ker ty_Ker tyo_Ker nm_Ker hown hK hP hD hS 0 rfl rfl 12 (by decide) (hT _ vt_329) (fun _ h9 => h9) rfl (by decide +kernel) rfl rfl (Nat.le_of_ble_eq_true rfl) d_Ker_reset_25 (fun H locs hP hD hS => ?_)
  have hP : va_P (dC, dI) classes [(h0, .inr (11, [.ref tp, .ref sh, .ref me, .ref te, .ref en, .ref lx, .ref pa, .ref fr, .ref re, .ref ty, .ref fm, .ref pr, .int 0, .int 0])), (te, .inr (2, [.ref me, .ref t1, .ref t2, .ref t3, .ref t4, .ref t5, .ref t6, .ref t7, .ref t8, .int 0])), (en, .inr (3, [.ref fc, .ref nn, .int 0])), (fc, .inr (0, [.int 16777216, .ref fa, .int 0]))] H := hP
  have hD : va_D A [(h0, .inr (11, [.ref tp, .ref sh, .ref me, .ref te, .ref en, .ref lx, .ref pa, .ref fr, .ref re, .ref ty, .ref fm, .ref pr, .int 0, .int 0])), (te, .inr (2, [.ref me, .ref t1, .ref t2, .ref t3, .ref t4, .ref t5, .ref t6, .ref t7, .ref t8, .int 0])), (en, .inr (3, [.ref fc, .ref nn, .int 0])), (fc, .inr (0, [.int 16777216, .ref fa, .int 0]))] := hD
  refine lv_iload_n hx hb d_Ker_reset_28 rfl (lv_at hl 0 rfl) ?_
  refine W.widen (k := 0) (n := 0) (Nat.le_of_ble_eq_true rfl) (Nat.le_of_ble_eq_true rfl) ?_
  exact W.iret (v := 0) hx hb hr (fun t ht hW => ⟨⟨0, (), rfl, rfl, trivial⟩, hS.F ht⟩) hS.2.2 d_Ker_reset_29
