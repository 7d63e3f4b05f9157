set_option maxHeartbeats 4000000 in
set_option maxRecDepth 100000 in
/-- Environment.fact -/
theorem c_Env_fact (l : Launch) (dC : Nat → ClassId) (dI : Nat → Nat → Nat) (en nn : Nat) (sz_ : Int32) (r q N n : Nat) (cA : ClassId) (f : Nat → Int32) (mo : Int32) (hn : n ≤ N) (hN : N < 2 ^ 31) (a b : Int32) : Met l y_Env_fact w_Env_fact ({ frames := 20, cells := 0, slots := 0, locals := 600 }) (Pp dC dI [.ref en, .int a, .int b] [(en, .inr (3, [.ref r, .ref nn, .int sz_])), (r, .inr (0, [.int mo, .ref q, .int (nI n)])), (q, .inl (cA, N, .inl f))] [(cA, .int)]) (QcRead (rowAt f n (a * 12 + b))) 0 0 (fun _ => False) := by
  refine Met.ofW (cc := b_Env_fact) (maxL := 3) (ret := (some .int)) (by decide) rfl ?_
  intro p e s m args below meth c s₁ B hml hv
  obtain ⟨rfl, hP, hK⟩ := hv
  have hx := B.exec
  have hb := B.bytes
  have hr := B.returns
  have hT : ∀ w ∈ vT, w.before _ s = true := fun w h => atoms_spec (ws := w_Env_fact) B.pre w (List.mem_cons_of_mem _ h)
  have hown : s.vm.findClass R_Env = some m.cls := findClass_of_methodNamed B.named
  have hlocks := B.notSynchronized
  have hP : va_P (dC, dI) classes [(en, .inr (3, [.ref r, .ref nn, .int sz_])), (r, .inr (0, [.int mo, .ref q, .int (nI n)])), (q, .inl (cA, N, .inl f))] s.heap := hP
  have hl := lv_entry ([.ref en, .int a, .int b]) (n := 3) (Nat.le_of_ble_eq_true rfl)
  rw [lg_entry_eq]
  generalize (lg_sl ([.ref en, .int a, .int b]) ++ List.replicate (3 - (lg_sl ([.ref en, .int a, .int b])).length) Slot.unset).toArray = ls at hl ⊢
  have hl : lv_has ls 3 [(0, .ref en), (1, .int a), (2, .int b)] := hl
  refine lv_aload_n hx hb d_Env_fact_0 rfl (lv_at hl 0 rfl) ?_
  refine va_get (D := (dC, dI)) (ci := 3) (v := .ref r) (C := R_Env) (T := T_Env) (N := 3) hx hb hT in_Env hown hK hP 0 rfl rfl 0 (by decide) (hT _ vt_105) (fun _ h9 => h9) rfl d_Env_fact_1 ?_
  refine lv_iload_n hx hb d_Env_fact_4 rfl (lv_at hl 1 rfl) ?_
  refine lv_bipush (v := 12) hx hb d_Env_fact_5 (by decide) ?_
  refine lv_imul hx hb d_Env_fact_7 ?_
  refine lv_iload_n hx hb d_Env_fact_8 rfl (lv_at hl 2 rfl) ?_
  refine lv_iadd hx hb d_Env_fact_9 ?_
  refine W.callR (W.runV (As := [.int ((a * 12) + b)]) (rest := []) ⟨hx, hb, hml, hown, hT⟩ (c_Row_at l dC dI r q N n cA f mo hn hN (a * 12 + b)) (cwV 1 hT (gV vt_466 vt_266 vt_267 vt_4 vt_268) rfl rfl rfl (by decide +kernel) ⟨Nat.le_of_ble_eq_true rfl, Nat.le_of_ble_eq_true rfl⟩) ⟨Pp_blind, va_recv hK hP (ci := 0) (q0 := 1) rfl rfl, Pp_of (hP.sub (ws' := [(r, .inr (0, [.int mo, .ref q, .int (nI n)])), (q, .inl (cA, N, .inl f))]) [1, 2] rfl) (hK.sub (tys' := [(cA, .int)]) [0] rfl)⟩ rfl rfl hl.1 rfl (lv_room (Nat.le_of_ble_eq_true rfl)) d_Env_fact_10 ⟨Nat.le_of_ble_eq_true rfl, Nat.le_of_ble_eq_true rfl⟩) ?_
  refine W.eq (g2 := F0 m 13 ls [.int (rowAt f n (a * 12 + b))]) rfl ?_
  exact W.iret (v := (rowAt f n (a * 12 + b))) hx hb hr (fun t ht hW => ⟨rfl, ht⟩) (fun _ h => nomatch h) d_Env_fact_13
set_option maxHeartbeats 4000000 in
set_option maxRecDepth 100000 in
/-- Environment.fix -/
theorem c_Env_fix (l : Launch) (dC : Nat → ClassId) (dI : Nat → Nat → Nat) (sz : Nat) (en nn : Nat) (sz_ : Int32) (r q N n : Nat) (cA : ClassId) (f : Nat → Int32) (mo : Int32) (hn : n ≤ N) (hN : N < 2 ^ 31) (a b v : Int32) : Met l y_Env_fix w_Env_fix ({ frames := 20, cells := 0, slots := 0, locals := 600 }) (Pw dC dI [.ref en, .int a, .int b, .int v] sz [(en, .inr (3, [.ref r, .ref nn, .int sz_])), (r, .inr (0, [.int mo, .ref q, .int (nI n)])), (q, .inl (cA, N, .inl f))] [(cA, .int)]) (va_Qv (fun _ : Unit => True) (fun _ t => va_P (dC, dI) classes [(en, .inr (3, [.ref r, .ref nn, .int sz_])), (r, .inr (0, [.int mo, .ref q, .int (nI n)])), (q, .inl (cA, N, .inl (rowPut f n (a * 12 + b) v)))] t.heap ∧ va_K (dC, dI) classes [(cA, .int)] t ∧ va_D (va_A [(en, .inr (3, [.ref r, .ref nn, .int sz_])), (r, .inr (0, [.int mo, .ref q, .int (nI n)])), (q, .inl (cA, N, .inl f))] sz) [(en, .inr (3, [.ref r, .ref nn, .int sz_])), (r, .inr (0, [.int mo, .ref q, .int (nI n)])), (q, .inl (cA, N, .inl (rowPut f n (a * 12 + b) v)))]) (va_A [(en, .inr (3, [.ref r, .ref nn, .int sz_])), (r, .inr (0, [.int mo, .ref q, .int (nI n)])), (q, .inl (cA, N, .inl f))] sz)) 0 0 (va_A [(en, .inr (3, [.ref r, .ref nn, .int sz_])), (r, .inr (0, [.int mo, .ref q, .int (nI n)])), (q, .inl (cA, N, .inl f))] sz) := by
  refine Met.ofW (cc := b_Env_fix) (maxL := 4) (ret := none) (by decide) rfl ?_
  intro p e s m args below meth c s₁ B hml hv
  obtain ⟨rfl, hsz, hP, hK, hD0⟩ := hv
  have hx := B.exec
  have hb := B.bytes
  have hr := B.returns
  have hT : ∀ w ∈ vT, w.before _ s = true := fun w h => atoms_spec (ws := w_Env_fix) B.pre w (List.mem_cons_of_mem _ h)
  have hown : s.vm.findClass R_Env = some m.cls := findClass_of_methodNamed B.named
  have hlocks := B.notSynchronized
  subst hsz
  have hD := hD0.self (sz := s.heap.size)
  generalize hAe : va_A [(en, .inr (3, [.ref r, .ref nn, .int sz_])), (r, .inr (0, [.int mo, .ref q, .int (nI n)])), (q, .inl (cA, N, .inl f))] s.heap.size = A at hD ⊢
  have hA : ∀ q : Nat, s.heap.size ≤ q → A q := fun q h => by rw [← hAe]; exact Or.inr h
  have hS : va_S A s.heap s.heap [] := va_S.rf
  have hP : va_P (dC, dI) classes [(en, .inr (3, [.ref r, .ref nn, .int sz_])), (r, .inr (0, [.int mo, .ref q, .int (nI n)])), (q, .inl (cA, N, .inl f))] s.heap := hP
  have hl := lv_entry ([.ref en, .int a, .int b, .int v]) (n := 4) (Nat.le_of_ble_eq_true rfl)
  rw [lg_entry_eq]
  generalize (lg_sl ([.ref en, .int a, .int b, .int v]) ++ List.replicate (4 - (lg_sl ([.ref en, .int a, .int b, .int v])).length) Slot.unset).toArray = ls at hl ⊢
  have hl : lv_has ls 4 [(0, .ref en), (1, .int a), (2, .int b), (3, .int v)] := hl
  refine lv_aload_n hx hb d_Env_fix_0 rfl (lv_at hl 0 rfl) ?_
  refine va_get (D := (dC, dI)) (ci := 3) (v := .ref r) (C := R_Env) (T := T_Env) (N := 3) hx hb hT in_Env hown hK hP 0 rfl rfl 0 (by decide) (hT _ vt_105) (fun _ h9 => h9) rfl d_Env_fix_1 ?_
  refine lv_iload_n hx hb d_Env_fix_4 rfl (lv_at hl 1 rfl) ?_
  refine lv_bipush (v := 12) hx hb d_Env_fix_5 (by decide) ?_
  refine lv_imul hx hb d_Env_fix_7 ?_
  refine lv_iload_n hx hb d_Env_fix_8 rfl (lv_at hl 2 rfl) ?_
  refine lv_iadd hx hb d_Env_fix_9 ?_
  refine lv_iload_n hx hb d_Env_fix_10 rfl (lv_at hl 3 rfl) ?_
  have hPc := hP.sub (ws' := [(r, .inr (0, [.int mo, .ref q, .int (nI n)])), (q, .inl (cA, N, .inl f))]) [1, 2] rfl
  have hDc := hD.sub (ws' := [(r, .inr (0, [.int mo, .ref q, .int (nI n)])), (q, .inl (cA, N, .inl f))]) [1, 2] (by decide) rfl
  have hKc := hK.sub (tys' := [(cA, .int)]) [0] rfl
  have hFc := va_free (wc := [(r, .inr (0, [.int mo, .ref q, .int (nI n)])), (q, .inl (cA, N, .inl f))]) hD hS hA [1, 2] rfl
  refine va_callv (va_runV (As := [.int ((a * 12) + b), .int v]) (rest := []) ⟨hx, hb, hml, hown, hT⟩ (c_Row_put l dC dI s.heap.size r q N n cA f mo hn hN (a * 12 + b) v) (cwV 2 hT (gV vt_487 vt_488 vt_489 vt_4 vt_490) rfl rfl rfl (by decide +kernel) ⟨Nat.le_of_ble_eq_true rfl, Nat.le_of_ble_eq_true rfl⟩) ⟨Pw_blind, va_recv hK hP (ci := 0) (q0 := 1) rfl rfl, Pw_of hPc hKc hDc⟩ rfl rfl hl.1 rfl (lv_room (Nat.le_of_ble_eq_true rfl)) d_Env_fix_11 ⟨Nat.le_of_ble_eq_true rfl, Nat.le_of_ble_eq_true rfl⟩) hS (fun q _ h => hFc q h) hFc (fun u t H1 locs ht hvm hw hB hz1 hk1 hS => ?_)
  obtain ⟨hP1, hK1, hD1⟩ := hB
  rw [ht] at hP1
  have hK1 := va_K.moved hvm.symm hK1
  obtain ⟨hP, hD⟩ := va_join (wr := [(en, .inr (3, [.ref r, .ref nn, .int sz_]))]) (w1 := [(r, .inr (0, [.int mo, .ref q, .int (nI n)])), (q, .inl (cA, N, .inl (rowPut f n (a * 12 + b) v)))]) hP hD [1, 2] [0] rfl rfl (by decide) (by decide) hk1 hFc hP1 hD1
  generalize H1 = H at hP hS ⊢
  have hP : va_P (dC, dI) classes [(en, .inr (3, [.ref r, .ref nn, .int sz_])), (r, .inr (0, [.int mo, .ref q, .int (nI n)])), (q, .inl (cA, N, .inl (rowPut f n (a * 12 + b) v)))] H := hP
  have hD : va_D A [(en, .inr (3, [.ref r, .ref nn, .int sz_])), (r, .inr (0, [.int mo, .ref q, .int (nI n)])), (q, .inl (cA, N, .inl (rowPut f n (a * 12 + b) v)))] := hD
  refine W.widen (k := 0) (n := 0) (Nat.le_of_ble_eq_true rfl) (Nat.le_of_ble_eq_true rfl) ?_
  refine W.widen (k := 0) (n := 0) (Nat.le_of_ble_eq_true rfl) (Nat.le_of_ble_eq_true rfl) ?_
  have hP9 := hP.sub (ws' := [(en, .inr (3, [.ref r, .ref nn, .int sz_])), (r, .inr (0, [.int mo, .ref q, .int (nI n)])), (q, .inl (cA, N, .inl (rowPut f n (a * 12 + b) v)))]) [0, 1, 2] rfl
  have hD9 := hD.sub (ws' := [(en, .inr (3, [.ref r, .ref nn, .int sz_])), (r, .inr (0, [.int mo, .ref q, .int (nI n)])), (q, .inl (cA, N, .inl (rowPut f n (a * 12 + b) v)))]) [0, 1, 2] (by decide) rfl
  have hK9 := hK.sub (tys' := [(cA, .int)]) [0] rfl
  exact W.vret hx hb hr (fun t ht hW => ⟨⟨(), rfl, trivial, by rw [ht]; exact hP9, va_K.moved hW.alike hK9, hD9⟩, hS.F ht⟩) hS.2.2 d_Env_fix_14
set_option maxHeartbeats 4000000 in
set_option maxRecDepth 100000 in
/-- Environment.length -/
theorem c_Env_length (l : Launch) (dC : Nat → ClassId) (dI : Nat → Nat → Nat) (en nn : Nat) (sz_ : Int32) (r q n : Nat) (mo : Int32) : Met l y_Env_length w_Env_length ({ frames := 20, cells := 0, slots := 0, locals := 600 }) (Pp dC dI [.ref en] [(en, .inr (3, [.ref r, .ref nn, .int sz_])), (r, .inr (0, [.int mo, .ref q, .int (nI n)]))] []) (QcRead (nI n / 12)) 0 0 (fun _ => False) := by
  refine Met.ofW (cc := b_Env_length) (maxL := 1) (ret := (some .int)) (by decide) rfl ?_
  intro p e s m args below meth c s₁ B hml hv
  obtain ⟨rfl, hP, hK⟩ := hv
  have hx := B.exec
  have hb := B.bytes
  have hr := B.returns
  have hT : ∀ w ∈ vT, w.before _ s = true := fun w h => atoms_spec (ws := w_Env_length) B.pre w (List.mem_cons_of_mem _ h)
  have hown : s.vm.findClass R_Env = some m.cls := findClass_of_methodNamed B.named
  have hlocks := B.notSynchronized
  have hP : va_P (dC, dI) classes [(en, .inr (3, [.ref r, .ref nn, .int sz_])), (r, .inr (0, [.int mo, .ref q, .int (nI n)]))] s.heap := hP
  have hl := lv_entry ([.ref en]) (n := 1) (Nat.le_of_ble_eq_true rfl)
  rw [lg_entry_eq]
  generalize (lg_sl ([.ref en]) ++ List.replicate (1 - (lg_sl ([.ref en])).length) Slot.unset).toArray = ls at hl ⊢
  have hl : lv_has ls 1 [(0, .ref en)] := hl
  refine lv_aload_n hx hb d_Env_length_0 rfl (lv_at hl 0 rfl) ?_
  refine va_get (D := (dC, dI)) (ci := 3) (v := .ref r) (C := R_Env) (T := T_Env) (N := 3) hx hb hT in_Env hown hK hP 0 rfl rfl 0 (by decide) (hT _ vt_105) (fun _ h9 => h9) rfl d_Env_length_1 ?_
  refine W.callR (W.runV (As := []) (rest := []) ⟨hx, hb, hml, hown, hT⟩ (c_Row_size l dC dI r q n mo) (cwV 0 hT (gV vt_323 vt_270 vt_271 vt_4 vt_272) rfl rfl rfl (by decide +kernel) ⟨Nat.le_of_ble_eq_true rfl, Nat.le_of_ble_eq_true rfl⟩) ⟨Pp_blind, va_recv hK hP (ci := 0) (q0 := 1) rfl rfl, Pp_of (hP.sub (ws' := [(r, .inr (0, [.int mo, .ref q, .int (nI n)]))]) [1] rfl) (hK.sub (tys' := []) [] rfl)⟩ rfl rfl hl.1 rfl (lv_room (Nat.le_of_ble_eq_true rfl)) d_Env_length_4 ⟨Nat.le_of_ble_eq_true rfl, Nat.le_of_ble_eq_true rfl⟩) ?_
  refine W.eq (g2 := F0 m 7 ls [.int (nI n)]) rfl ?_
  refine lv_bipush (v := 12) hx hb d_Env_length_7 (by decide) ?_
  refine lv_idiv hx hb d_Env_length_9 (by decide) ?_
  exact W.iret (v := (nI n / 12)) hx hb hr (fun t ht hW => ⟨rfl, ht⟩) (fun _ h => nomatch h) d_Env_length_10
set_option maxHeartbeats 4000000 in
set_option maxRecDepth 100000 in
/-- Environment.sizes -/
theorem c_Env_sizes (l : Launch) (dC : Nat → ClassId) (dI : Nat → Nat → Nat) (en nn r : Nat) (sz_ : Int32) : Met l y_Env_sizes w_Env_sizes ({ frames := 10, cells := 0, slots := 0, locals := 300 }) (Pp dC dI [.ref en] [(en, .inr (3, [.ref r, .ref nn, .int sz_]))] []) (QcRead sz_) 0 0 (fun _ => False) := by
  refine Met.ofW (cc := b_Env_sizes) (maxL := 1) (ret := (some .int)) (by decide) rfl ?_
  intro p e s m args below meth c s₁ B hml hv
  obtain ⟨rfl, hP, hK⟩ := hv
  have hx := B.exec
  have hb := B.bytes
  have hr := B.returns
  have hT : ∀ w ∈ vT, w.before _ s = true := fun w h => atoms_spec (ws := w_Env_sizes) B.pre w (List.mem_cons_of_mem _ h)
  have hown : s.vm.findClass R_Env = some m.cls := findClass_of_methodNamed B.named
  have hlocks := B.notSynchronized
  have hP : va_P (dC, dI) classes [(en, .inr (3, [.ref r, .ref nn, .int sz_]))] s.heap := hP
  have hl := lv_entry ([.ref en]) (n := 1) (Nat.le_of_ble_eq_true rfl)
  rw [lg_entry_eq]
  generalize (lg_sl ([.ref en]) ++ List.replicate (1 - (lg_sl ([.ref en])).length) Slot.unset).toArray = ls at hl ⊢
  have hl : lv_has ls 1 [(0, .ref en)] := hl
  refine lv_aload_n hx hb d_Env_sizes_0 rfl (lv_at hl 0 rfl) ?_
  refine va_get (D := (dC, dI)) (ci := 3) (v := .int sz_) (C := R_Env) (T := T_Env) (N := 3) hx hb hT in_Env hown hK hP 0 rfl rfl 2 (by decide) (hT _ vt_1108) (fun _ h9 => h9) rfl d_Env_sizes_1 ?_
  exact W.iret (v := sz_) hx hb hr (fun t ht hW => ⟨rfl, ht⟩) (fun _ h => nomatch h) d_Env_sizes_4
set_option maxHeartbeats 4000000 in
set_option maxRecDepth 100000 in
/-- Environment.addSizes -/
theorem c_Env_addSizes (l : Launch) (dC : Nat → ClassId) (dI : Nat → Nat → Nat) (sz : Nat) (en nn r : Nat) (sz_ a : Int32) : Met l y_Env_addSizes w_Env_addSizes ({ frames := 10, cells := 0, slots := 0, locals := 300 }) (Pw dC dI [.ref en, .int a] sz [(en, .inr (3, [.ref r, .ref nn, .int sz_]))] []) (va_Qv (fun _ : Unit => True) (fun _ t => va_P (dC, dI) classes [(en, .inr (3, [.ref r, .ref nn, .int (sz_ + a)]))] t.heap ∧ va_K (dC, dI) classes [] t ∧ va_D (va_A [(en, .inr (3, [.ref r, .ref nn, .int sz_]))] sz) [(en, .inr (3, [.ref r, .ref nn, .int (sz_ + a)]))]) (va_A [(en, .inr (3, [.ref r, .ref nn, .int sz_]))] sz)) 0 0 (va_A [(en, .inr (3, [.ref r, .ref nn, .int sz_]))] sz) := by
  refine Met.ofW (cc := b_Env_addSizes) (maxL := 2) (ret := none) (by decide) rfl ?_
  intro p e s m args below meth c s₁ B hml hv
  obtain ⟨rfl, hsz, hP, hK, hD0⟩ := hv
  have hx := B.exec
  have hb := B.bytes
  have hr := B.returns
  have hT : ∀ w ∈ vT, w.before _ s = true := fun w h => atoms_spec (ws := w_Env_addSizes) B.pre w (List.mem_cons_of_mem _ h)
  have hown : s.vm.findClass R_Env = some m.cls := findClass_of_methodNamed B.named
  have hlocks := B.notSynchronized
  subst hsz
  have hD := hD0.self (sz := s.heap.size)
  generalize hAe : va_A [(en, .inr (3, [.ref r, .ref nn, .int sz_]))] s.heap.size = A at hD ⊢
  have hA : ∀ q : Nat, s.heap.size ≤ q → A q := fun q h => by rw [← hAe]; exact Or.inr h
  have hS : va_S A s.heap s.heap [] := va_S.rf
  have hP : va_P (dC, dI) classes [(en, .inr (3, [.ref r, .ref nn, .int sz_]))] s.heap := hP
  have hl := lv_entry ([.ref en, .int a]) (n := 2) (Nat.le_of_ble_eq_true rfl)
  rw [lg_entry_eq]
  generalize (lg_sl ([.ref en, .int a]) ++ List.replicate (2 - (lg_sl ([.ref en, .int a])).length) Slot.unset).toArray = ls at hl ⊢
  have hl : lv_has ls 2 [(0, .ref en), (1, .int a)] := hl
  refine lv_aload_n hx hb d_Env_addSizes_0 rfl (lv_at hl 0 rfl) ?_
  refine lv_dup hx hb d_Env_addSizes_1 rfl ?_
  refine va_get (D := (dC, dI)) (ci := 3) (v := .int sz_) (C := R_Env) (T := T_Env) (N := 3) hx hb hT in_Env hown hK hP 0 rfl rfl 2 (by decide) (hT _ vt_1108) (fun _ h9 => h9) rfl d_Env_addSizes_2 ?_
  refine lv_iload_n hx hb d_Env_addSizes_5 rfl (lv_at hl 1 rfl) ?_
  refine lv_iadd hx hb d_Env_addSizes_6 ?_
  refine va_put (D := (dC, dI)) (ci := 3) (v := .int (sz_ + a)) (ty := .int) (C := R_Env) (T := T_Env) (N := 3) hx hb hT in_Env ty_Env tyo_Env nm_Env hown hK hP hD hS 0 rfl rfl 2 (by decide) (hT _ vt_1108) (fun _ h9 => h9) rfl (by decide +kernel) rfl rfl (Nat.le_of_ble_eq_true rfl) d_Env_addSizes_7 (fun H locs hP hD hS => ?_)
  have hP : va_P (dC, dI) classes [(en, .inr (3, [.ref r, .ref nn, .int (sz_ + a)]))] H := hP
  have hD : va_D A [(en, .inr (3, [.ref r, .ref nn, .int (sz_ + a)]))] := hD
  refine W.widen (k := 0) (n := 0) (Nat.le_of_ble_eq_true rfl) (Nat.le_of_ble_eq_true rfl) ?_
  have hP9 := hP.sub (ws' := [(en, .inr (3, [.ref r, .ref nn, .int (sz_ + a)]))]) [0] rfl
  have hD9 := hD.sub (ws' := [(en, .inr (3, [.ref r, .ref nn, .int (sz_ + a)]))]) [0] (by decide) rfl
  have hK9 := hK.sub (tys' := []) [] rfl
  exact W.vret hx hb hr (fun t ht hW => ⟨⟨(), rfl, trivial, by rw [ht]; exact hP9, va_K.moved hW.alike hK9, hD9⟩, hS.F ht⟩) hS.2.2 d_Env_addSizes_10
