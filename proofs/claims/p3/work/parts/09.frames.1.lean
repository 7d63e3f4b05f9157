set_option maxHeartbeats 4000000 in
set_option maxRecDepth 100000 in
/-- Frames.top -/
theorem c_Fra_top (l : Launch) (dC : Nat → ClassId) (dI : Nat → Nat → Nat) (fr ty_ : Nat) (rs : Int32) (r q N n : Nat) (cA : ClassId) (f : Nat → Int32) (mo : Int32) (hn : n ≤ N) (hN : N < 2 ^ 31) (a : Int32) : Met l y_Fra_top w_Fra_top ({ frames := 20, cells := 0, slots := 0, locals := 600 }) (Pp dC dI [.ref fr, .int a] [(fr, .inr (6, [.ref r, .ref ty_, .int rs])), (r, .inr (0, [.int mo, .ref q, .int (nI n)])), (q, .inl (cA, N, .inl f))] [(cA, .int)]) (QcRead (rowAt f n (nI n - 5 + a))) 0 0 (fun _ => False) := by
  refine Met.ofW (cc := b_Fra_top) (maxL := 2) (ret := (some .int)) (by decide) rfl ?_
  intro p e s m args below meth c s₁ B hml hv
  obtain ⟨rfl, hP, hK⟩ := hv
  have hx := B.exec
  have hb := B.bytes
  have hr := B.returns
  have hT : ∀ w ∈ vT, w.before _ s = true := fun w h => atoms_spec (ws := w_Fra_top) B.pre w (List.mem_cons_of_mem _ h)
  have hown : s.vm.findClass R_Fra = some m.cls := findClass_of_methodNamed B.named
  have hlocks := B.notSynchronized
  have hP : va_P (dC, dI) classes [(fr, .inr (6, [.ref r, .ref ty_, .int rs])), (r, .inr (0, [.int mo, .ref q, .int (nI n)])), (q, .inl (cA, N, .inl f))] s.heap := hP
  have hl := lv_entry ([.ref fr, .int a]) (n := 2) (Nat.le_of_ble_eq_true rfl)
  rw [lg_entry_eq]
  generalize (lg_sl ([.ref fr, .int a]) ++ List.replicate (2 - (lg_sl ([.ref fr, .int a])).length) Slot.unset).toArray = ls at hl ⊢
  have hl : lv_has ls 2 [(0, .ref fr), (1, .int a)] := hl
  refine lv_aload_n hx hb d_Fra_top_0 rfl (lv_at hl 0 rfl) ?_
  refine va_get (D := (dC, dI)) (ci := 6) (v := .ref r) (C := R_Fra) (T := T_Fra) (N := 3) hx hb hT in_Fra hown hK hP 0 rfl rfl 0 (by decide) (hT _ vt_130) (fun _ h9 => h9) rfl d_Fra_top_1 ?_
  refine lv_aload_n hx hb d_Fra_top_4 rfl (lv_at hl 0 rfl) ?_
  refine va_get (D := (dC, dI)) (ci := 6) (v := .ref r) (C := R_Fra) (T := T_Fra) (N := 3) hx hb hT in_Fra hown hK hP 0 rfl rfl 0 (by decide) (hT _ vt_130) (fun _ h9 => h9) rfl d_Fra_top_5 ?_
  refine W.callR (W.runV (As := []) (rest := [.ref r]) ⟨hx, hb, hml, hown, hT⟩ (c_Row_size l dC dI r q n mo) (cwV 0 hT (gV vt_823 vt_270 vt_271 vt_4 vt_272) rfl rfl rfl (by decide +kernel) ⟨Nat.le_of_ble_eq_true rfl, Nat.le_of_ble_eq_true rfl⟩) ⟨Pp_blind, va_recv hK hP (ci := 0) (q0 := 1) rfl rfl, Pp_of (hP.sub (ws' := [(r, .inr (0, [.int mo, .ref q, .int (nI n)]))]) [1] rfl) (hK.sub (tys' := []) [] rfl)⟩ rfl rfl hl.1 rfl (lv_room (Nat.le_of_ble_eq_true rfl)) d_Fra_top_8 ⟨Nat.le_of_ble_eq_true rfl, Nat.le_of_ble_eq_true rfl⟩) ?_
  refine W.eq (g2 := F0 m 11 ls [.int (nI n), .ref r]) rfl ?_
  refine lv_iconst (v := 5) hx hb d_Fra_top_11 (by decide) ?_
  refine lv_isub hx hb d_Fra_top_12 ?_
  refine lv_iload_n hx hb d_Fra_top_13 rfl (lv_at hl 1 rfl) ?_
  refine lv_iadd hx hb d_Fra_top_14 ?_
  refine W.callR (W.runV (As := [.int (((nI n) - 5) + a)]) (rest := []) ⟨hx, hb, hml, hown, hT⟩ (c_Row_at l dC dI r q N n cA f mo hn hN (nI n - 5 + a)) (cwV 1 hT (gV vt_824 vt_266 vt_267 vt_4 vt_268) rfl rfl rfl (by decide +kernel) ⟨Nat.le_of_ble_eq_true rfl, Nat.le_of_ble_eq_true rfl⟩) ⟨Pp_blind, va_recv hK hP (ci := 0) (q0 := 1) rfl rfl, Pp_of (hP.sub (ws' := [(r, .inr (0, [.int mo, .ref q, .int (nI n)])), (q, .inl (cA, N, .inl f))]) [1, 2] rfl) (hK.sub (tys' := [(cA, .int)]) [0] rfl)⟩ rfl rfl hl.1 rfl (lv_room (Nat.le_of_ble_eq_true rfl)) d_Fra_top_15 ⟨Nat.le_of_ble_eq_true rfl, Nat.le_of_ble_eq_true rfl⟩) ?_
  refine W.eq (g2 := F0 m 18 ls [.int (rowAt f n (nI n - 5 + a))]) rfl ?_
  exact W.iret (v := (rowAt f n (nI n - 5 + a))) hx hb hr (fun t ht hW => ⟨rfl, ht⟩) (fun _ h => nomatch h) d_Fra_top_18
set_option maxHeartbeats 4000000 in
set_option maxRecDepth 100000 in
/-- Frames.set -/
theorem c_Fra_set (l : Launch) (dC : Nat → ClassId) (dI : Nat → Nat → Nat) (sz : Nat) (fr ty_ : Nat) (rs : Int32) (r q N n : Nat) (cA : ClassId) (f : Nat → Int32) (mo : Int32) (hn : n ≤ N) (hN : N < 2 ^ 31) (a v : Int32) : Met l y_Fra_set w_Fra_set ({ frames := 20, cells := 0, slots := 0, locals := 600 }) (Pw dC dI [.ref fr, .int a, .int v] sz [(fr, .inr (6, [.ref r, .ref ty_, .int rs])), (r, .inr (0, [.int mo, .ref q, .int (nI n)])), (q, .inl (cA, N, .inl f))] [(cA, .int)]) (va_Qv (fun _ : Unit => True) (fun _ t => va_P (dC, dI) classes [(fr, .inr (6, [.ref r, .ref ty_, .int rs])), (r, .inr (0, [.int mo, .ref q, .int (nI n)])), (q, .inl (cA, N, .inl (rowPut f n (nI n - 5 + a) v)))] t.heap ∧ va_K (dC, dI) classes [(cA, .int)] t ∧ va_D (va_A [(fr, .inr (6, [.ref r, .ref ty_, .int rs])), (r, .inr (0, [.int mo, .ref q, .int (nI n)])), (q, .inl (cA, N, .inl f))] sz) [(fr, .inr (6, [.ref r, .ref ty_, .int rs])), (r, .inr (0, [.int mo, .ref q, .int (nI n)])), (q, .inl (cA, N, .inl (rowPut f n (nI n - 5 + a) v)))]) (va_A [(fr, .inr (6, [.ref r, .ref ty_, .int rs])), (r, .inr (0, [.int mo, .ref q, .int (nI n)])), (q, .inl (cA, N, .inl f))] sz)) 0 0 (va_A [(fr, .inr (6, [.ref r, .ref ty_, .int rs])), (r, .inr (0, [.int mo, .ref q, .int (nI n)])), (q, .inl (cA, N, .inl f))] sz) := by
  refine Met.ofW (cc := b_Fra_set) (maxL := 3) (ret := none) (by decide) rfl ?_
  intro p e s m args below meth c s₁ B hml hv
  obtain ⟨rfl, hsz, hP, hK, hD0⟩ := hv
  have hx := B.exec
  have hb := B.bytes
  have hr := B.returns
  have hT : ∀ w ∈ vT, w.before _ s = true := fun w h => atoms_spec (ws := w_Fra_set) B.pre w (List.mem_cons_of_mem _ h)
  have hown : s.vm.findClass R_Fra = some m.cls := findClass_of_methodNamed B.named
  have hlocks := B.notSynchronized
  subst hsz
  have hD := hD0.self (sz := s.heap.size)
  generalize hAe : va_A [(fr, .inr (6, [.ref r, .ref ty_, .int rs])), (r, .inr (0, [.int mo, .ref q, .int (nI n)])), (q, .inl (cA, N, .inl f))] s.heap.size = A at hD ⊢
  have hA : ∀ q : Nat, s.heap.size ≤ q → A q := fun q h => by rw [← hAe]; exact Or.inr h
  have hS : va_S A s.heap s.heap [] := va_S.rf
  have hP : va_P (dC, dI) classes [(fr, .inr (6, [.ref r, .ref ty_, .int rs])), (r, .inr (0, [.int mo, .ref q, .int (nI n)])), (q, .inl (cA, N, .inl f))] s.heap := hP
  have hl := lv_entry ([.ref fr, .int a, .int v]) (n := 3) (Nat.le_of_ble_eq_true rfl)
  rw [lg_entry_eq]
  generalize (lg_sl ([.ref fr, .int a, .int v]) ++ List.replicate (3 - (lg_sl ([.ref fr, .int a, .int v])).length) Slot.unset).toArray = ls at hl ⊢
  have hl : lv_has ls 3 [(0, .ref fr), (1, .int a), (2, .int v)] := hl
  refine lv_aload_n hx hb d_Fra_set_0 rfl (lv_at hl 0 rfl) ?_
  refine va_get (D := (dC, dI)) (ci := 6) (v := .ref r) (C := R_Fra) (T := T_Fra) (N := 3) hx hb hT in_Fra hown hK hP 0 rfl rfl 0 (by decide) (hT _ vt_130) (fun _ h9 => h9) rfl d_Fra_set_1 ?_
  refine lv_aload_n hx hb d_Fra_set_4 rfl (lv_at hl 0 rfl) ?_
  refine va_get (D := (dC, dI)) (ci := 6) (v := .ref r) (C := R_Fra) (T := T_Fra) (N := 3) hx hb hT in_Fra hown hK hP 0 rfl rfl 0 (by decide) (hT _ vt_130) (fun _ h9 => h9) rfl d_Fra_set_5 ?_
  refine W.callR (W.runV (As := []) (rest := [.ref r]) ⟨hx, hb, hml, hown, hT⟩ (c_Row_size l dC dI r q n mo) (cwV 0 hT (gV vt_823 vt_270 vt_271 vt_4 vt_272) rfl rfl rfl (by decide +kernel) ⟨Nat.le_of_ble_eq_true rfl, Nat.le_of_ble_eq_true rfl⟩) ⟨Pp_blind, va_recv hK hP (ci := 0) (q0 := 1) rfl rfl, Pp_of (hP.sub (ws' := [(r, .inr (0, [.int mo, .ref q, .int (nI n)]))]) [1] rfl) (hK.sub (tys' := []) [] rfl)⟩ rfl rfl hl.1 rfl (lv_room (Nat.le_of_ble_eq_true rfl)) d_Fra_set_8 ⟨Nat.le_of_ble_eq_true rfl, Nat.le_of_ble_eq_true rfl⟩) ?_
  refine W.eq (g2 := F0 m 11 ls [.int (nI n), .ref r]) rfl ?_
  refine lv_iconst (v := 5) hx hb d_Fra_set_11 (by decide) ?_
  refine lv_isub hx hb d_Fra_set_12 ?_
  refine lv_iload_n hx hb d_Fra_set_13 rfl (lv_at hl 1 rfl) ?_
  refine lv_iadd hx hb d_Fra_set_14 ?_
  refine lv_iload_n hx hb d_Fra_set_15 rfl (lv_at hl 2 rfl) ?_
  have hPc := hP.sub (ws' := [(r, .inr (0, [.int mo, .ref q, .int (nI n)])), (q, .inl (cA, N, .inl f))]) [1, 2] rfl
  have hDc := hD.sub (ws' := [(r, .inr (0, [.int mo, .ref q, .int (nI n)])), (q, .inl (cA, N, .inl f))]) [1, 2] (by decide) rfl
  have hKc := hK.sub (tys' := [(cA, .int)]) [0] rfl
  have hFc := va_free (wc := [(r, .inr (0, [.int mo, .ref q, .int (nI n)])), (q, .inl (cA, N, .inl f))]) hD hS hA [1, 2] rfl
  refine va_callv (va_runV (As := [.int (((nI n) - 5) + a), .int v]) (rest := []) ⟨hx, hb, hml, hown, hT⟩ (c_Row_put l dC dI s.heap.size r q N n cA f mo hn hN (nI n - 5 + a) v) (cwV 2 hT (gV vt_878 vt_488 vt_489 vt_4 vt_490) rfl rfl rfl (by decide +kernel) ⟨Nat.le_of_ble_eq_true rfl, Nat.le_of_ble_eq_true rfl⟩) ⟨Pw_blind, va_recv hK hP (ci := 0) (q0 := 1) rfl rfl, Pw_of hPc hKc hDc⟩ rfl rfl hl.1 rfl (lv_room (Nat.le_of_ble_eq_true rfl)) d_Fra_set_16 ⟨Nat.le_of_ble_eq_true rfl, Nat.le_of_ble_eq_true rfl⟩) hS (fun q _ h => hFc q h) hFc (fun u t H1 locs ht hvm hw hB hz1 hk1 hS => ?_)
  obtain ⟨hP1, hK1, hD1⟩ := hB
  rw [ht] at hP1
  have hK1 := va_K.moved hvm.symm hK1
  obtain ⟨hP, hD⟩ := va_join (wr := [(fr, .inr (6, [.ref r, .ref ty_, .int rs]))]) (w1 := [(r, .inr (0, [.int mo, .ref q, .int (nI n)])), (q, .inl (cA, N, .inl (rowPut f n (nI n - 5 + a) v)))]) hP hD [1, 2] [0] rfl rfl (by decide) (by decide) hk1 hFc hP1 hD1
  generalize H1 = H at hP hS ⊢
  have hP : va_P (dC, dI) classes [(fr, .inr (6, [.ref r, .ref ty_, .int rs])), (r, .inr (0, [.int mo, .ref q, .int (nI n)])), (q, .inl (cA, N, .inl (rowPut f n (nI n - 5 + a) v)))] H := hP
  have hD : va_D A [(fr, .inr (6, [.ref r, .ref ty_, .int rs])), (r, .inr (0, [.int mo, .ref q, .int (nI n)])), (q, .inl (cA, N, .inl (rowPut f n (nI n - 5 + a) v)))] := hD
  refine W.widen (k := 0) (n := 0) (Nat.le_of_ble_eq_true rfl) (Nat.le_of_ble_eq_true rfl) ?_
  refine W.widen (k := 0) (n := 0) (Nat.le_of_ble_eq_true rfl) (Nat.le_of_ble_eq_true rfl) ?_
  have hP9 := hP.sub (ws' := [(fr, .inr (6, [.ref r, .ref ty_, .int rs])), (r, .inr (0, [.int mo, .ref q, .int (nI n)])), (q, .inl (cA, N, .inl (rowPut f n (nI n - 5 + a) v)))]) [0, 1, 2] rfl
  have hD9 := hD.sub (ws' := [(fr, .inr (6, [.ref r, .ref ty_, .int rs])), (r, .inr (0, [.int mo, .ref q, .int (nI n)])), (q, .inl (cA, N, .inl (rowPut f n (nI n - 5 + a) v)))]) [0, 1, 2] (by decide) rfl
  have hK9 := hK.sub (tys' := [(cA, .int)]) [0] rfl
  exact W.vret hx hb hr (fun t ht hW => ⟨⟨(), rfl, trivial, by rw [ht]; exact hP9, va_K.moved hW.alike hK9, hD9⟩, hS.F ht⟩) hS.2.2 d_Fra_set_19
set_option maxHeartbeats 4000000 in
set_option maxRecDepth 100000 in
/-- Frames.pop -/
theorem c_Fra_pop (l : Launch) (dC : Nat → ClassId) (dI : Nat → Nat → Nat) (sz : Nat) (fr ty_ : Nat) (rs : Int32) (r q N n : Nat) (cA : ClassId) (f : Nat → Int32) (mo : Int32) (hn : n ≤ N) (hN : N < 2 ^ 31) : Met l y_Fra_pop w_Fra_pop ({ frames := 20, cells := 0, slots := 0, locals := 600 }) (Pw dC dI [.ref fr] sz [(fr, .inr (6, [.ref r, .ref ty_, .int rs])), (r, .inr (0, [.int mo, .ref q, .int (nI n)])), (q, .inl (cA, N, .inl f))] [(cA, .int)]) (va_Qv (fun _ : Unit => True) (fun _ t => va_P (dC, dI) classes [(fr, .inr (6, [.ref r, .ref ty_, .int rs])), (r, .inr (0, [.int mo, .ref q, .int (nI (rowCut n (nI n - 5)))])), (q, .inl (cA, N, .inl f))] t.heap ∧ va_K (dC, dI) classes [(cA, .int)] t ∧ va_D (va_A [(fr, .inr (6, [.ref r, .ref ty_, .int rs])), (r, .inr (0, [.int mo, .ref q, .int (nI n)])), (q, .inl (cA, N, .inl f))] sz) [(fr, .inr (6, [.ref r, .ref ty_, .int rs])), (r, .inr (0, [.int mo, .ref q, .int (nI (rowCut n (nI n - 5)))])), (q, .inl (cA, N, .inl f))]) (va_A [(fr, .inr (6, [.ref r, .ref ty_, .int rs])), (r, .inr (0, [.int mo, .ref q, .int (nI n)])), (q, .inl (cA, N, .inl f))] sz)) 0 0 (va_A [(fr, .inr (6, [.ref r, .ref ty_, .int rs])), (r, .inr (0, [.int mo, .ref q, .int (nI n)])), (q, .inl (cA, N, .inl f))] sz) := by
  refine Met.ofW (cc := b_Fra_pop) (maxL := 1) (ret := none) (by decide) rfl ?_
  intro p e s m args below meth c s₁ B hml hv
  obtain ⟨rfl, hsz, hP, hK, hD0⟩ := hv
  have hx := B.exec
  have hb := B.bytes
  have hr := B.returns
  have hT : ∀ w ∈ vT, w.before _ s = true := fun w h => atoms_spec (ws := w_Fra_pop) B.pre w (List.mem_cons_of_mem _ h)
  have hown : s.vm.findClass R_Fra = some m.cls := findClass_of_methodNamed B.named
  have hlocks := B.notSynchronized
  subst hsz
  have hD := hD0.self (sz := s.heap.size)
  generalize hAe : va_A [(fr, .inr (6, [.ref r, .ref ty_, .int rs])), (r, .inr (0, [.int mo, .ref q, .int (nI n)])), (q, .inl (cA, N, .inl f))] s.heap.size = A at hD ⊢
  have hA : ∀ q : Nat, s.heap.size ≤ q → A q := fun q h => by rw [← hAe]; exact Or.inr h
  have hS : va_S A s.heap s.heap [] := va_S.rf
  have hP : va_P (dC, dI) classes [(fr, .inr (6, [.ref r, .ref ty_, .int rs])), (r, .inr (0, [.int mo, .ref q, .int (nI n)])), (q, .inl (cA, N, .inl f))] s.heap := hP
  have hl := lv_entry ([.ref fr]) (n := 1) (Nat.le_of_ble_eq_true rfl)
  rw [lg_entry_eq]
  generalize (lg_sl ([.ref fr]) ++ List.replicate (1 - (lg_sl ([.ref fr])).length) Slot.unset).toArray = ls at hl ⊢
  have hl : lv_has ls 1 [(0, .ref fr)] := hl
  refine lv_aload_n hx hb d_Fra_pop_0 rfl (lv_at hl 0 rfl) ?_
  refine va_get (D := (dC, dI)) (ci := 6) (v := .ref r) (C := R_Fra) (T := T_Fra) (N := 3) hx hb hT in_Fra hown hK hP 0 rfl rfl 0 (by decide) (hT _ vt_130) (fun _ h9 => h9) rfl d_Fra_pop_1 ?_
  refine lv_aload_n hx hb d_Fra_pop_4 rfl (lv_at hl 0 rfl) ?_
  refine va_get (D := (dC, dI)) (ci := 6) (v := .ref r) (C := R_Fra) (T := T_Fra) (N := 3) hx hb hT in_Fra hown hK hP 0 rfl rfl 0 (by decide) (hT _ vt_130) (fun _ h9 => h9) rfl d_Fra_pop_5 ?_
  refine W.callR (W.runV (As := []) (rest := [.ref r]) ⟨hx, hb, hml, hown, hT⟩ (c_Row_size l dC dI r q n mo) (cwV 0 hT (gV vt_823 vt_270 vt_271 vt_4 vt_272) rfl rfl rfl (by decide +kernel) ⟨Nat.le_of_ble_eq_true rfl, Nat.le_of_ble_eq_true rfl⟩) ⟨Pp_blind, va_recv hK hP (ci := 0) (q0 := 1) rfl rfl, Pp_of (hP.sub (ws' := [(r, .inr (0, [.int mo, .ref q, .int (nI n)]))]) [1] rfl) (hK.sub (tys' := []) [] rfl)⟩ rfl rfl hl.1 rfl (lv_room (Nat.le_of_ble_eq_true rfl)) d_Fra_pop_8 ⟨Nat.le_of_ble_eq_true rfl, Nat.le_of_ble_eq_true rfl⟩) ?_
  refine W.eq (g2 := F0 m 11 ls [.int (nI n), .ref r]) rfl ?_
  refine lv_iconst (v := 5) hx hb d_Fra_pop_11 (by decide) ?_
  refine lv_isub hx hb d_Fra_pop_12 ?_
  have hPc := hP.sub (ws' := [(r, .inr (0, [.int mo, .ref q, .int (nI n)])), (q, .inl (cA, N, .inl f))]) [1, 2] rfl
  have hDc := hD.sub (ws' := [(r, .inr (0, [.int mo, .ref q, .int (nI n)])), (q, .inl (cA, N, .inl f))]) [1, 2] (by decide) rfl
  have hKc := hK.sub (tys' := [(cA, .int)]) [0] rfl
  have hFc := va_free (wc := [(r, .inr (0, [.int mo, .ref q, .int (nI n)])), (q, .inl (cA, N, .inl f))]) hD hS hA [1, 2] rfl
  refine va_callv (va_runV (As := [.int ((nI n) - 5)]) (rest := []) ⟨hx, hb, hml, hown, hT⟩ (c_Row_cut l dC dI s.heap.size r q N n cA f mo hn hN (nI n - 5)) (cwV 1 hT (gV vt_817 vt_232 vt_233 vt_4 vt_234) rfl rfl rfl (by decide +kernel) ⟨Nat.le_of_ble_eq_true rfl, Nat.le_of_ble_eq_true rfl⟩) ⟨Pw_blind, va_recv hK hP (ci := 0) (q0 := 1) rfl rfl, Pw_of hPc hKc hDc⟩ rfl rfl hl.1 rfl (lv_room (Nat.le_of_ble_eq_true rfl)) d_Fra_pop_13 ⟨Nat.le_of_ble_eq_true rfl, Nat.le_of_ble_eq_true rfl⟩) hS (fun q _ h => hFc q h) hFc (fun u t H1 locs ht hvm hw hB hz1 hk1 hS => ?_)
  obtain ⟨hP1, hK1, hD1⟩ := hB
  rw [ht] at hP1
  have hK1 := va_K.moved hvm.symm hK1
  obtain ⟨hP, hD⟩ := va_join (wr := [(fr, .inr (6, [.ref r, .ref ty_, .int rs]))]) (w1 := [(r, .inr (0, [.int mo, .ref q, .int (nI (rowCut n (nI n - 5)))])), (q, .inl (cA, N, .inl f))]) hP hD [1, 2] [0] rfl rfl (by decide) (by decide) hk1 hFc hP1 hD1
  generalize H1 = H at hP hS ⊢
  have hP : va_P (dC, dI) classes [(fr, .inr (6, [.ref r, .ref ty_, .int rs])), (r, .inr (0, [.int mo, .ref q, .int (nI (rowCut n (nI n - 5)))])), (q, .inl (cA, N, .inl f))] H := hP
  have hD : va_D A [(fr, .inr (6, [.ref r, .ref ty_, .int rs])), (r, .inr (0, [.int mo, .ref q, .int (nI (rowCut n (nI n - 5)))])), (q, .inl (cA, N, .inl f))] := hD
  refine W.widen (k := 0) (n := 0) (Nat.le_of_ble_eq_true rfl) (Nat.le_of_ble_eq_true rfl) ?_
  refine W.widen (k := 0) (n := 0) (Nat.le_of_ble_eq_true rfl) (Nat.le_of_ble_eq_true rfl) ?_
  have hP9 := hP.sub (ws' := [(fr, .inr (6, [.ref r, .ref ty_, .int rs])), (r, .inr (0, [.int mo, .ref q, .int (nI (rowCut n (nI n - 5)))])), (q, .inl (cA, N, .inl f))]) [0, 1, 2] rfl
  have hD9 := hD.sub (ws' := [(fr, .inr (6, [.ref r, .ref ty_, .int rs])), (r, .inr (0, [.int mo, .ref q, .int (nI (rowCut n (nI n - 5)))])), (q, .inl (cA, N, .inl f))]) [0, 1, 2] (by decide) rfl
  have hK9 := hK.sub (tys' := [(cA, .int)]) [0] rfl
  exact W.vret hx hb hr (fun t ht hW => ⟨⟨(), rfl, trivial, by rw [ht]; exact hP9, va_K.moved hW.alike hK9, hD9⟩, hS.F ht⟩) hS.2.2 d_Fra_pop_16
set_option maxHeartbeats 4000000 in
set_option maxRecDepth 100000 in
/-- Frames.give -/
theorem c_Fra_give (l : Launch) (dC : Nat → ClassId) (dI : Nat → Nat → Nat) (sz : Nat) (fr ty_ : Nat) (rs : Int32) (r q N n : Nat) (cA : ClassId) (f : Nat → Int32) (mo : Int32) (hn : n ≤ N) (hN : N < 2 ^ 31) (a : Int32) : Met l y_Fra_give w_Fra_give ({ frames := 30, cells := 0, slots := 0, locals := 900 }) (Pw dC dI [.ref fr, .int a] sz [(fr, .inr (6, [.ref r, .ref ty_, .int rs])), (r, .inr (0, [.int mo, .ref q, .int (nI n)])), (q, .inl (cA, N, .inl f))] [(cA, .int)]) (va_Qv (fun _ : Unit => True) (fun _ t => va_P (dC, dI) classes [(fr, .inr (6, [.ref r, .ref ty_, .int a])), (r, .inr (0, [.int mo, .ref q, .int (nI (rowCut n (nI n - 5)))])), (q, .inl (cA, N, .inl f))] t.heap ∧ va_K (dC, dI) classes [(cA, .int)] t ∧ va_D (va_A [(fr, .inr (6, [.ref r, .ref ty_, .int rs])), (r, .inr (0, [.int mo, .ref q, .int (nI n)])), (q, .inl (cA, N, .inl f))] sz) [(fr, .inr (6, [.ref r, .ref ty_, .int a])), (r, .inr (0, [.int mo, .ref q, .int (nI (rowCut n (nI n - 5)))])), (q, .inl (cA, N, .inl f))]) (va_A [(fr, .inr (6, [.ref r, .ref ty_, .int rs])), (r, .inr (0, [.int mo, .ref q, .int (nI n)])), (q, .inl (cA, N, .inl f))] sz)) 0 0 (va_A [(fr, .inr (6, [.ref r, .ref ty_, .int rs])), (r, .inr (0, [.int mo, .ref q, .int (nI n)])), (q, .inl (cA, N, .inl f))] sz) := by
  refine Met.ofW (cc := b_Fra_give) (maxL := 2) (ret := none) (by decide) rfl ?_
  intro p e s m args below meth c s₁ B hml hv
  obtain ⟨rfl, hsz, hP, hK, hD0⟩ := hv
  have hx := B.exec
  have hb := B.bytes
  have hr := B.returns
  have hT : ∀ w ∈ vT, w.before _ s = true := fun w h => atoms_spec (ws := w_Fra_give) B.pre w (List.mem_cons_of_mem _ h)
  have hown : s.vm.findClass R_Fra = some m.cls := findClass_of_methodNamed B.named
  have hlocks := B.notSynchronized
  subst hsz
  have hD := hD0.self (sz := s.heap.size)
  generalize hAe : va_A [(fr, .inr (6, [.ref r, .ref ty_, .int rs])), (r, .inr (0, [.int mo, .ref q, .int (nI n)])), (q, .inl (cA, N, .inl f))] s.heap.size = A at hD ⊢
  have hA : ∀ q : Nat, s.heap.size ≤ q → A q := fun q h => by rw [← hAe]; exact Or.inr h
  have hS : va_S A s.heap s.heap [] := va_S.rf
  have hP : va_P (dC, dI) classes [(fr, .inr (6, [.ref r, .ref ty_, .int rs])), (r, .inr (0, [.int mo, .ref q, .int (nI n)])), (q, .inl (cA, N, .inl f))] s.heap := hP
  have hl := lv_entry ([.ref fr, .int a]) (n := 2) (Nat.le_of_ble_eq_true rfl)
  rw [lg_entry_eq]
  generalize (lg_sl ([.ref fr, .int a]) ++ List.replicate (2 - (lg_sl ([.ref fr, .int a])).length) Slot.unset).toArray = ls at hl ⊢
  have hl : lv_has ls 2 [(0, .ref fr), (1, .int a)] := hl
  refine lv_aload_n hx hb d_Fra_give_0 rfl (lv_at hl 0 rfl) ?_
  refine lv_iload_n hx hb d_Fra_give_1 rfl (lv_at hl 1 rfl) ?_
  refine va_put (D := (dC, dI)) (ci := 6) (v := .int a) (ty := .int) (C := R_Fra) (T := T_Fra) (N := 3) hx hb hT in_Fra ty_Fra tyo_Fra nm_Fra hown hK hP hD hS 0 rfl rfl 2 (by decide) (hT _ vt_881) (fun _ h9 => h9) rfl (by decide +kernel) rfl rfl (Nat.le_of_ble_eq_true rfl) d_Fra_give_2 (fun H locs hP hD hS => ?_)
  have hP : va_P (dC, dI) classes [(fr, .inr (6, [.ref r, .ref ty_, .int a])), (r, .inr (0, [.int mo, .ref q, .int (nI n)])), (q, .inl (cA, N, .inl f))] H := hP
  have hD : va_D A [(fr, .inr (6, [.ref r, .ref ty_, .int a])), (r, .inr (0, [.int mo, .ref q, .int (nI n)])), (q, .inl (cA, N, .inl f))] := hD
  refine lv_aload_n hx hb d_Fra_give_5 rfl (lv_at hl 0 rfl) ?_
  have hPc := hP.sub (ws' := [(fr, .inr (6, [.ref r, .ref ty_, .int a])), (r, .inr (0, [.int mo, .ref q, .int (nI n)])), (q, .inl (cA, N, .inl f))]) [0, 1, 2] rfl
  have hDc := hD.sub (ws' := [(fr, .inr (6, [.ref r, .ref ty_, .int a])), (r, .inr (0, [.int mo, .ref q, .int (nI n)])), (q, .inl (cA, N, .inl f))]) [0, 1, 2] (by decide) rfl
  have hKc := hK.sub (tys' := [(cA, .int)]) [0] rfl
  have hFc := va_free (wc := [(fr, .inr (6, [.ref r, .ref ty_, .int a])), (r, .inr (0, [.int mo, .ref q, .int (nI n)])), (q, .inl (cA, N, .inl f))]) hD hS hA [0, 1, 2] rfl
  refine va_callv (va_runV (As := []) (rest := []) ⟨hx, hb, hml, hown, hT⟩ (c_Fra_pop l dC dI H.size fr ty_ a r q N n cA f mo hn hN) (cwV 0 hT (gV vt_882 vt_813 vt_814 vt_47 vt_815) rfl rfl rfl (by decide +kernel) ⟨Nat.le_of_ble_eq_true rfl, Nat.le_of_ble_eq_true rfl⟩) ⟨Pw_blind, va_recv hK hP (ci := 6) (q0 := 0) rfl rfl, Pw_of hPc hKc hDc⟩ rfl rfl hl.1 rfl (lv_room (Nat.le_of_ble_eq_true rfl)) d_Fra_give_6 ⟨Nat.le_of_ble_eq_true rfl, Nat.le_of_ble_eq_true rfl⟩) hS (fun q _ h => hFc q h) hFc (fun u t H1 locs ht hvm hw hB hz1 hk1 hS => ?_)
  obtain ⟨hP1, hK1, hD1⟩ := hB
  rw [ht] at hP1
  have hK1 := va_K.moved hvm.symm hK1
  obtain ⟨hP, hD⟩ := va_join (wr := []) (w1 := [(fr, .inr (6, [.ref r, .ref ty_, .int a])), (r, .inr (0, [.int mo, .ref q, .int (nI (rowCut n (nI n - 5)))])), (q, .inl (cA, N, .inl f))]) hP hD [0, 1, 2] [] rfl rfl (by decide) (by decide) hk1 hFc hP1 hD1
  generalize H1 = H at hP hS ⊢
  have hP : va_P (dC, dI) classes [(fr, .inr (6, [.ref r, .ref ty_, .int a])), (r, .inr (0, [.int mo, .ref q, .int (nI (rowCut n (nI n - 5)))])), (q, .inl (cA, N, .inl f))] H := hP
  have hD : va_D A [(fr, .inr (6, [.ref r, .ref ty_, .int a])), (r, .inr (0, [.int mo, .ref q, .int (nI (rowCut n (nI n - 5)))])), (q, .inl (cA, N, .inl f))] := hD
  refine W.widen (k := 0) (n := 0) (Nat.le_of_ble_eq_true rfl) (Nat.le_of_ble_eq_true rfl) ?_
  refine W.widen (k := 0) (n := 0) (Nat.le_of_ble_eq_true rfl) (Nat.le_of_ble_eq_true rfl) ?_
  have hP9 := hP.sub (ws' := [(fr, .inr (6, [.ref r, .ref ty_, .int a])), (r, .inr (0, [.int mo, .ref q, .int (nI (rowCut n (nI n - 5)))])), (q, .inl (cA, N, .inl f))]) [0, 1, 2] rfl
  have hD9 := hD.sub (ws' := [(fr, .inr (6, [.ref r, .ref ty_, .int a])), (r, .inr (0, [.int mo, .ref q, .int (nI (rowCut n (nI n - 5)))])), (q, .inl (cA, N, .inl f))]) [0, 1, 2] (by decide) rfl
  have hK9 := hK.sub (tys' := [(cA, .int)]) [0] rfl
  exact W.vret hx hb hr (fun t ht hW => ⟨⟨(), rfl, trivial, by rw [ht]; exact hP9, va_K.moved hW.alike hK9, hD9⟩, hS.F ht⟩) hS.2.2 d_Fra_give_9
set_option maxHeartbeats 4000000 in
set_option maxRecDepth 100000 in
/-- Frames.result -/
theorem c_Fra_result (l : Launch) (dC : Nat → ClassId) (dI : Nat → Nat → Nat) (fr r ty_ : Nat) (rs : Int32) : Met l y_Fra_result w_Fra_result ({ frames := 10, cells := 0, slots := 0, locals := 300 }) (Pp dC dI [.ref fr] [(fr, .inr (6, [.ref r, .ref ty_, .int rs]))] []) (QcRead rs) 0 0 (fun _ => False) := by
  refine Met.ofW (cc := b_Fra_result) (maxL := 1) (ret := (some .int)) (by decide) rfl ?_
  intro p e s m args below meth c s₁ B hml hv
  obtain ⟨rfl, hP, hK⟩ := hv
  have hx := B.exec
  have hb := B.bytes
  have hr := B.returns
  have hT : ∀ w ∈ vT, w.before _ s = true := fun w h => atoms_spec (ws := w_Fra_result) B.pre w (List.mem_cons_of_mem _ h)
  have hown : s.vm.findClass R_Fra = some m.cls := findClass_of_methodNamed B.named
  have hlocks := B.notSynchronized
  have hP : va_P (dC, dI) classes [(fr, .inr (6, [.ref r, .ref ty_, .int rs]))] s.heap := hP
  have hl := lv_entry ([.ref fr]) (n := 1) (Nat.le_of_ble_eq_true rfl)
  rw [lg_entry_eq]
  generalize (lg_sl ([.ref fr]) ++ List.replicate (1 - (lg_sl ([.ref fr])).length) Slot.unset).toArray = ls at hl ⊢
  have hl : lv_has ls 1 [(0, .ref fr)] := hl
  refine lv_aload_n hx hb d_Fra_result_0 rfl (lv_at hl 0 rfl) ?_
  refine va_get (D := (dC, dI)) (ci := 6) (v := .int rs) (C := R_Fra) (T := T_Fra) (N := 3) hx hb hT in_Fra hown hK hP 0 rfl rfl 2 (by decide) (hT _ vt_881) (fun _ h9 => h9) rfl d_Fra_result_1 ?_
  exact W.iret (v := rs) hx hb hr (fun t ht hW => ⟨rfl, ht⟩) (fun _ h => nomatch h) d_Fra_result_4
set_option maxHeartbeats 4000000 in
set_option maxRecDepth 100000 in
/-- Frames.typeOf -/
theorem c_Fra_typeOf (l : Launch) (dC : Nat → ClassId) (dI : Nat → Nat → Nat) (fr ce : Nat) (rs : Int32) (r q N n : Nat) (cA : ClassId) (f : Nat → Int32) (mo : Int32) (hn : n ≤ N) (hN : N < 2 ^ 31) (a : Int32) : Met l y_Fra_typeOf w_Fra_typeOf ({ frames := 20, cells := 0, slots := 0, locals := 600 }) (Pp dC dI [.ref fr, .int a] [(fr, .inr (6, [.ref ce, .ref r, .int rs])), (r, .inr (0, [.int mo, .ref q, .int (nI n)])), (q, .inl (cA, N, .inl f))] [(cA, .int)]) (QcRead (rowAt f n a)) 0 0 (fun _ => False) := by
  refine Met.ofW (cc := b_Fra_typeOf) (maxL := 2) (ret := (some .int)) (by decide) rfl ?_
  intro p e s m args below meth c s₁ B hml hv
  obtain ⟨rfl, hP, hK⟩ := hv
  have hx := B.exec
  have hb := B.bytes
  have hr := B.returns
  have hT : ∀ w ∈ vT, w.before _ s = true := fun w h => atoms_spec (ws := w_Fra_typeOf) B.pre w (List.mem_cons_of_mem _ h)
  have hown : s.vm.findClass R_Fra = some m.cls := findClass_of_methodNamed B.named
  have hlocks := B.notSynchronized
  have hP : va_P (dC, dI) classes [(fr, .inr (6, [.ref ce, .ref r, .int rs])), (r, .inr (0, [.int mo, .ref q, .int (nI n)])), (q, .inl (cA, N, .inl f))] s.heap := hP
  have hl := lv_entry ([.ref fr, .int a]) (n := 2) (Nat.le_of_ble_eq_true rfl)
  rw [lg_entry_eq]
  generalize (lg_sl ([.ref fr, .int a]) ++ List.replicate (2 - (lg_sl ([.ref fr, .int a])).length) Slot.unset).toArray = ls at hl ⊢
  have hl : lv_has ls 2 [(0, .ref fr), (1, .int a)] := hl
  refine lv_aload_n hx hb d_Fra_typeOf_0 rfl (lv_at hl 0 rfl) ?_
  refine va_get (D := (dC, dI)) (ci := 6) (v := .ref r) (C := R_Fra) (T := T_Fra) (N := 3) hx hb hT in_Fra hown hK hP 0 rfl rfl 1 (by decide) (hT _ vt_131) (fun _ h9 => h9) rfl d_Fra_typeOf_1 ?_
  refine lv_iload_n hx hb d_Fra_typeOf_4 rfl (lv_at hl 1 rfl) ?_
  refine W.callR (W.runV (As := [.int a]) (rest := []) ⟨hx, hb, hml, hown, hT⟩ (c_Row_at l dC dI r q N n cA f mo hn hN a) (cwV 1 hT (gV vt_824 vt_266 vt_267 vt_4 vt_268) rfl rfl rfl (by decide +kernel) ⟨Nat.le_of_ble_eq_true rfl, Nat.le_of_ble_eq_true rfl⟩) ⟨Pp_blind, va_recv hK hP (ci := 0) (q0 := 1) rfl rfl, Pp_of (hP.sub (ws' := [(r, .inr (0, [.int mo, .ref q, .int (nI n)])), (q, .inl (cA, N, .inl f))]) [1, 2] rfl) (hK.sub (tys' := [(cA, .int)]) [0] rfl)⟩ rfl rfl hl.1 rfl (lv_room (Nat.le_of_ble_eq_true rfl)) d_Fra_typeOf_5 ⟨Nat.le_of_ble_eq_true rfl, Nat.le_of_ble_eq_true rfl⟩) ?_
  refine W.eq (g2 := F0 m 8 ls [.int (rowAt f n a)]) rfl ?_
  exact W.iret (v := (rowAt f n a)) hx hb hr (fun t ht hW => ⟨rfl, ht⟩) (fun _ h => nomatch h) d_Fra_typeOf_8
set_option maxHeartbeats 4000000 in
set_option maxRecDepth 100000 in
/-- Frames.dropVariables -/
theorem c_Fra_dropVariables (l : Launch) (dC : Nat → ClassId) (dI : Nat → Nat → Nat) (sz : Nat) (fr ce : Nat) (rs : Int32) (r q N n : Nat) (cA : ClassId) (f : Nat → Int32) (mo : Int32) (hn : n ≤ N) (hN : N < 2 ^ 31) : Met l y_Fra_dropVariables w_Fra_dropVariables ({ frames := 20, cells := 0, slots := 0, locals := 600 }) (Pw dC dI [.ref fr] sz [(fr, .inr (6, [.ref ce, .ref r, .int rs])), (r, .inr (0, [.int mo, .ref q, .int (nI n)])), (q, .inl (cA, N, .inl f))] [(cA, .int)]) (va_Qv (fun _ : Unit => True) (fun _ t => va_P (dC, dI) classes [(fr, .inr (6, [.ref ce, .ref r, .int rs])), (r, .inr (0, [.int mo, .ref q, .int (nI (rowCut n 0))])), (q, .inl (cA, N, .inl f))] t.heap ∧ va_K (dC, dI) classes [(cA, .int)] t ∧ va_D (va_A [(fr, .inr (6, [.ref ce, .ref r, .int rs])), (r, .inr (0, [.int mo, .ref q, .int (nI n)])), (q, .inl (cA, N, .inl f))] sz) [(fr, .inr (6, [.ref ce, .ref r, .int rs])), (r, .inr (0, [.int mo, .ref q, .int (nI (rowCut n 0))])), (q, .inl (cA, N, .inl f))]) (va_A [(fr, .inr (6, [.ref ce, .ref r, .int rs])), (r, .inr (0, [.int mo, .ref q, .int (nI n)])), (q, .inl (cA, N, .inl f))] sz)) 0 0 (va_A [(fr, .inr (6, [.ref ce, .ref r, .int rs])), (r, .inr (0, [.int mo, .ref q, .int (nI n)])), (q, .inl (cA, N, .inl f))] sz) := by
  refine Met.ofW (cc := b_Fra_dropVariables) (maxL := 1) (ret := none) (by decide) rfl ?_
  intro p e s m args below meth c s₁ B hml hv
  obtain ⟨rfl, hsz, hP, hK, hD0⟩ := hv
  have hx := B.exec
  have hb := B.bytes
  have hr := B.returns
  have hT : ∀ w ∈ vT, w.before _ s = true := fun w h => atoms_spec (ws := w_Fra_dropVariables) B.pre w (List.mem_cons_of_mem _ h)
  have hown : s.vm.findClass R_Fra = some m.cls := findClass_of_methodNamed B.named
  have hlocks := B.notSynchronized
  subst hsz
  have hD := hD0.self (sz := s.heap.size)
  generalize hAe : va_A [(fr, .inr (6, [.ref ce, .ref r, .int rs])), (r, .inr (0, [.int mo, .ref q, .int (nI n)])), (q, .inl (cA, N, .inl f))] s.heap.size = A at hD ⊢
  have hA : ∀ q : Nat, s.heap.size ≤ q → A q := fun q h => by rw [← hAe]; exact Or.inr h
  have hS : va_S A s.heap s.heap [] := va_S.rf
  have hP : va_P (dC, dI) classes [(fr, .inr (6, [.ref ce, .ref r, .int rs])), (r, .inr (0, [.int mo, .ref q, .int (nI n)])), (q, .inl (cA, N, .inl f))] s.heap := hP
  have hl := lv_entry ([.ref fr]) (n := 1) (Nat.le_of_ble_eq_true rfl)
  rw [lg_entry_eq]
  generalize (lg_sl ([.ref fr]) ++ List.replicate (1 - (lg_sl ([.ref fr])).length) Slot.unset).toArray = ls at hl ⊢
  have hl : lv_has ls 1 [(0, .ref fr)] := hl
  refine lv_aload_n hx hb d_Fra_dropVariables_0 rfl (lv_at hl 0 rfl) ?_
  refine va_get (D := (dC, dI)) (ci := 6) (v := .ref r) (C := R_Fra) (T := T_Fra) (N := 3) hx hb hT in_Fra hown hK hP 0 rfl rfl 1 (by decide) (hT _ vt_131) (fun _ h9 => h9) rfl d_Fra_dropVariables_1 ?_
  refine lv_iconst (v := 0) hx hb d_Fra_dropVariables_4 (by decide) ?_
  have hPc := hP.sub (ws' := [(r, .inr (0, [.int mo, .ref q, .int (nI n)])), (q, .inl (cA, N, .inl f))]) [1, 2] rfl
  have hDc := hD.sub (ws' := [(r, .inr (0, [.int mo, .ref q, .int (nI n)])), (q, .inl (cA, N, .inl f))]) [1, 2] (by decide) rfl
  have hKc := hK.sub (tys' := [(cA, .int)]) [0] rfl
  have hFc := va_free (wc := [(r, .inr (0, [.int mo, .ref q, .int (nI n)])), (q, .inl (cA, N, .inl f))]) hD hS hA [1, 2] rfl
  refine va_callv (va_runV (As := [.int 0]) (rest := []) ⟨hx, hb, hml, hown, hT⟩ (c_Row_cut l dC dI s.heap.size r q N n cA f mo hn hN 0) (cwV 1 hT (gV vt_817 vt_232 vt_233 vt_4 vt_234) rfl rfl rfl (by decide +kernel) ⟨Nat.le_of_ble_eq_true rfl, Nat.le_of_ble_eq_true rfl⟩) ⟨Pw_blind, va_recv hK hP (ci := 0) (q0 := 1) rfl rfl, Pw_of hPc hKc hDc⟩ rfl rfl hl.1 rfl (lv_room (Nat.le_of_ble_eq_true rfl)) d_Fra_dropVariables_5 ⟨Nat.le_of_ble_eq_true rfl, Nat.le_of_ble_eq_true rfl⟩) hS (fun q _ h => hFc q h) hFc (fun u t H1 locs ht hvm hw hB hz1 hk1 hS => ?_)
  obtain ⟨hP1, hK1, hD1⟩ := hB
  rw [ht] at hP1
  have hK1 := va_K.moved hvm.symm hK1
  obtain ⟨hP, hD⟩ := va_join (wr := [(fr, .inr (6, [.ref ce, .ref r, .int rs]))]) (w1 := [(r, .inr (0, [.int mo, .ref q, .int (nI (rowCut n 0))])), (q, .inl (cA, N, .inl f))]) hP hD [1, 2] [0] rfl rfl (by decide) (by decide) hk1 hFc hP1 hD1
  generalize H1 = H at hP hS ⊢
  have hP : va_P (dC, dI) classes [(fr, .inr (6, [.ref ce, .ref r, .int rs])), (r, .inr (0, [.int mo, .ref q, .int (nI (rowCut n 0))])), (q, .inl (cA, N, .inl f))] H := hP
  have hD : va_D A [(fr, .inr (6, [.ref ce, .ref r, .int rs])), (r, .inr (0, [.int mo, .ref q, .int (nI (rowCut n 0))])), (q, .inl (cA, N, .inl f))] := hD
  refine W.widen (k := 0) (n := 0) (Nat.le_of_ble_eq_true rfl) (Nat.le_of_ble_eq_true rfl) ?_
  refine W.widen (k := 0) (n := 0) (Nat.le_of_ble_eq_true rfl) (Nat.le_of_ble_eq_true rfl) ?_
  have hP9 := hP.sub (ws' := [(fr, .inr (6, [.ref ce, .ref r, .int rs])), (r, .inr (0, [.int mo, .ref q, .int (nI (rowCut n 0))])), (q, .inl (cA, N, .inl f))]) [0, 1, 2] rfl
  have hD9 := hD.sub (ws' := [(fr, .inr (6, [.ref ce, .ref r, .int rs])), (r, .inr (0, [.int mo, .ref q, .int (nI (rowCut n 0))])), (q, .inl (cA, N, .inl f))]) [0, 1, 2] (by decide) rfl
  have hK9 := hK.sub (tys' := [(cA, .int)]) [0] rfl
  exact W.vret hx hb hr (fun t ht hW => ⟨⟨(), rfl, trivial, by rw [ht]; exact hP9, va_K.moved hW.alike hK9, hD9⟩, hS.F ht⟩) hS.2.2 d_Fra_dropVariables_8
