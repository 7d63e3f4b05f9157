theorem gSS {own : String} {idx n : Nat} {y : MethodName} {b : ByteArray} {r : Option FieldType} (h1 : Cond.methodLink own idx y ∈ vT) (h2 : Cond.static y ∈ vT) (h4 : Cond.initialized y.cls ∈ vT) (h5 : Cond.code y b n r ∈ vT) :
    GoodIn vT (va_wsS own idx y (.code y b n r :: vT)) := fun w h => by
  unfold va_wsS at h
  rcases List.mem_append.mp h with h | h
  · simp only [List.mem_cons, List.not_mem_nil, or_false] at h
    rcases h with rfl | rfl | rfl
    · exact gw h1
    · exact gw h2
    · exact gw h4
  · exact gI h5 w h
set_option maxHeartbeats 4000000 in
set_option maxRecDepth 100000 in
/-- Row.push where there is a place left to it -/
theorem c_Row_pushG (l : Launch) (dC : Nat → ClassId) (dI : Nat → Nat → Nat) (sz : Nat) (r q N n : Nat) (cA : ClassId) (f : Nat → Int32) (mo v : Int32) (hn : n ≤ N) (h0 : 0 < N) (hN : N ≤ 2 ^ 20) (hmo : nI n < mo) (hnN : n = N) : vE l y_Row_push w_Row_push { frames := 30, cells := 1, slots := 2 * N, locals := 900 } (Pw dC dI [.ref r, .int v] sz [(r, .inr (0, [.int mo, .ref q, .int (nI n)])), (q, .inl (cA, N, .inl f))] [(cA, .int)]) (fun _ _ o t k z => o = .returned none ∧ k = 1 ∧ z = 2 * N ∧ ∃ (q1 : Nat) (f1 : Nat → Int32), va_P (dC, dI) classes [(r, .inr (0, [.int mo, .ref q1, .int (nI (n + 1))])), (q1, .inl (cA, 2 * N, .inl f1))] t.heap ∧ va_K (dC, dI) classes [(cA, .int)] t ∧ va_D (va_A [(r, .inr (0, [.int mo, .ref q, .int (nI n)])), (q, .inl (cA, N, .inl f))] sz) [(r, .inr (0, [.int mo, .ref q1, .int (nI (n + 1))])), (q1, .inl (cA, 2 * N, .inl f1))] ∧ (∀ j, j < n → f1 j = f j) ∧ f1 n = v) (va_A [(r, .inr (0, [.int mo, .ref q, .int (nI n)])), (q, .inl (cA, N, .inl f))] sz) := by
  refine vE_ofW (cc := b_Row_push) (maxL := 2) (ret := none) (by decide) rfl ?_
  intro p e s m args below meth c s₁ B hml hv
  obtain ⟨rfl, hsz, hP, hK, hD0⟩ := hv
  have hx := B.exec
  have hb := B.bytes
  have hr := B.returns
  have hT : ∀ w ∈ vT, w.before _ s = true := fun w h => atoms_spec (ws := w_Row_push) B.pre w (List.mem_cons_of_mem _ h)
  have hown : s.vm.findClass R_Row = some m.cls := findClass_of_methodNamed B.named
  have hlocks := B.notSynchronized
  subst hsz
  have hD := hD0.self (sz := s.heap.size)
  generalize hAe : va_A [(r, .inr (0, [.int mo, .ref q, .int (nI n)])), (q, .inl (cA, N, .inl f))] s.heap.size = A at hD ⊢
  have hA : ∀ q : Nat, s.heap.size ≤ q → A q := fun q h => by rw [← hAe]; exact Or.inr h
  have hS : va_S A s.heap s.heap [] := va_S.rf
  have hP : va_P (dC, dI) classes [(r, .inr (0, [.int mo, .ref q, .int (nI n)])), (q, .inl (cA, N, .inl f))] s.heap := hP
  have hl := lv_entry ([.ref r, .int v]) (n := 2) (Nat.le_of_ble_eq_true rfl)
  rw [lg_entry_eq]
  generalize (lg_sl ([.ref r, .int v]) ++ List.replicate (2 - (lg_sl ([.ref r, .int v])).length) Slot.unset).toArray = ls at hl ⊢
  have hl : lv_has ls 2 [(0, .ref r), (1, .int v)] := hl
  refine lv_aload_n hx hb d_Row_push_0 rfl (lv_at hl 0 rfl) ?_
  refine va_get (D := (dC, dI)) (ci := 0) (v := .int (nI n)) (C := R_Row) (T := T_Row) (N := 3) hx hb hT in_Row hown hK hP 0 rfl rfl 2 (by decide) (hT _ vt_260) (fun _ h9 => h9) rfl d_Row_push_1 ?_
  refine lv_aload_n hx hb d_Row_push_4 rfl (lv_at hl 0 rfl) ?_
  refine va_get (D := (dC, dI)) (ci := 0) (v := .int mo) (C := R_Row) (T := T_Row) (N := 3) hx hb hT in_Row hown hK hP 0 rfl rfl 0 (by decide) (hT _ vt_85) (fun _ h9 => h9) rfl d_Row_push_5 ?_
  refine lv_icmp_lt (tgt := 12) hx hb d_Row_push_8 (by decide) (fun c_1 => ?_) (fun c_1 => absurd (hmo) c_1)
  refine lv_aload_n hx hb d_Row_push_12 rfl (lv_at hl 0 rfl) ?_
  refine va_get (D := (dC, dI)) (ci := 0) (v := .int (nI n)) (C := R_Row) (T := T_Row) (N := 3) hx hb hT in_Row hown hK hP 0 rfl rfl 2 (by decide) (hT _ vt_260) (fun _ h9 => h9) rfl d_Row_push_13 ?_
  refine lv_aload_n hx hb d_Row_push_16 rfl (lv_at hl 0 rfl) ?_
  refine va_get (D := (dC, dI)) (ci := 0) (v := .ref q) (C := R_Row) (T := T_Row) (N := 3) hx hb hT in_Row hown hK hP 0 rfl rfl 1 (by decide) (hT _ vt_84) (fun _ h9 => h9) rfl d_Row_push_17 ?_
  refine va_alen (v := (nI N)) hx hb hK hP 1 0 rfl rfl rfl d_Row_push_20 ?_
  refine lv_icmp_ne (tgt := 41) hx hb d_Row_push_21 (by decide) (fun c_2 => absurd (by rw [hnN]) c_2) (fun c_2 => ?_)
  refine lv_aload_n hx hb d_Row_push_24 rfl (lv_at hl 0 rfl) ?_
  refine lv_aload_n hx hb d_Row_push_25 rfl (lv_at hl 0 rfl) ?_
  refine va_get (D := (dC, dI)) (ci := 0) (v := .ref q) (C := R_Row) (T := T_Row) (N := 3) hx hb hT in_Row hown hK hP 0 rfl rfl 1 (by decide) (hT _ vt_84) (fun _ h9 => h9) rfl d_Row_push_26 ?_
  refine lv_iconst (v := 2) hx hb d_Row_push_29 (by decide) ?_
  refine lv_aload_n hx hb d_Row_push_30 rfl (lv_at hl 0 rfl) ?_
  refine va_get (D := (dC, dI)) (ci := 0) (v := .int (nI n)) (C := R_Row) (T := T_Row) (N := 3) hx hb hT in_Row hown hK hP 0 rfl rfl 2 (by decide) (hT _ vt_260) (fun _ h9 => h9) rfl d_Row_push_31 ?_
  refine lv_imul hx hb d_Row_push_34 ?_
  refine lv_topi (fun x_3 ex_3 => ?_)
  obtain rfl : x_3 = (nI (2 * N)) := by rw [ex_3]; show nI 2 * nI n = nI (2 * N); rw [hnN]; exact pk_mul 2 N
  have hPc := hP.sub (ws' := [(q, .inl (cA, N, .inl f))]) [1] rfl
  have hDc := hD.sub (ws' := [(q, .inl (cA, N, .inl f))]) [1] (by decide) rfl
  have hFc := va_free (wc := [(q, .inl (cA, N, .inl f))]) hD hS hA [1] rfl
  refine va_callr (va_runS (As := [.ref q, .int (nI (2 * N))]) (rest := [.ref r]) ⟨hx, hb, hml, hown, hT⟩ (c_copy_int l dC dI s.heap.size q N cA f h0 (by omega)) (va_cwS 2 hT (gSS vt_311 vt_313 vt_312 vt_314) rfl rfl rfl (by decide +kernel) ⟨Nat.le_of_ble_eq_true rfl, Nat.le_of_ble_eq_true rfl⟩) ⟨Pw_blind, Pw_of hPc hK hDc⟩ rfl rfl hl.1 rfl (lv_room (Nat.le_of_ble_eq_true rfl)) d_Row_push_35 ⟨by show 0 + 1 ≤ 1; omega, by show 0 + 2 * N ≤ 2 * N; omega⟩) hS (fun q _ h => hFc q h) hFc (fun u ra t H1 locs ht hvm hw hB hz1 hk1 hS => ?_)
  obtain ⟨hP1, hK1, hD1⟩ := hB
  rw [ht] at hP1
  obtain ⟨hP, hD⟩ := va_join (wr := [(r, .inr (0, [.int mo, .ref q, .int (nI n)]))]) (w1 := [(q, .inl (cA, N, .inl f)), (ra, .inl (cA, (2 * N), .inl (va_cpy f (fun _ => 0) 0 0 N)))]) hP hD [1] [0] rfl rfl (by decide) (by decide) hk1 hFc hP1 hD1
  generalize H1 = H at hP hS ⊢
  have hP : va_P (dC, dI) classes [(r, .inr (0, [.int mo, .ref q, .int (nI n)])), (q, .inl (cA, N, .inl f)), (ra, .inl (cA, (2 * N), .inl (va_cpy f (fun _ => 0) 0 0 N)))] H := hP
  have hD : va_D A [(r, .inr (0, [.int mo, .ref q, .int (nI n)])), (q, .inl (cA, N, .inl f)), (ra, .inl (cA, (2 * N), .inl (va_cpy f (fun _ => 0) 0 0 N)))] := hD
  refine W.widen (k := 1) (n := 2 * N) (by omega) (by omega) ?_
  refine va_put (D := (dC, dI)) (ci := 0) (v := .ref ra) (ty := (.array .int)) (C := R_Row) (T := T_Row) (N := 3) hx hb hT in_Row ty_Row tyo_Row nm_Row hown hK hP hD hS 0 rfl rfl 1 (by decide) (hT _ vt_84) (fun _ h9 => h9) rfl (by decide +kernel) rfl rfl (Nat.le_of_ble_eq_true rfl) d_Row_push_38 (fun H locs hP hD hS => ?_)
  have hP : va_P (dC, dI) classes [(r, .inr (0, [.int mo, .ref ra, .int (nI n)])), (q, .inl (cA, N, .inl f)), (ra, .inl (cA, (2 * N), .inl (va_cpy f (fun _ => 0) 0 0 N)))] H := hP
  have hD : va_D A [(r, .inr (0, [.int mo, .ref ra, .int (nI n)])), (q, .inl (cA, N, .inl f)), (ra, .inl (cA, (2 * N), .inl (va_cpy f (fun _ => 0) 0 0 N)))] := hD
  have hP := hP.sub (ws' := [(r, .inr (0, [.int mo, .ref ra, .int (nI n)])), (ra, .inl (cA, (2 * N), .inl (va_cpy f (fun _ => 0) 0 0 N)))]) [0, 2] rfl
  have hD := hD.sub (ws' := [(r, .inr (0, [.int mo, .ref ra, .int (nI n)])), (ra, .inl (cA, (2 * N), .inl (va_cpy f (fun _ => 0) 0 0 N)))]) [0, 2] (by decide) rfl
  refine lv_aload_n hx hb d_Row_push_41 rfl (lv_at hl 0 rfl) ?_
  refine va_get (D := (dC, dI)) (ci := 0) (v := .ref ra) (C := R_Row) (T := T_Row) (N := 3) hx hb hT in_Row hown hK hP 0 rfl rfl 1 (by decide) (hT _ vt_84) (fun _ h9 => h9) rfl d_Row_push_42 ?_
  refine lv_aload_n hx hb d_Row_push_45 rfl (lv_at hl 0 rfl) ?_
  refine va_get (D := (dC, dI)) (ci := 0) (v := .int (nI n)) (C := R_Row) (T := T_Row) (N := 3) hx hb hT in_Row hown hK hP 0 rfl rfl 2 (by decide) (hT _ vt_260) (fun _ h9 => h9) rfl d_Row_push_46 ?_
  refine lv_iload_n hx hb d_Row_push_49 rfl (lv_at hl 1 rfl) ?_
  refine va_iast hx hb hK hP hD hS 1 0 rfl rfl (vp_in_nI (by omega) (by omega)) d_Row_push_50 (fun H locs hP hD hS => ?_)
  have hP : va_P (dC, dI) classes [(r, .inr (0, [.int mo, .ref ra, .int (nI n)])), (ra, .inl (cA, (2 * N), .inl (upd (va_cpy f (fun _ => 0) 0 0 N) (nI n).toNatClampNeg v)))] H := by exact hP
  have hD : va_D A [(r, .inr (0, [.int mo, .ref ra, .int (nI n)])), (ra, .inl (cA, (2 * N), .inl (upd (va_cpy f (fun _ => 0) 0 0 N) (nI n).toNatClampNeg v)))] := by exact hD
  rw [nI_clamp (by omega)] at hP hD
  have hP : va_P (dC, dI) classes [(r, .inr (0, [.int mo, .ref ra, .int (nI n)])), (ra, .inl (cA, (2 * N), .inl (upd (va_cpy f (fun _ => 0) 0 0 N) n v)))] H := hP
  have hD : va_D A [(r, .inr (0, [.int mo, .ref ra, .int (nI n)])), (ra, .inl (cA, (2 * N), .inl (upd (va_cpy f (fun _ => 0) 0 0 N) n v)))] := hD
  refine lv_aload_n hx hb d_Row_push_51 rfl (lv_at hl 0 rfl) ?_
  refine lv_dup hx hb d_Row_push_52 rfl ?_
  refine va_get (D := (dC, dI)) (ci := 0) (v := .int (nI n)) (C := R_Row) (T := T_Row) (N := 3) hx hb hT in_Row hown hK hP 0 rfl rfl 2 (by decide) (hT _ vt_260) (fun _ h9 => h9) rfl d_Row_push_53 ?_
  refine lv_iconst (v := 1) hx hb d_Row_push_56 (by decide) ?_
  refine lv_iadd hx hb d_Row_push_57 ?_
  refine lv_topi (fun x_4 ex_4 => ?_)
  obtain rfl : x_4 = (nI (n + 1)) := by rw [ex_4]; exact nI_1 n
  refine va_put (D := (dC, dI)) (ci := 0) (v := .int (nI (n + 1))) (ty := .int) (C := R_Row) (T := T_Row) (N := 3) hx hb hT in_Row ty_Row tyo_Row nm_Row hown hK hP hD hS 0 rfl rfl 2 (by decide) (hT _ vt_260) (fun _ h9 => h9) rfl (by decide +kernel) rfl rfl (Nat.le_of_ble_eq_true rfl) d_Row_push_58 (fun H locs hP hD hS => ?_)
  have hP : va_P (dC, dI) classes [(r, .inr (0, [.int mo, .ref ra, .int (nI (n + 1))])), (ra, .inl (cA, (2 * N), .inl (upd (va_cpy f (fun _ => 0) 0 0 N) n v)))] H := hP
  have hD : va_D A [(r, .inr (0, [.int mo, .ref ra, .int (nI (n + 1))])), (ra, .inl (cA, (2 * N), .inl (upd (va_cpy f (fun _ => 0) 0 0 N) n v)))] := hD
  have hP9 := hP.sub (ws' := [(r, .inr (0, [.int mo, .ref ra, .int (nI (n + 1))])), (ra, .inl (cA, (2 * N), .inl (upd (va_cpy f (fun _ => 0) 0 0 N) n v)))]) [0, 1] rfl
  have hD9 := hD.sub (ws' := [(r, .inr (0, [.int mo, .ref ra, .int (nI (n + 1))])), (ra, .inl (cA, (2 * N), .inl (upd (va_cpy f (fun _ => 0) 0 0 N) n v)))]) [0, 1] (by decide) rfl
  refine vE_vret hx hb hr (fun t ht hW => ⟨rfl, rfl, rfl, ra, _, by rw [ht]; exact hP9, va_K.moved hW.alike hK, hD9, fun j hj => ?_, pk_us⟩) hS.2.2 d_Row_push_61 hlocks
  rw [pk_un (Nat.ne_of_lt hj), pk_cpy_in (Nat.zero_le j) (by omega), Nat.zero_add, Nat.sub_zero]
set_option maxHeartbeats 4000000 in
set_option maxRecDepth 100000 in
/-- Row.push where there is a place left to it -/
theorem c_Row_pushN (l : Launch) (dC : Nat → ClassId) (dI : Nat → Nat → Nat) (sz : Nat) (r q N n : Nat) (cA : ClassId) (f : Nat → Int32) (mo v : Int32) (hn : n ≤ N) (h0 : 0 < N) (hN : N ≤ 2 ^ 20) (hmo : nI n < mo) (hnN : ¬ n = N) : vE l y_Row_push w_Row_push { frames := 30, cells := 0, slots := 0, locals := 900 } (Pw dC dI [.ref r, .int v] sz [(r, .inr (0, [.int mo, .ref q, .int (nI n)])), (q, .inl (cA, N, .inl f))] [(cA, .int)]) (fun _ _ o t k z => o = .returned none ∧ k = 0 ∧ z = 0 ∧ ∃ (f1 : Nat → Int32), va_P (dC, dI) classes [(r, .inr (0, [.int mo, .ref q, .int (nI (n + 1))])), (q, .inl (cA, N, .inl f1))] t.heap ∧ va_K (dC, dI) classes [(cA, .int)] t ∧ va_D (va_A [(r, .inr (0, [.int mo, .ref q, .int (nI n)])), (q, .inl (cA, N, .inl f))] sz) [(r, .inr (0, [.int mo, .ref q, .int (nI (n + 1))])), (q, .inl (cA, N, .inl f1))] ∧ (∀ j, j < n → f1 j = f j) ∧ f1 n = v) (va_A [(r, .inr (0, [.int mo, .ref q, .int (nI n)])), (q, .inl (cA, N, .inl f))] sz) := by
  refine vE_ofW (cc := b_Row_push) (maxL := 2) (ret := none) (by decide) rfl ?_
  intro p e s m args below meth c s₁ B hml hv
  obtain ⟨rfl, hsz, hP, hK, hD0⟩ := hv
  have hx := B.exec
  have hb := B.bytes
  have hr := B.returns
  have hT : ∀ w ∈ vT, w.before _ s = true := fun w h => atoms_spec (ws := w_Row_push) B.pre w (List.mem_cons_of_mem _ h)
  have hown : s.vm.findClass R_Row = some m.cls := findClass_of_methodNamed B.named
  have hlocks := B.notSynchronized
  subst hsz
  have hD := hD0.self (sz := s.heap.size)
  generalize hAe : va_A [(r, .inr (0, [.int mo, .ref q, .int (nI n)])), (q, .inl (cA, N, .inl f))] s.heap.size = A at hD ⊢
  have hA : ∀ q : Nat, s.heap.size ≤ q → A q := fun q h => by rw [← hAe]; exact Or.inr h
  have hS : va_S A s.heap s.heap [] := va_S.rf
  have hP : va_P (dC, dI) classes [(r, .inr (0, [.int mo, .ref q, .int (nI n)])), (q, .inl (cA, N, .inl f))] s.heap := hP
  have hl := lv_entry ([.ref r, .int v]) (n := 2) (Nat.le_of_ble_eq_true rfl)
  rw [lg_entry_eq]
  generalize (lg_sl ([.ref r, .int v]) ++ List.replicate (2 - (lg_sl ([.ref r, .int v])).length) Slot.unset).toArray = ls at hl ⊢
  have hl : lv_has ls 2 [(0, .ref r), (1, .int v)] := hl
  refine lv_aload_n hx hb d_Row_push_0 rfl (lv_at hl 0 rfl) ?_
  refine va_get (D := (dC, dI)) (ci := 0) (v := .int (nI n)) (C := R_Row) (T := T_Row) (N := 3) hx hb hT in_Row hown hK hP 0 rfl rfl 2 (by decide) (hT _ vt_260) (fun _ h9 => h9) rfl d_Row_push_1 ?_
  refine lv_aload_n hx hb d_Row_push_4 rfl (lv_at hl 0 rfl) ?_
  refine va_get (D := (dC, dI)) (ci := 0) (v := .int mo) (C := R_Row) (T := T_Row) (N := 3) hx hb hT in_Row hown hK hP 0 rfl rfl 0 (by decide) (hT _ vt_85) (fun _ h9 => h9) rfl d_Row_push_5 ?_
  refine lv_icmp_lt (tgt := 12) hx hb d_Row_push_8 (by decide) (fun c_1 => ?_) (fun c_1 => absurd (hmo) c_1)
  refine lv_aload_n hx hb d_Row_push_12 rfl (lv_at hl 0 rfl) ?_
  refine va_get (D := (dC, dI)) (ci := 0) (v := .int (nI n)) (C := R_Row) (T := T_Row) (N := 3) hx hb hT in_Row hown hK hP 0 rfl rfl 2 (by decide) (hT _ vt_260) (fun _ h9 => h9) rfl d_Row_push_13 ?_
  refine lv_aload_n hx hb d_Row_push_16 rfl (lv_at hl 0 rfl) ?_
  refine va_get (D := (dC, dI)) (ci := 0) (v := .ref q) (C := R_Row) (T := T_Row) (N := 3) hx hb hT in_Row hown hK hP 0 rfl rfl 1 (by decide) (hT _ vt_84) (fun _ h9 => h9) rfl d_Row_push_17 ?_
  refine va_alen (v := (nI N)) hx hb hK hP 1 0 rfl rfl rfl d_Row_push_20 ?_
  refine lv_icmp_ne (tgt := 41) hx hb d_Row_push_21 (by decide) (fun c_2 => ?_) (fun c_2 => absurd c_2 (fun h => hnN ((nI_eq (by omega) (by omega)).mp h)))
  refine lv_aload_n hx hb d_Row_push_41 rfl (lv_at hl 0 rfl) ?_
  refine va_get (D := (dC, dI)) (ci := 0) (v := .ref q) (C := R_Row) (T := T_Row) (N := 3) hx hb hT in_Row hown hK hP 0 rfl rfl 1 (by decide) (hT _ vt_84) (fun _ h9 => h9) rfl d_Row_push_42 ?_
  refine lv_aload_n hx hb d_Row_push_45 rfl (lv_at hl 0 rfl) ?_
  refine va_get (D := (dC, dI)) (ci := 0) (v := .int (nI n)) (C := R_Row) (T := T_Row) (N := 3) hx hb hT in_Row hown hK hP 0 rfl rfl 2 (by decide) (hT _ vt_260) (fun _ h9 => h9) rfl d_Row_push_46 ?_
  refine lv_iload_n hx hb d_Row_push_49 rfl (lv_at hl 1 rfl) ?_
  refine va_iast hx hb hK hP hD hS 1 0 rfl rfl (vp_in_nI (by omega) (by omega)) d_Row_push_50 (fun H locs hP hD hS => ?_)
  have hP : va_P (dC, dI) classes [(r, .inr (0, [.int mo, .ref q, .int (nI n)])), (q, .inl (cA, N, .inl (upd f (nI n).toNatClampNeg v)))] H := by exact hP
  have hD : va_D A [(r, .inr (0, [.int mo, .ref q, .int (nI n)])), (q, .inl (cA, N, .inl (upd f (nI n).toNatClampNeg v)))] := by exact hD
  rw [nI_clamp (by omega)] at hP hD
  have hP : va_P (dC, dI) classes [(r, .inr (0, [.int mo, .ref q, .int (nI n)])), (q, .inl (cA, N, .inl (upd f n v)))] H := hP
  have hD : va_D A [(r, .inr (0, [.int mo, .ref q, .int (nI n)])), (q, .inl (cA, N, .inl (upd f n v)))] := hD
  refine lv_aload_n hx hb d_Row_push_51 rfl (lv_at hl 0 rfl) ?_
  refine lv_dup hx hb d_Row_push_52 rfl ?_
  refine va_get (D := (dC, dI)) (ci := 0) (v := .int (nI n)) (C := R_Row) (T := T_Row) (N := 3) hx hb hT in_Row hown hK hP 0 rfl rfl 2 (by decide) (hT _ vt_260) (fun _ h9 => h9) rfl d_Row_push_53 ?_
  refine lv_iconst (v := 1) hx hb d_Row_push_56 (by decide) ?_
  refine lv_iadd hx hb d_Row_push_57 ?_
  refine lv_topi (fun x_3 ex_3 => ?_)
  obtain rfl : x_3 = (nI (n + 1)) := by rw [ex_3]; exact nI_1 n
  refine va_put (D := (dC, dI)) (ci := 0) (v := .int (nI (n + 1))) (ty := .int) (C := R_Row) (T := T_Row) (N := 3) hx hb hT in_Row ty_Row tyo_Row nm_Row hown hK hP hD hS 0 rfl rfl 2 (by decide) (hT _ vt_260) (fun _ h9 => h9) rfl (by decide +kernel) rfl rfl (Nat.le_of_ble_eq_true rfl) d_Row_push_58 (fun H locs hP hD hS => ?_)
  have hP : va_P (dC, dI) classes [(r, .inr (0, [.int mo, .ref q, .int (nI (n + 1))])), (q, .inl (cA, N, .inl (upd f n v)))] H := hP
  have hD : va_D A [(r, .inr (0, [.int mo, .ref q, .int (nI (n + 1))])), (q, .inl (cA, N, .inl (upd f n v)))] := hD
  have hP9 := hP.sub (ws' := [(r, .inr (0, [.int mo, .ref q, .int (nI (n + 1))])), (q, .inl (cA, N, .inl (upd f n v)))]) [0, 1] rfl
  have hD9 := hD.sub (ws' := [(r, .inr (0, [.int mo, .ref q, .int (nI (n + 1))])), (q, .inl (cA, N, .inl (upd f n v)))]) [0, 1] (by decide) rfl
  exact vE_vret hx hb hr (fun t ht hW => ⟨rfl, rfl, rfl, _, by rw [ht]; exact hP9, va_K.moved hW.alike hK, hD9, fun j hj => pk_un (Nat.ne_of_lt hj), pk_us⟩) hS.2.2 d_Row_push_61 hlocks
set_option maxHeartbeats 4000000 in
set_option maxRecDepth 100000 in
/-- Row.push where it is full -/
theorem c_Row_pushFull (l : Launch) (dC : Nat → ClassId) (dI : Nat → Nat → Nat) (sz : Nat) (r q n N : Nat) (cA : ClassId) (f : Nat → Int32) (mo v : Int32) (hmo : ¬ nI n < mo) : Met l y_Row_push w_Row_push ({ frames := 30, cells := 0, slots := 0, locals := 900 }) (Pw dC dI [.ref r, .int v] sz [(r, .inr (0, [.int mo, .ref q, .int (nI n)])), (q, .inl (cA, N, .inl f))] [(cA, .int)]) (va_Qv (fun _ : Unit => True) (fun _ t => va_P (dC, dI) classes [(r, .inr (0, [.int mo, .ref q, .int (nI n)])), (q, .inl (cA, N, .inl f))] t.heap ∧ va_K (dC, dI) classes [(cA, .int)] t ∧ va_D (va_A [(r, .inr (0, [.int mo, .ref q, .int (nI n)])), (q, .inl (cA, N, .inl f))] sz) [(r, .inr (0, [.int mo, .ref q, .int (nI n)])), (q, .inl (cA, N, .inl f))]) (va_A [(r, .inr (0, [.int mo, .ref q, .int (nI n)])), (q, .inl (cA, N, .inl f))] sz)) 0 0 (va_A [(r, .inr (0, [.int mo, .ref q, .int (nI n)])), (q, .inl (cA, N, .inl f))] sz) := by
  refine Met.ofW (cc := b_Row_push) (maxL := 2) (ret := none) (by decide) rfl ?_
  intro p e s m args below meth c s₁ B hml hv
  obtain ⟨rfl, hsz, hP, hK, hD0⟩ := hv
  have hx := B.exec
  have hb := B.bytes
  have hr := B.returns
  have hT : ∀ w ∈ vT, w.before _ s = true := fun w h => atoms_spec (ws := w_Row_push) B.pre w (List.mem_cons_of_mem _ h)
  have hown : s.vm.findClass R_Row = some m.cls := findClass_of_methodNamed B.named
  have hlocks := B.notSynchronized
  subst hsz
  have hD := hD0.self (sz := s.heap.size)
  generalize hAe : va_A [(r, .inr (0, [.int mo, .ref q, .int (nI n)])), (q, .inl (cA, N, .inl f))] s.heap.size = A at hD ⊢
  have hA : ∀ q : Nat, s.heap.size ≤ q → A q := fun q h => by rw [← hAe]; exact Or.inr h
  have hS : va_S A s.heap s.heap [] := va_S.rf
  have hP : va_P (dC, dI) classes [(r, .inr (0, [.int mo, .ref q, .int (nI n)])), (q, .inl (cA, N, .inl f))] s.heap := hP
  have hl := lv_entry ([.ref r, .int v]) (n := 2) (Nat.le_of_ble_eq_true rfl)
  rw [lg_entry_eq]
  generalize (lg_sl ([.ref r, .int v]) ++ List.replicate (2 - (lg_sl ([.ref r, .int v])).length) Slot.unset).toArray = ls at hl ⊢
  have hl : lv_has ls 2 [(0, .ref r), (1, .int v)] := hl
  refine lv_aload_n hx hb d_Row_push_0 rfl (lv_at hl 0 rfl) ?_
  refine va_get (D := (dC, dI)) (ci := 0) (v := .int (nI n)) (C := R_Row) (T := T_Row) (N := 3) hx hb hT in_Row hown hK hP 0 rfl rfl 2 (by decide) (hT _ vt_260) (fun _ h9 => h9) rfl d_Row_push_1 ?_
  refine lv_aload_n hx hb d_Row_push_4 rfl (lv_at hl 0 rfl) ?_
  refine va_get (D := (dC, dI)) (ci := 0) (v := .int mo) (C := R_Row) (T := T_Row) (N := 3) hx hb hT in_Row hown hK hP 0 rfl rfl 0 (by decide) (hT _ vt_85) (fun _ h9 => h9) rfl d_Row_push_5 ?_
  refine lv_icmp_lt (tgt := 12) hx hb d_Row_push_8 (by decide) (fun c_1 => absurd c_1 (hmo)) (fun c_1 => ?_)
  refine W.widen (k := 0) (n := 0) (Nat.le_of_ble_eq_true rfl) (Nat.le_of_ble_eq_true rfl) ?_
  have hP9 := hP.sub (ws' := [(r, .inr (0, [.int mo, .ref q, .int (nI n)])), (q, .inl (cA, N, .inl f))]) [0, 1] rfl
  have hD9 := hD.sub (ws' := [(r, .inr (0, [.int mo, .ref q, .int (nI n)])), (q, .inl (cA, N, .inl f))]) [0, 1] (by decide) rfl
  have hK9 := hK.sub (tys' := [(cA, .int)]) [0] rfl
  exact W.vret hx hb hr (fun t ht hW => ⟨⟨(), rfl, trivial, by rw [ht]; exact hP9, va_K.moved hW.alike hK9, hD9⟩, hS.F ht⟩) hS.2.2 d_Row_push_11
