set_option maxHeartbeats 4000000 in
set_option maxRecDepth 100000 in
/-- Arrays.copyOf to twice the size -/
theorem c_copy_int (l : Launch) (dC : Nat → ClassId) (dI : Nat → Nat → Nat) (sz : Nat) (q N : Nat) (cA : ClassId) (f : (Nat → Int32)) (h0 : 0 < N) (hN : N ≤ 2 ^ 24) : Met l y_Arr_copyOf_0 w_Arr_copyOf_0 { frames := 20, cells := 1, slots := 2 * N, locals := 600 } (Pw dC dI [.ref q, .int (nI (2 * N))] sz [(q, .inl (cA, N, .inl f))] [(cA, .int)]) (va_Qr (fun _ : Unit => True) (fun _ a t => va_P (dC, dI) classes [(q, .inl (cA, N, .inl f)), (a, .inl (cA, 2 * N, .inl (va_cpy f (fun _ => 0) 0 0 N)))] t.heap ∧ va_K (dC, dI) classes [(cA, .int)] t ∧ va_D (va_A [(q, .inl (cA, N, .inl f))] sz) [(q, .inl (cA, N, .inl f)), (a, .inl (cA, 2 * N, .inl (va_cpy f (fun _ => 0) 0 0 N)))]) (va_A [(q, .inl (cA, N, .inl f))] sz)) 1 (2 * N) (va_A [(q, .inl (cA, N, .inl f))] sz) := by
  refine Met.ofW (cc := b_Arr_copyOf_0) (maxL := 3) (ret := (some (.array .int))) (by decide) rfl ?_
  intro p e s m args below meth c s₁ B hml hv
  obtain ⟨rfl, hsz, hP, hK, hD0⟩ := hv
  have hx := B.exec
  have hb := B.bytes
  have hr := B.returns
  have hT : ∀ w ∈ vT, w.before _ s = true := fun w h => atoms_spec (ws := w_Arr_copyOf_0) B.pre w (List.mem_cons_of_mem _ h)
  have hown : s.vm.findClass R_Arr = some m.cls := findClass_of_methodNamed B.named
  have hlocks := B.notSynchronized
  subst hsz
  have hD := hD0.self (sz := s.heap.size)
  generalize hAe : va_A [(q, .inl (cA, N, .inl f))] s.heap.size = A at hD ⊢
  have hA : ∀ q : Nat, s.heap.size ≤ q → A q := fun q h => by rw [← hAe]; exact Or.inr h
  have hS : va_S A s.heap s.heap [] := va_S.rf
  have hP : va_P (dC, dI) classes [(q, .inl (cA, N, .inl f))] s.heap := hP
  have hl := lv_entry ([.ref q, .int (nI (2 * N))]) (n := 3) (Nat.le_of_ble_eq_true rfl)
  rw [lg_entry_eq]
  generalize (lg_sl ([.ref q, .int (nI (2 * N))]) ++ List.replicate (3 - (lg_sl ([.ref q, .int (nI (2 * N))])).length) Slot.unset).toArray = ls at hl ⊢
  have hl : lv_has ls 3 [(0, .ref q), (1, .int (nI (2 * N)))] := hl
  refine lv_iload_n hx hb d_Arr_copyOf_0_0 rfl (lv_at hl 1 rfl) ?_
  refine lv_aload_n hx hb d_Arr_copyOf_0_1 rfl (lv_at hl 0 rfl) ?_
  refine va_alen (v := (nI N)) hx hb hK hP 0 0 rfl rfl rfl d_Arr_copyOf_0_2 ?_
  refine lv_icmp_ne (tgt := 14) hx hb d_Arr_copyOf_0_3 (by decide) (fun c_1 => ?_) (fun c_1 => absurd c_1 (fun h => by have := (nI_eq (by omega) (by omega)).mp h; omega))
  refine lv_iload_n hx hb d_Arr_copyOf_0_14 rfl (lv_at hl 1 rfl) ?_
  refine va_newa (atype := .int) (ty := .int) (a0 := (2 * N, .inl (fun _ => 0))) hx hb (hT _ vt_83) rfl hK hP hD hS hA (fun _ => rfl) (nI_pos (by omega)) (nI_clamp (by omega)) (by show 2 * N * 4 ≤ 536870912; omega) (by show 0 + 1 ≤ 1; omega) (by show 0 + 2 * N ≤ 2 * N; omega) d_Arr_copyOf_0_15 (fun a cA1 H hK hP hD hS => ?_)
  have hK : va_K (dC, dI) classes [(cA, .int), (cA1, .int)] s := hK
  obtain rfl : cA1 = cA := Option.some.inj ((hK.2 1 _ rfl).2.symm.trans (hK.2 0 _ rfl).2)
  have hK := hK.sub (tys' := [(cA1, .int)]) [0] rfl
  have hP : va_P (dC, dI) classes [(q, .inl (cA1, N, .inl f)), (a, .inl (cA1, (2 * N), .inl (fun _ => 0)))] H := hP
  have hD : va_D A [(q, .inl (cA1, N, .inl f)), (a, .inl (cA1, (2 * N), .inl (fun _ => 0)))] := hD
  refine W.widen (k := 1) (n := 2 * N) (by omega) (by omega) ?_
  refine lv_astore_n (lv' := [(2, .ref a), (0, .ref q), (1, .int (nI (2 * N)))]) hx hb d_Arr_copyOf_0_17 rfl hl (by decide) rfl (fun ls hl => ?_)
  refine lv_aload_n hx hb d_Arr_copyOf_0_18 rfl (lv_at hl 1 rfl) ?_
  refine lv_iconst (v := 0) hx hb d_Arr_copyOf_0_19 (by decide) ?_
  refine lv_aload_n hx hb d_Arr_copyOf_0_20 rfl (lv_at hl 0 rfl) ?_
  refine lv_iconst (v := 0) hx hb d_Arr_copyOf_0_21 (by decide) ?_
  refine lv_aload_n hx hb d_Arr_copyOf_0_22 rfl (lv_at hl 1 rfl) ?_
  refine va_alen (v := (nI N)) hx hb hK hP 0 0 rfl rfl rfl d_Arr_copyOf_0_23 ?_
  refine lv_iload_n hx hb d_Arr_copyOf_0_24 rfl (lv_at hl 2 rfl) ?_
  refine va_mmin hx hb (hml.trans hl.1.symm) hown (hT _ vt_316) (hT _ vt_318) (hT _ vt_317) (hT _ vt_319) (Nat.le_of_ble_eq_true rfl) (Nat.le_of_ble_eq_true rfl) (Nat.le_refl 1) (Nat.le_refl (2 * N)) d_Arr_copyOf_0_25 ?_
  refine lv_topi (fun z ez => ?_)
  rw [if_neg (nI_nlt (by omega) (by omega))] at ez
  subst ez
  refine va_copyi hx hb (hml.trans hl.1.symm) hown (hT _ vt_320) (hT _ vt_1756) (hT _ vt_322) (hT _ vt_321) hK hP hD hS 0 1 0 0 rfl rfl rfl rfl rfl (by decide) (by decide) (nI_pos (by omega)) (by rw [nI_clamp (by omega)]; show 0 + N ≤ N; omega) (by rw [nI_clamp (by omega)]; show 0 + N ≤ 2 * N; omega) (fun _ _ => rfl) (Nat.le_of_ble_eq_true rfl) (Nat.le_of_ble_eq_true rfl) d_Arr_copyOf_0_28 (fun H locs hP hD hS => ?_)
  rw [nI_clamp (by omega)] at hP hD
  have hP : va_P (dC, dI) classes [(q, .inl (cA1, N, .inl f)), (a, .inl (cA1, (2 * N), .inl (va_cpy f (fun _ => 0) 0 0 N)))] H := hP
  have hD : va_D A [(q, .inl (cA1, N, .inl f)), (a, .inl (cA1, (2 * N), .inl (va_cpy f (fun _ => 0) 0 0 N)))] := hD
  refine lv_aload_n hx hb d_Arr_copyOf_0_31 rfl (lv_at hl 0 rfl) ?_
  exact W.aret (v := .ref a) hx hb hr (Or.inr ⟨_, rfl⟩) (Or.inr ⟨a, rfl⟩) (fun t ht hW => ⟨⟨(), a, rfl, trivial, by rw [ht]; exact hP, va_K.moved hW.alike hK, hD⟩, hS.F ht⟩) hS.2.2 d_Arr_copyOf_0_32
set_option maxHeartbeats 4000000 in
set_option maxRecDepth 100000 in
/-- Arrays.copyOf to twice the size -/
theorem c_copy_long (l : Launch) (dC : Nat → ClassId) (dI : Nat → Nat → Nat) (sz : Nat) (q N : Nat) (cA : ClassId) (f : (Nat → Int64)) (h0 : 0 < N) (hN : N ≤ 2 ^ 24) : Met l y_Arr_copyOf_1 w_Arr_copyOf_1 { frames := 20, cells := 1, slots := 2 * N, locals := 600 } (Pw dC dI [.ref q, .int (nI (2 * N))] sz [(q, .inl (cA, N, .inr (.inl f)))] [(cA, .long)]) (va_Qr (fun _ : Unit => True) (fun _ a t => va_P (dC, dI) classes [(q, .inl (cA, N, .inr (.inl f))), (a, .inl (cA, 2 * N, .inr (.inl (va_cpy f (fun _ => 0) 0 0 N))))] t.heap ∧ va_K (dC, dI) classes [(cA, .long)] t ∧ va_D (va_A [(q, .inl (cA, N, .inr (.inl f)))] sz) [(q, .inl (cA, N, .inr (.inl f))), (a, .inl (cA, 2 * N, .inr (.inl (va_cpy f (fun _ => 0) 0 0 N))))]) (va_A [(q, .inl (cA, N, .inr (.inl f)))] sz)) 1 (2 * N) (va_A [(q, .inl (cA, N, .inr (.inl f)))] sz) := by
  refine Met.ofW (cc := b_Arr_copyOf_1) (maxL := 3) (ret := (some (.array .long))) (by decide) rfl ?_
  intro p e s m args below meth c s₁ B hml hv
  obtain ⟨rfl, hsz, hP, hK, hD0⟩ := hv
  have hx := B.exec
  have hb := B.bytes
  have hr := B.returns
  have hT : ∀ w ∈ vT, w.before _ s = true := fun w h => atoms_spec (ws := w_Arr_copyOf_1) B.pre w (List.mem_cons_of_mem _ h)
  have hown : s.vm.findClass R_Arr = some m.cls := findClass_of_methodNamed B.named
  have hlocks := B.notSynchronized
  subst hsz
  have hD := hD0.self (sz := s.heap.size)
  generalize hAe : va_A [(q, .inl (cA, N, .inr (.inl f)))] s.heap.size = A at hD ⊢
  have hA : ∀ q : Nat, s.heap.size ≤ q → A q := fun q h => by rw [← hAe]; exact Or.inr h
  have hS : va_S A s.heap s.heap [] := va_S.rf
  have hP : va_P (dC, dI) classes [(q, .inl (cA, N, .inr (.inl f)))] s.heap := hP
  have hl := lv_entry ([.ref q, .int (nI (2 * N))]) (n := 3) (Nat.le_of_ble_eq_true rfl)
  rw [lg_entry_eq]
  generalize (lg_sl ([.ref q, .int (nI (2 * N))]) ++ List.replicate (3 - (lg_sl ([.ref q, .int (nI (2 * N))])).length) Slot.unset).toArray = ls at hl ⊢
  have hl : lv_has ls 3 [(0, .ref q), (1, .int (nI (2 * N)))] := hl
  refine lv_iload_n hx hb d_Arr_copyOf_1_0 rfl (lv_at hl 1 rfl) ?_
  refine lv_aload_n hx hb d_Arr_copyOf_1_1 rfl (lv_at hl 0 rfl) ?_
  refine va_alen (v := (nI N)) hx hb hK hP 0 0 rfl rfl rfl d_Arr_copyOf_1_2 ?_
  refine lv_icmp_ne (tgt := 14) hx hb d_Arr_copyOf_1_3 (by decide) (fun c_1 => ?_) (fun c_1 => absurd c_1 (fun h => by have := (nI_eq (by omega) (by omega)).mp h; omega))
  refine lv_iload_n hx hb d_Arr_copyOf_1_14 rfl (lv_at hl 1 rfl) ?_
  refine va_newa (atype := .long) (ty := .long) (a0 := (2 * N, .inr (.inl (fun _ => 0)))) hx hb (hT _ vt_95) rfl hK hP hD hS hA (fun _ => rfl) (nI_pos (by omega)) (nI_clamp (by omega)) (by show 2 * N * 8 ≤ 536870912; omega) (by show 0 + 1 ≤ 1; omega) (by show 0 + 2 * N ≤ 2 * N; omega) d_Arr_copyOf_1_15 (fun a cA1 H hK hP hD hS => ?_)
  have hK : va_K (dC, dI) classes [(cA, .long), (cA1, .long)] s := hK
  obtain rfl : cA1 = cA := Option.some.inj ((hK.2 1 _ rfl).2.symm.trans (hK.2 0 _ rfl).2)
  have hK := hK.sub (tys' := [(cA1, .long)]) [0] rfl
  have hP : va_P (dC, dI) classes [(q, .inl (cA1, N, .inr (.inl f))), (a, .inl (cA1, (2 * N), .inr (.inl (fun _ => 0))))] H := hP
  have hD : va_D A [(q, .inl (cA1, N, .inr (.inl f))), (a, .inl (cA1, (2 * N), .inr (.inl (fun _ => 0))))] := hD
  refine W.widen (k := 1) (n := 2 * N) (by omega) (by omega) ?_
  refine lv_astore_n (lv' := [(2, .ref a), (0, .ref q), (1, .int (nI (2 * N)))]) hx hb d_Arr_copyOf_1_17 rfl hl (by decide) rfl (fun ls hl => ?_)
  refine lv_aload_n hx hb d_Arr_copyOf_1_18 rfl (lv_at hl 1 rfl) ?_
  refine lv_iconst (v := 0) hx hb d_Arr_copyOf_1_19 (by decide) ?_
  refine lv_aload_n hx hb d_Arr_copyOf_1_20 rfl (lv_at hl 0 rfl) ?_
  refine lv_iconst (v := 0) hx hb d_Arr_copyOf_1_21 (by decide) ?_
  refine lv_aload_n hx hb d_Arr_copyOf_1_22 rfl (lv_at hl 1 rfl) ?_
  refine va_alen (v := (nI N)) hx hb hK hP 0 0 rfl rfl rfl d_Arr_copyOf_1_23 ?_
  refine lv_iload_n hx hb d_Arr_copyOf_1_24 rfl (lv_at hl 2 rfl) ?_
  refine va_mmin hx hb (hml.trans hl.1.symm) hown (hT _ vt_316) (hT _ vt_318) (hT _ vt_317) (hT _ vt_319) (Nat.le_of_ble_eq_true rfl) (Nat.le_of_ble_eq_true rfl) (Nat.le_refl 1) (Nat.le_refl (2 * N)) d_Arr_copyOf_1_25 ?_
  refine lv_topi (fun z ez => ?_)
  rw [if_neg (nI_nlt (by omega) (by omega))] at ez
  subst ez
  refine va_copyl hx hb (hml.trans hl.1.symm) hown (hT _ vt_320) (hT _ vt_1756) (hT _ vt_322) (hT _ vt_321) hK hP hD hS 0 1 0 0 rfl rfl rfl rfl rfl (by decide) (by decide) (nI_pos (by omega)) (by rw [nI_clamp (by omega)]; show 0 + N ≤ N; omega) (by rw [nI_clamp (by omega)]; show 0 + N ≤ 2 * N; omega) (fun _ _ => rfl) (Nat.le_of_ble_eq_true rfl) (Nat.le_of_ble_eq_true rfl) d_Arr_copyOf_1_28 (fun H locs hP hD hS => ?_)
  rw [nI_clamp (by omega)] at hP hD
  have hP : va_P (dC, dI) classes [(q, .inl (cA1, N, .inr (.inl f))), (a, .inl (cA1, (2 * N), .inr (.inl (va_cpy f (fun _ => 0) 0 0 N))))] H := hP
  have hD : va_D A [(q, .inl (cA1, N, .inr (.inl f))), (a, .inl (cA1, (2 * N), .inr (.inl (va_cpy f (fun _ => 0) 0 0 N))))] := hD
  refine lv_aload_n hx hb d_Arr_copyOf_1_31 rfl (lv_at hl 0 rfl) ?_
  exact W.aret (v := .ref a) hx hb hr (Or.inr ⟨_, rfl⟩) (Or.inr ⟨a, rfl⟩) (fun t ht hW => ⟨⟨(), a, rfl, trivial, by rw [ht]; exact hP, va_K.moved hW.alike hK, hD⟩, hS.F ht⟩) hS.2.2 d_Arr_copyOf_1_32
