set_option maxHeartbeats 4000000 in
set_option maxRecDepth 100000 in
/-- Row(k, mo) -/
theorem c_Row_init (l : Launch) (dC : Nat → ClassId) (dI : Nat → Nat → Nat) (sz : Nat) (h0 N : Nat) (k mo : Int32) (hk : ¬ k ≤ 0) (hk0 : ¬ k < 0) (hN : k.toNatClampNeg = N) (hNb : N * componentBytes .int ≤ 536870912) : Met l y_Row_init w_Row_init ({ frames := 10, cells := 1, slots := N, locals := 300 }) (Pw dC dI [.ref h0, .int k, .int mo] sz [(h0, .inr (0, [.int 0, .null, .int 0]))] []) (va_Qv (fun _ : Unit => True) (fun _ t => ∃ (qa : Nat) (cA : ClassId), va_P (dC, dI) classes [(h0, .inr (0, [.int mo, .ref qa, .int 0])), (qa, .inl (cA, N, .inl (fun _ => 0)))] t.heap ∧ va_K (dC, dI) classes [(cA, .int)] t ∧ va_D (va_A [(h0, .inr (0, [.int 0, .null, .int 0]))] sz) [(h0, .inr (0, [.int mo, .ref qa, .int 0])), (qa, .inl (cA, N, .inl (fun _ => 0)))]) (va_A [(h0, .inr (0, [.int 0, .null, .int 0]))] sz)) 1 N (va_A [(h0, .inr (0, [.int 0, .null, .int 0]))] sz) := by
  refine Met.ofW (cc := b_Row_init) (maxL := 3) (ret := none) (by decide) rfl ?_
  intro p e s m args below meth c s₁ B hml hv
  obtain ⟨rfl, hsz, hP, hK, hD0⟩ := hv
  have hx := B.exec
  have hb := B.bytes
  have hr := B.returns
  have hT : ∀ w ∈ vT, w.before _ s = true := fun w h => atoms_spec (ws := w_Row_init) B.pre w (List.mem_cons_of_mem _ h)
  have hown : s.vm.findClass R_Row = some m.cls := findClass_of_methodNamed B.named
  have hlocks := B.notSynchronized
  have hin : meth.name = "<init>" := (name_of_methodNamed B.named B.method).1
  subst hsz
  have hD := hD0.self (sz := s.heap.size)
  generalize hAe : va_A [(h0, .inr (0, [.int 0, .null, .int 0]))] s.heap.size = A at hD ⊢
  have hA : ∀ q : Nat, s.heap.size ≤ q → A q := fun q h => by rw [← hAe]; exact Or.inr h
  have hS : va_S A s.heap s.heap [] := va_S.rf
  have hP : va_P (dC, dI) classes [(h0, .inr (0, [.int 0, .null, .int 0]))] s.heap := hP
  have hl := lv_entry ([.ref h0, .int k, .int mo]) (n := 3) (Nat.le_of_ble_eq_true rfl)
  rw [lg_entry_eq]
  generalize (lg_sl ([.ref h0, .int k, .int mo]) ++ List.replicate (3 - (lg_sl ([.ref h0, .int k, .int mo])).length) Slot.unset).toArray = ls at hl ⊢
  have hl : lv_has ls 3 [(0, .ref h0), (1, .int k), (2, .int mo)] := hl
  refine lv_aload_n hx hb d_Row_init_0 rfl (lv_at hl 0 rfl) ?_
  refine W.objInit hx hb hown (hT _ vt_0) (hT _ vt_1) (hT _ vt_2) rfl (by rw [hml]; exact hl.1) rfl d_Row_init_1 (Nat.le_of_ble_eq_true rfl) (Nat.le_of_ble_eq_true rfl) ?_
  refine W.eq (g2 := F0 m 4 ls []) rfl ?_
  refine lv_aload_n hx hb d_Row_init_4 rfl (lv_at hl 0 rfl) ?_
  refine lv_iload_n hx hb d_Row_init_5 rfl (lv_at hl 1 rfl) ?_
  refine lv_if_le (tgt := 13) hx hb d_Row_init_6 (by decide) (fun c_1 => absurd c_1 (hk)) (fun c_1 => ?_)
  refine lv_iload_n hx hb d_Row_init_9 rfl (lv_at hl 1 rfl) ?_
  refine lv_goto (tgt := 14) hx hb d_Row_init_10 (by decide) ?_
  refine va_newa (atype := .int) (ty := .int) (a0 := (N, .inl (fun _ => 0))) hx hb (hT _ vt_3) rfl hK hP hD hS hA (fun _ => rfl) hk0 hN hNb (Nat.le_of_ble_eq_true rfl) (Nat.le_of_eq (Nat.zero_add N)) d_Row_init_14 (fun q_2 cA_3 H hK hP hD hS => ?_)
  have hK : va_K (dC, dI) classes [(cA_3, .int)] s := hK
  have hP : va_P (dC, dI) classes [(h0, .inr (0, [.int 0, .null, .int 0])), (q_2, .inl (cA_3, N, .inl (fun _ => 0)))] H := hP
  have hD : va_D A [(h0, .inr (0, [.int 0, .null, .int 0])), (q_2, .inl (cA_3, N, .inl (fun _ => 0)))] := hD
  refine W.widen (k := 1) (n := N) (Nat.le_refl _) (Nat.le_of_eq (Nat.zero_add N)) ?_
  refine va_put (D := (dC, dI)) (ci := 0) (v := .ref q_2) (ty := (.array .int)) (C := R_Row) (T := T_Row) (N := 3) hx hb hT in_Row ty_Row tyo_Row nm_Row hown hK hP hD hS 0 rfl rfl 1 (by decide) (hT _ vt_4) (fun _ h9 => h9) rfl (by decide +kernel) rfl rfl (Nat.le_of_ble_eq_true rfl) d_Row_init_16 (fun H locs hP hD hS => ?_)
  have hP : va_P (dC, dI) classes [(h0, .inr (0, [.int 0, .ref q_2, .int 0])), (q_2, .inl (cA_3, N, .inl (fun _ => 0)))] H := hP
  have hD : va_D A [(h0, .inr (0, [.int 0, .ref q_2, .int 0])), (q_2, .inl (cA_3, N, .inl (fun _ => 0)))] := hD
  refine lv_aload_n hx hb d_Row_init_19 rfl (lv_at hl 0 rfl) ?_
  refine lv_iload_n hx hb d_Row_init_20 rfl (lv_at hl 2 rfl) ?_
  refine va_putF (D := (dC, dI)) (ci := 0) (v := .int mo) (ty := .int) (C := R_Row) (T := T_Row) (N := 3) hx hb hT in_Row ty_Row tyo_Row nm_Row hown hK hP hD hS 0 rfl rfl 0 (by decide) (hT _ vt_5) (fun _ h9 => h9) rfl hin rfl (by decide +kernel) rfl rfl (Nat.le_of_ble_eq_true rfl) d_Row_init_21 (fun H locs hP hD hS => ?_)
  have hP : va_P (dC, dI) classes [(h0, .inr (0, [.int mo, .ref q_2, .int 0])), (q_2, .inl (cA_3, N, .inl (fun _ => 0)))] H := hP
  have hD : va_D A [(h0, .inr (0, [.int mo, .ref q_2, .int 0])), (q_2, .inl (cA_3, N, .inl (fun _ => 0)))] := hD
  have hP9 := hP.sub (ws' := [(h0, .inr (0, [.int mo, .ref q_2, .int 0])), (q_2, .inl (cA_3, N, .inl (fun _ => 0)))]) [0, 1] rfl
  have hD9 := hD.sub (ws' := [(h0, .inr (0, [.int mo, .ref q_2, .int 0])), (q_2, .inl (cA_3, N, .inl (fun _ => 0)))]) [0, 1] (by decide) rfl
  have hK9 := hK.sub (tys' := [(cA_3, .int)]) [0] rfl
  exact W.vret hx hb hr (fun t ht hW => ⟨⟨(), rfl, trivial, q_2, cA_3, by rw [ht]; exact hP9, va_K.moved hW.alike hK9, hD9⟩, hS.F ht⟩) hS.2.2 d_Row_init_24
set_option maxHeartbeats 4000000 in
set_option maxRecDepth 100000 in
/-- Row.size -/
theorem c_Row_size (l : Launch) (dC : Nat → ClassId) (dI : Nat → Nat → Nat) (r q : Nat) (mo n : Int32) : Met l y_Row_size w_Row_size ({ frames := 10, cells := 0, slots := 0, locals := 300 }) (Pp dC dI [.ref r] [(r, .inr (0, [.int mo, .ref q, .int n]))] []) (QcRead n) 0 0 (fun _ => False) := by
  refine Met.ofW (cc := b_Row_size) (maxL := 1) (ret := (some .int)) (by decide) rfl ?_
  intro p e s m args below meth c s₁ B hml hv
  obtain ⟨rfl, hP, hK⟩ := hv
  have hx := B.exec
  have hb := B.bytes
  have hr := B.returns
  have hT : ∀ w ∈ vT, w.before _ s = true := fun w h => atoms_spec (ws := w_Row_size) B.pre w (List.mem_cons_of_mem _ h)
  have hown : s.vm.findClass R_Row = some m.cls := findClass_of_methodNamed B.named
  have hlocks := B.notSynchronized
  have hP : va_P (dC, dI) classes [(r, .inr (0, [.int mo, .ref q, .int n]))] s.heap := hP
  have hl := lv_entry ([.ref r]) (n := 1) (Nat.le_of_ble_eq_true rfl)
  rw [lg_entry_eq]
  generalize (lg_sl ([.ref r]) ++ List.replicate (1 - (lg_sl ([.ref r])).length) Slot.unset).toArray = ls at hl ⊢
  have hl : lv_has ls 1 [(0, .ref r)] := hl
  refine lv_aload_n hx hb d_Row_size_0 rfl (lv_at hl 0 rfl) ?_
  refine va_get (D := (dC, dI)) (ci := 0) (v := .int n) (C := R_Row) (T := T_Row) (N := 3) hx hb hT in_Row hown hK hP 0 rfl rfl 2 (by decide) (hT _ vt_6) (fun _ h9 => h9) rfl d_Row_size_1 ?_
  exact W.iret (v := n) hx hb hr (fun t ht hW => ⟨rfl, ht⟩) (fun _ h => nomatch h) d_Row_size_4
set_option maxHeartbeats 4000000 in
set_option maxRecDepth 100000 in
/-- Row.at behind its end -/
theorem c_Row_at0 (l : Launch) (dC : Nat → ClassId) (dI : Nat → Nat → Nat) (r q : Nat) (mo n i : Int32) (hi : ¬ i < 0) (hn : n ≤ i) : Met l y_Row_at w_Row_at ({ frames := 10, cells := 0, slots := 0, locals := 300 }) (Pp dC dI [.ref r, .int i] [(r, .inr (0, [.int mo, .ref q, .int n]))] []) (QcRead 0) 0 0 (fun _ => False) := by
  refine Met.ofW (cc := b_Row_at) (maxL := 2) (ret := (some .int)) (by decide) rfl ?_
  intro p e s m args below meth c s₁ B hml hv
  obtain ⟨rfl, hP, hK⟩ := hv
  have hx := B.exec
  have hb := B.bytes
  have hr := B.returns
  have hT : ∀ w ∈ vT, w.before _ s = true := fun w h => atoms_spec (ws := w_Row_at) B.pre w (List.mem_cons_of_mem _ h)
  have hown : s.vm.findClass R_Row = some m.cls := findClass_of_methodNamed B.named
  have hlocks := B.notSynchronized
  have hP : va_P (dC, dI) classes [(r, .inr (0, [.int mo, .ref q, .int n]))] s.heap := hP
  have hl := lv_entry ([.ref r, .int i]) (n := 2) (Nat.le_of_ble_eq_true rfl)
  rw [lg_entry_eq]
  generalize (lg_sl ([.ref r, .int i]) ++ List.replicate (2 - (lg_sl ([.ref r, .int i])).length) Slot.unset).toArray = ls at hl ⊢
  have hl : lv_has ls 2 [(0, .ref r), (1, .int i)] := hl
  refine lv_iload_n hx hb d_Row_at_0 rfl (lv_at hl 1 rfl) ?_
  refine lv_if_lt (tgt := 21) hx hb d_Row_at_1 (by decide) (fun c_1 => absurd c_1 (hi)) (fun c_1 => ?_)
  refine lv_iload_n hx hb d_Row_at_4 rfl (lv_at hl 1 rfl) ?_
  refine lv_aload_n hx hb d_Row_at_5 rfl (lv_at hl 0 rfl) ?_
  refine va_get (D := (dC, dI)) (ci := 0) (v := .int n) (C := R_Row) (T := T_Row) (N := 3) hx hb hT in_Row hown hK hP 0 rfl rfl 2 (by decide) (hT _ vt_6) (fun _ h9 => h9) rfl d_Row_at_6 ?_
  refine lv_icmp_ge (tgt := 21) hx hb d_Row_at_9 (by decide) (fun c_2 => ?_) (fun c_2 => absurd (hn) c_2)
  refine lv_iconst (v := 0) hx hb d_Row_at_21 (by decide) ?_
  exact W.iret (v := 0) hx hb hr (fun t ht hW => ⟨rfl, ht⟩) (fun _ h => nomatch h) d_Row_at_22
set_option maxHeartbeats 4000000 in
set_option maxRecDepth 100000 in
/-- Row.at within -/
theorem c_Row_at (l : Launch) (dC : Nat → ClassId) (dI : Nat → Nat → Nat) (r q N : Nat) (cA : ClassId) (f : Nat → Int32) (mo n i : Int32) (hi : ¬ i < 0) (hn : ¬ n ≤ i) (hv : vp_in i N) : Met l y_Row_at w_Row_at ({ frames := 10, cells := 0, slots := 0, locals := 300 }) (Pp dC dI [.ref r, .int i] [(r, .inr (0, [.int mo, .ref q, .int n])), (q, .inl (cA, N, .inl f))] [(cA, .int)]) (QcRead (f i.toNatClampNeg)) 0 0 (fun _ => False) := by
  refine Met.ofW (cc := b_Row_at) (maxL := 2) (ret := (some .int)) (by decide) rfl ?_
  intro p e s m args below meth c s₁ B hml hv
  obtain ⟨rfl, hP, hK⟩ := hv
  have hx := B.exec
  have hb := B.bytes
  have hr := B.returns
  have hT : ∀ w ∈ vT, w.before _ s = true := fun w h => atoms_spec (ws := w_Row_at) B.pre w (List.mem_cons_of_mem _ h)
  have hown : s.vm.findClass R_Row = some m.cls := findClass_of_methodNamed B.named
  have hlocks := B.notSynchronized
  have hP : va_P (dC, dI) classes [(r, .inr (0, [.int mo, .ref q, .int n])), (q, .inl (cA, N, .inl f))] s.heap := hP
  have hl := lv_entry ([.ref r, .int i]) (n := 2) (Nat.le_of_ble_eq_true rfl)
  rw [lg_entry_eq]
  generalize (lg_sl ([.ref r, .int i]) ++ List.replicate (2 - (lg_sl ([.ref r, .int i])).length) Slot.unset).toArray = ls at hl ⊢
  have hl : lv_has ls 2 [(0, .ref r), (1, .int i)] := hl
  refine lv_iload_n hx hb d_Row_at_0 rfl (lv_at hl 1 rfl) ?_
  refine lv_if_lt (tgt := 21) hx hb d_Row_at_1 (by decide) (fun c_1 => absurd c_1 (hi)) (fun c_1 => ?_)
  refine lv_iload_n hx hb d_Row_at_4 rfl (lv_at hl 1 rfl) ?_
  refine lv_aload_n hx hb d_Row_at_5 rfl (lv_at hl 0 rfl) ?_
  refine va_get (D := (dC, dI)) (ci := 0) (v := .int n) (C := R_Row) (T := T_Row) (N := 3) hx hb hT in_Row hown hK hP 0 rfl rfl 2 (by decide) (hT _ vt_6) (fun _ h9 => h9) rfl d_Row_at_6 ?_
  refine lv_icmp_ge (tgt := 21) hx hb d_Row_at_9 (by decide) (fun c_2 => absurd c_2 (hn)) (fun c_2 => ?_)
  refine lv_aload_n hx hb d_Row_at_12 rfl (lv_at hl 0 rfl) ?_
  refine va_get (D := (dC, dI)) (ci := 0) (v := .ref q) (C := R_Row) (T := T_Row) (N := 3) hx hb hT in_Row hown hK hP 0 rfl rfl 1 (by decide) (hT _ vt_4) (fun _ h9 => h9) rfl d_Row_at_13 ?_
  refine lv_iload_n hx hb d_Row_at_16 rfl (lv_at hl 1 rfl) ?_
  refine va_iald hx hb hK hP 1 0 rfl rfl hv d_Row_at_17 ?_
  refine lv_goto (tgt := 22) hx hb d_Row_at_18 (by decide) ?_
  exact W.iret (v := (f i.toNatClampNeg)) hx hb hr (fun t ht hW => ⟨rfl, ht⟩) (fun _ h => nomatch h) d_Row_at_22
set_option maxHeartbeats 4000000 in
set_option maxRecDepth 100000 in
/-- Row.push, with room -/
theorem c_Row_push (l : Launch) (dC : Nat → ClassId) (dI : Nat → Nat → Nat) (sz : Nat) (r q N k : Nat) (cA : ClassId) (f : Nat → Int32) (mo v : Int32) (hkN : k < N) (hN : N < 2 ^ 31) (hm : nI k < mo) : Met l y_Row_push w_Row_push ({ frames := 10, cells := 0, slots := 0, locals := 300 }) (Pw dC dI [.ref r, .int v] sz [(r, .inr (0, [.int mo, .ref q, .int (nI k)])), (q, .inl (cA, N, .inl f))] [(cA, .int)]) (va_Qv (fun _ : Unit => True) (fun _ t => va_P (dC, dI) classes [(r, .inr (0, [.int mo, .ref q, .int (nI (k + 1))])), (q, .inl (cA, N, .inl (upd f k v)))] t.heap ∧ va_K (dC, dI) classes [(cA, .int)] t ∧ va_D (va_A [(r, .inr (0, [.int mo, .ref q, .int (nI k)])), (q, .inl (cA, N, .inl f))] sz) [(r, .inr (0, [.int mo, .ref q, .int (nI (k + 1))])), (q, .inl (cA, N, .inl (upd f k v)))]) (va_A [(r, .inr (0, [.int mo, .ref q, .int (nI k)])), (q, .inl (cA, N, .inl f))] sz)) 0 0 (va_A [(r, .inr (0, [.int mo, .ref q, .int (nI k)])), (q, .inl (cA, N, .inl f))] sz) := by
  refine Met.ofW (cc := b_Row_push) (maxL := 2) (ret := none) (by decide) rfl ?_
  intro p e s m args below meth c s₁ B hml hv
  obtain ⟨rfl, hsz, hP, hK, hD0⟩ := hv
  have hx := B.exec
  have hb := B.bytes
  have hr := B.returns
  have hT : ∀ w ∈ vT, w.before _ s = true := fun w h => atoms_spec (ws := w_Row_push) B.pre w (List.mem_cons_of_mem _ h)
  have hown : s.vm.findClass R_Row = some m.cls := findClass_of_methodNamed B.named
  have hlocks := B.notSynchronized
  subst hsz
  have hD := hD0.self (sz := s.heap.size)
  generalize hAe : va_A [(r, .inr (0, [.int mo, .ref q, .int (nI k)])), (q, .inl (cA, N, .inl f))] s.heap.size = A at hD ⊢
  have hA : ∀ q : Nat, s.heap.size ≤ q → A q := fun q h => by rw [← hAe]; exact Or.inr h
  have hS : va_S A s.heap s.heap [] := va_S.rf
  have hP : va_P (dC, dI) classes [(r, .inr (0, [.int mo, .ref q, .int (nI k)])), (q, .inl (cA, N, .inl f))] s.heap := hP
  have hl := lv_entry ([.ref r, .int v]) (n := 2) (Nat.le_of_ble_eq_true rfl)
  rw [lg_entry_eq]
  generalize (lg_sl ([.ref r, .int v]) ++ List.replicate (2 - (lg_sl ([.ref r, .int v])).length) Slot.unset).toArray = ls at hl ⊢
  have hl : lv_has ls 2 [(0, .ref r), (1, .int v)] := hl
  have hin1 : vp_in (nI k) N := vp_in_nI hkN hN
  have hne : ¬ nI k = Int32.ofNat N := fun h => absurd ((nI_eq (by omega) hN).mp h) (by omega)
  have hcl : (nI k).toNatClampNeg = k := nI_clamp (by omega)
  refine lv_aload_n hx hb d_Row_push_0 rfl (lv_at hl 0 rfl) ?_
  refine va_get (D := (dC, dI)) (ci := 0) (v := .int (nI k)) (C := R_Row) (T := T_Row) (N := 3) hx hb hT in_Row hown hK hP 0 rfl rfl 2 (by decide) (hT _ vt_6) (fun _ h9 => h9) rfl d_Row_push_1 ?_
  refine lv_aload_n hx hb d_Row_push_4 rfl (lv_at hl 0 rfl) ?_
  refine va_get (D := (dC, dI)) (ci := 0) (v := .int mo) (C := R_Row) (T := T_Row) (N := 3) hx hb hT in_Row hown hK hP 0 rfl rfl 0 (by decide) (hT _ vt_5) (fun _ h9 => h9) rfl d_Row_push_5 ?_
  refine lv_icmp_lt (tgt := 12) hx hb d_Row_push_8 (by decide) (fun c_1 => ?_) (fun c_1 => absurd (hm) c_1)
  refine lv_aload_n hx hb d_Row_push_12 rfl (lv_at hl 0 rfl) ?_
  refine va_get (D := (dC, dI)) (ci := 0) (v := .int (nI k)) (C := R_Row) (T := T_Row) (N := 3) hx hb hT in_Row hown hK hP 0 rfl rfl 2 (by decide) (hT _ vt_6) (fun _ h9 => h9) rfl d_Row_push_13 ?_
  refine lv_aload_n hx hb d_Row_push_16 rfl (lv_at hl 0 rfl) ?_
  refine va_get (D := (dC, dI)) (ci := 0) (v := .ref q) (C := R_Row) (T := T_Row) (N := 3) hx hb hT in_Row hown hK hP 0 rfl rfl 1 (by decide) (hT _ vt_4) (fun _ h9 => h9) rfl d_Row_push_17 ?_
  refine va_alen (v := (Int32.ofNat N)) hx hb hK hP 1 0 rfl rfl rfl d_Row_push_20 ?_
  refine lv_icmp_ne (tgt := 41) hx hb d_Row_push_21 (by decide) (fun c_2 => ?_) (fun c_2 => absurd c_2 (hne))
  refine lv_aload_n hx hb d_Row_push_41 rfl (lv_at hl 0 rfl) ?_
  refine va_get (D := (dC, dI)) (ci := 0) (v := .ref q) (C := R_Row) (T := T_Row) (N := 3) hx hb hT in_Row hown hK hP 0 rfl rfl 1 (by decide) (hT _ vt_4) (fun _ h9 => h9) rfl d_Row_push_42 ?_
  refine lv_aload_n hx hb d_Row_push_45 rfl (lv_at hl 0 rfl) ?_
  refine va_get (D := (dC, dI)) (ci := 0) (v := .int (nI k)) (C := R_Row) (T := T_Row) (N := 3) hx hb hT in_Row hown hK hP 0 rfl rfl 2 (by decide) (hT _ vt_6) (fun _ h9 => h9) rfl d_Row_push_46 ?_
  refine lv_iload_n hx hb d_Row_push_49 rfl (lv_at hl 1 rfl) ?_
  refine va_iast hx hb hK hP hD hS 1 0 rfl rfl hin1 d_Row_push_50 (fun H locs hP hD hS => ?_)
  have hP : va_P (dC, dI) classes [(r, .inr (0, [.int mo, .ref q, .int (nI k)])), (q, .inl (cA, N, .inl (upd f k v)))] H := by rw [hcl] at hP; exact hP
  have hD : va_D A [(r, .inr (0, [.int mo, .ref q, .int (nI k)])), (q, .inl (cA, N, .inl (upd f k v)))] := by rw [hcl] at hD; exact hD
  refine lv_aload_n hx hb d_Row_push_51 rfl (lv_at hl 0 rfl) ?_
  refine lv_dup hx hb d_Row_push_52 rfl ?_
  refine va_get (D := (dC, dI)) (ci := 0) (v := .int (nI k)) (C := R_Row) (T := T_Row) (N := 3) hx hb hT in_Row hown hK hP 0 rfl rfl 2 (by decide) (hT _ vt_6) (fun _ h9 => h9) rfl d_Row_push_53 ?_
  refine lv_iconst (v := 1) hx hb d_Row_push_56 (by decide) ?_
  refine lv_iadd hx hb d_Row_push_57 ?_
  rw [nI_1]
  refine va_put (D := (dC, dI)) (ci := 0) (v := .int (nI (k + 1))) (ty := .int) (C := R_Row) (T := T_Row) (N := 3) hx hb hT in_Row ty_Row tyo_Row nm_Row hown hK hP hD hS 0 rfl rfl 2 (by decide) (hT _ vt_6) (fun _ h9 => h9) rfl (by decide +kernel) rfl rfl (Nat.le_of_ble_eq_true rfl) d_Row_push_58 (fun H locs hP hD hS => ?_)
  have hP : va_P (dC, dI) classes [(r, .inr (0, [.int mo, .ref q, .int (nI (k + 1))])), (q, .inl (cA, N, .inl (upd f k v)))] H := hP
  have hD : va_D A [(r, .inr (0, [.int mo, .ref q, .int (nI (k + 1))])), (q, .inl (cA, N, .inl (upd f k v)))] := hD
  refine W.widen (k := 0) (n := 0) (Nat.le_of_ble_eq_true rfl) (Nat.le_of_ble_eq_true rfl) ?_
  have hP9 := hP.sub (ws' := [(r, .inr (0, [.int mo, .ref q, .int (nI (k + 1))])), (q, .inl (cA, N, .inl (upd f k v)))]) [0, 1] rfl
  have hD9 := hD.sub (ws' := [(r, .inr (0, [.int mo, .ref q, .int (nI (k + 1))])), (q, .inl (cA, N, .inl (upd f k v)))]) [0, 1] (by decide) rfl
  have hK9 := hK.sub (tys' := [(cA, .int)]) [0] rfl
  exact W.vret hx hb hr (fun t ht hW => ⟨⟨(), rfl, trivial, by rw [ht]; exact hP9, va_K.moved hW.alike hK9, hD9⟩, hS.F ht⟩) hS.2.2 d_Row_push_61
set_option maxHeartbeats 4000000 in
set_option maxRecDepth 100000 in
/-- Row.cut at or behind its end -/
theorem c_Row_cut (l : Launch) (dC : Nat → ClassId) (dI : Nat → Nat → Nat) (r q : Nat) (mo n i : Int32) (hi : ¬ i < 0) (hn : n ≤ i) : Met l y_Row_cut w_Row_cut ({ frames := 10, cells := 0, slots := 0, locals := 300 }) (Pp dC dI [.ref r, .int i] [(r, .inr (0, [.int mo, .ref q, .int n]))] []) (vx_QU) 0 0 (fun _ => False) := by
  refine Met.ofW (cc := b_Row_cut) (maxL := 2) (ret := none) (by decide) rfl ?_
  intro p e s m args below meth c s₁ B hml hv
  obtain ⟨rfl, hP, hK⟩ := hv
  have hx := B.exec
  have hb := B.bytes
  have hr := B.returns
  have hT : ∀ w ∈ vT, w.before _ s = true := fun w h => atoms_spec (ws := w_Row_cut) B.pre w (List.mem_cons_of_mem _ h)
  have hown : s.vm.findClass R_Row = some m.cls := findClass_of_methodNamed B.named
  have hlocks := B.notSynchronized
  have hP : va_P (dC, dI) classes [(r, .inr (0, [.int mo, .ref q, .int n]))] s.heap := hP
  have hl := lv_entry ([.ref r, .int i]) (n := 2) (Nat.le_of_ble_eq_true rfl)
  rw [lg_entry_eq]
  generalize (lg_sl ([.ref r, .int i]) ++ List.replicate (2 - (lg_sl ([.ref r, .int i])).length) Slot.unset).toArray = ls at hl ⊢
  have hl : lv_has ls 2 [(0, .ref r), (1, .int i)] := hl
  refine lv_iload_n hx hb d_Row_cut_0 rfl (lv_at hl 1 rfl) ?_
  refine lv_if_lt (tgt := 17) hx hb d_Row_cut_1 (by decide) (fun c_1 => absurd c_1 (hi)) (fun c_1 => ?_)
  refine lv_iload_n hx hb d_Row_cut_4 rfl (lv_at hl 1 rfl) ?_
  refine lv_aload_n hx hb d_Row_cut_5 rfl (lv_at hl 0 rfl) ?_
  refine va_get (D := (dC, dI)) (ci := 0) (v := .int n) (C := R_Row) (T := T_Row) (N := 3) hx hb hT in_Row hown hK hP 0 rfl rfl 2 (by decide) (hT _ vt_6) (fun _ h9 => h9) rfl d_Row_cut_6 ?_
  refine lv_icmp_ge (tgt := 17) hx hb d_Row_cut_9 (by decide) (fun c_2 => ?_) (fun c_2 => absurd (hn) c_2)
  exact W.vret hx hb hr (fun t ht hW => ⟨rfl, ht⟩) (fun _ h => nomatch h) d_Row_cut_17
