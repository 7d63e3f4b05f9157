/-- what a row of n numbers says at i -/
def rowAt (f : Nat → Int32) (n : Nat) (i : Int32) : Int32 := if i < 0 ∨ nI n ≤ i then 0 else f i.toNatClampNeg
/-- a row after put -/
def rowPut (f : Nat → Int32) (n : Nat) (i v : Int32) : Nat → Int32 := if i < 0 ∨ nI n ≤ i then f else upd f i.toNatClampNeg v
/-- its length after cut -/
def rowCut (n : Nat) (i : Int32) : Nat := if i < 0 ∨ nI n ≤ i then n else i.toNatClampNeg
theorem row_in {n N : Nat} {i : Int32} (hn : n ≤ N) (hN : N < 2 ^ 31) (h0 : ¬ i < 0) (h1 : ¬ nI n ≤ i) : ∃ j : Nat, j < n ∧ i = nI j ∧ vp_in i N ∧ i.toNatClampNeg = j := by
  obtain ⟨j, hj, rfl⟩ := nI_of h0
  have h2 : j < n := Nat.not_le.mp fun q => h1 (nI_le q hj)
  exact ⟨j, h2, rfl, vp_in_nI (by omega) hN, nI_clamp hj⟩
set_option maxHeartbeats 4000000 in
set_option maxRecDepth 100000 in
/-- Row.size -/
theorem c_Row_size (l : Launch) (dC : Nat → ClassId) (dI : Nat → Nat → Nat) (r q n : Nat) (mo : Int32) : Met l y_Row_size w_Row_size ({ frames := 10, cells := 0, slots := 0, locals := 300 }) (Pp dC dI [.ref r] [(r, .inr (0, [.int mo, .ref q, .int (nI n)]))] []) (QcRead (nI n)) 0 0 (fun _ => False) := by
  refine Met.ofW (cc := b_Row_size) (maxL := 1) (ret := (some .int)) (by decide) rfl ?_
  intro p e s m args below meth c s₁ B hml hv
  obtain ⟨rfl, hP, hK⟩ := hv
  have hx := B.exec
  have hb := B.bytes
  have hr := B.returns
  have hT : ∀ w ∈ vT, w.before _ s = true := fun w h => atoms_spec (ws := w_Row_size) B.pre w (List.mem_cons_of_mem _ h)
  have hown : s.vm.findClass R_Row = some m.cls := findClass_of_methodNamed B.named
  have hlocks := B.notSynchronized
  have hP : va_P (dC, dI) classes [(r, .inr (0, [.int mo, .ref q, .int (nI n)]))] s.heap := hP
  have hl := lv_entry ([.ref r]) (n := 1) (Nat.le_of_ble_eq_true rfl)
  rw [lg_entry_eq]
  generalize (lg_sl ([.ref r]) ++ List.replicate (1 - (lg_sl ([.ref r])).length) Slot.unset).toArray = ls at hl ⊢
  have hl : lv_has ls 1 [(0, .ref r)] := hl
  refine lv_aload_n hx hb d_Row_size_0 rfl (lv_at hl 0 rfl) ?_
  refine va_get (D := (dC, dI)) (ci := 0) (v := .int (nI n)) (C := R_Row) (T := T_Row) (N := 3) hx hb hT in_Row hown hK hP 0 rfl rfl 2 (by decide) (hT _ vt_260) (fun _ h9 => h9) rfl d_Row_size_1 ?_
  exact W.iret (v := (nI n)) hx hb hr (fun t ht hW => ⟨rfl, ht⟩) (fun _ h => nomatch h) d_Row_size_4
set_option maxHeartbeats 4000000 in
set_option maxRecDepth 100000 in
/-- Row.at -/
theorem c_Row_at (l : Launch) (dC : Nat → ClassId) (dI : Nat → Nat → Nat) (r q N n : Nat) (cA : ClassId) (f : Nat → Int32) (mo : Int32) (hn : n ≤ N) (hN : N < 2 ^ 31) (i : Int32) : Met l y_Row_at w_Row_at ({ frames := 10, cells := 0, slots := 0, locals := 300 }) (Pp dC dI [.ref r, .int i] [(r, .inr (0, [.int mo, .ref q, .int (nI n)])), (q, .inl (cA, N, .inl f))] [(cA, .int)]) (QcRead (rowAt f n i)) 0 0 (fun _ => False) := by
  refine Met.ofW (cc := b_Row_at) (maxL := 2) (ret := (some .int)) (by decide) rfl ?_
  intro p e s m args below meth c s₁ B hml hv
  obtain ⟨rfl, hP, hK⟩ := hv
  have hx := B.exec
  have hb := B.bytes
  have hr := B.returns
  have hT : ∀ w ∈ vT, w.before _ s = true := fun w h => atoms_spec (ws := w_Row_at) B.pre w (List.mem_cons_of_mem _ h)
  have hown : s.vm.findClass R_Row = some m.cls := findClass_of_methodNamed B.named
  have hlocks := B.notSynchronized
  have hP : va_P (dC, dI) classes [(r, .inr (0, [.int mo, .ref q, .int (nI n)])), (q, .inl (cA, N, .inl f))] s.heap := hP
  have hl := lv_entry ([.ref r, .int i]) (n := 2) (Nat.le_of_ble_eq_true rfl)
  rw [lg_entry_eq]
  generalize (lg_sl ([.ref r, .int i]) ++ List.replicate (2 - (lg_sl ([.ref r, .int i])).length) Slot.unset).toArray = ls at hl ⊢
  have hl : lv_has ls 2 [(0, .ref r), (1, .int i)] := hl
  by_cases h0 : i < 0
  · skip
    refine lv_iload_n hx hb d_Row_at_0 rfl (lv_at hl 1 rfl) ?_
    refine lv_if_lt (tgt := 21) hx hb d_Row_at_1 (by decide) (fun c_1 => ?_) (fun c_1 => absurd (h0) c_1)
    refine lv_iconst (v := 0) hx hb d_Row_at_21 (by decide) ?_
    exact W.iret (v := 0) hx hb hr (fun t ht hW => ⟨by rw [rowAt, if_pos (Or.inl h0)], ht⟩) (fun _ h => nomatch h) d_Row_at_22
  · skip
    by_cases h1 : nI n ≤ i
    · skip
      refine lv_iload_n hx hb d_Row_at_0 rfl (lv_at hl 1 rfl) ?_
      refine lv_if_lt (tgt := 21) hx hb d_Row_at_1 (by decide) (fun c_1 => absurd c_1 (h0)) (fun c_1 => ?_)
      refine lv_iload_n hx hb d_Row_at_4 rfl (lv_at hl 1 rfl) ?_
      refine lv_aload_n hx hb d_Row_at_5 rfl (lv_at hl 0 rfl) ?_
      refine va_get (D := (dC, dI)) (ci := 0) (v := .int (nI n)) (C := R_Row) (T := T_Row) (N := 3) hx hb hT in_Row hown hK hP 0 rfl rfl 2 (by decide) (hT _ vt_260) (fun _ h9 => h9) rfl d_Row_at_6 ?_
      refine lv_icmp_ge (tgt := 21) hx hb d_Row_at_9 (by decide) (fun c_2 => ?_) (fun c_2 => absurd (h1) c_2)
      refine lv_iconst (v := 0) hx hb d_Row_at_21 (by decide) ?_
      exact W.iret (v := 0) hx hb hr (fun t ht hW => ⟨by rw [rowAt, if_pos (Or.inr h1)], ht⟩) (fun _ h => nomatch h) d_Row_at_22
    · skip
      obtain ⟨j, hj, hij, hv, hcl⟩ := row_in hn hN h0 h1
      refine lv_iload_n hx hb d_Row_at_0 rfl (lv_at hl 1 rfl) ?_
      refine lv_if_lt (tgt := 21) hx hb d_Row_at_1 (by decide) (fun c_1 => absurd c_1 (h0)) (fun c_1 => ?_)
      refine lv_iload_n hx hb d_Row_at_4 rfl (lv_at hl 1 rfl) ?_
      refine lv_aload_n hx hb d_Row_at_5 rfl (lv_at hl 0 rfl) ?_
      refine va_get (D := (dC, dI)) (ci := 0) (v := .int (nI n)) (C := R_Row) (T := T_Row) (N := 3) hx hb hT in_Row hown hK hP 0 rfl rfl 2 (by decide) (hT _ vt_260) (fun _ h9 => h9) rfl d_Row_at_6 ?_
      refine lv_icmp_ge (tgt := 21) hx hb d_Row_at_9 (by decide) (fun c_2 => absurd c_2 (h1)) (fun c_2 => ?_)
      refine lv_aload_n hx hb d_Row_at_12 rfl (lv_at hl 0 rfl) ?_
      refine va_get (D := (dC, dI)) (ci := 0) (v := .ref q) (C := R_Row) (T := T_Row) (N := 3) hx hb hT in_Row hown hK hP 0 rfl rfl 1 (by decide) (hT _ vt_84) (fun _ h9 => h9) rfl d_Row_at_13 ?_
      refine lv_iload_n hx hb d_Row_at_16 rfl (lv_at hl 1 rfl) ?_
      refine va_iald hx hb hK hP 1 0 rfl rfl hv d_Row_at_17 ?_
      refine lv_goto (tgt := 22) hx hb d_Row_at_18 (by decide) ?_
      exact W.iret (v := f i.toNatClampNeg) hx hb hr (fun t ht hW => ⟨by rw [rowAt, if_neg (fun h => h.elim h0 h1)], ht⟩) (fun _ h => nomatch h) d_Row_at_22
set_option maxHeartbeats 4000000 in
set_option maxRecDepth 100000 in
/-- Row.put -/
theorem c_Row_put (l : Launch) (dC : Nat → ClassId) (dI : Nat → Nat → Nat) (sz : Nat) (r q N n : Nat) (cA : ClassId) (f : Nat → Int32) (mo : Int32) (hn : n ≤ N) (hN : N < 2 ^ 31) (i v : Int32) : Met l y_Row_put w_Row_put ({ frames := 10, cells := 0, slots := 0, locals := 300 }) (Pw dC dI [.ref r, .int i, .int v] sz [(r, .inr (0, [.int mo, .ref q, .int (nI n)])), (q, .inl (cA, N, .inl f))] [(cA, .int)]) (va_Qv (fun _ : Unit => True) (fun _ t => va_P (dC, dI) classes [(r, .inr (0, [.int mo, .ref q, .int (nI n)])), (q, .inl (cA, N, .inl (rowPut f n i v)))] t.heap ∧ va_K (dC, dI) classes [(cA, .int)] t ∧ va_D (va_A [(r, .inr (0, [.int mo, .ref q, .int (nI n)])), (q, .inl (cA, N, .inl f))] sz) [(r, .inr (0, [.int mo, .ref q, .int (nI n)])), (q, .inl (cA, N, .inl (rowPut f n i v)))]) (va_A [(r, .inr (0, [.int mo, .ref q, .int (nI n)])), (q, .inl (cA, N, .inl f))] sz)) 0 0 (va_A [(r, .inr (0, [.int mo, .ref q, .int (nI n)])), (q, .inl (cA, N, .inl f))] sz) := by
  refine Met.ofW (cc := b_Row_put) (maxL := 3) (ret := none) (by decide) rfl ?_
  intro p e s m args below meth c s₁ B hml hv
  obtain ⟨rfl, hsz, hP, hK, hD0⟩ := hv
  have hx := B.exec
  have hb := B.bytes
  have hr := B.returns
  have hT : ∀ w ∈ vT, w.before _ s = true := fun w h => atoms_spec (ws := w_Row_put) B.pre w (List.mem_cons_of_mem _ h)
  have hown : s.vm.findClass R_Row = some m.cls := findClass_of_methodNamed B.named
  have hlocks := B.notSynchronized
  subst hsz
  have hD := hD0.self (sz := s.heap.size)
  generalize hAe : va_A [(r, .inr (0, [.int mo, .ref q, .int (nI n)])), (q, .inl (cA, N, .inl f))] s.heap.size = A at hD ⊢
  have hA : ∀ q : Nat, s.heap.size ≤ q → A q := fun q h => by rw [← hAe]; exact Or.inr h
  have hS : va_S A s.heap s.heap [] := va_S.rf
  have hP : va_P (dC, dI) classes [(r, .inr (0, [.int mo, .ref q, .int (nI n)])), (q, .inl (cA, N, .inl f))] s.heap := hP
  have hl := lv_entry ([.ref r, .int i, .int v]) (n := 3) (Nat.le_of_ble_eq_true rfl)
  rw [lg_entry_eq]
  generalize (lg_sl ([.ref r, .int i, .int v]) ++ List.replicate (3 - (lg_sl ([.ref r, .int i, .int v])).length) Slot.unset).toArray = ls at hl ⊢
  have hl : lv_has ls 3 [(0, .ref r), (1, .int i), (2, .int v)] := hl
  by_cases h0 : i < 0
  · skip
    refine lv_iload_n hx hb d_Row_put_0 rfl (lv_at hl 1 rfl) ?_
    refine lv_if_lt (tgt := 19) hx hb d_Row_put_1 (by decide) (fun c_1 => ?_) (fun c_1 => absurd (h0) c_1)
    have he : rowPut f n i v = f := if_pos (Or.inl h0)
    rw [he]
    refine W.widen (k := 0) (n := 0) (Nat.le_of_ble_eq_true rfl) (Nat.le_of_ble_eq_true rfl) ?_
    have hP9 := hP.sub (ws' := [(r, .inr (0, [.int mo, .ref q, .int (nI n)])), (q, .inl (cA, N, .inl f))]) [0, 1] rfl
    have hD9 := hD.sub (ws' := [(r, .inr (0, [.int mo, .ref q, .int (nI n)])), (q, .inl (cA, N, .inl f))]) [0, 1] (by decide) rfl
    have hK9 := hK.sub (tys' := [(cA, .int)]) [0] rfl
    exact W.vret hx hb hr (fun t ht hW => ⟨⟨(), rfl, trivial, by rw [ht]; exact hP9, va_K.moved hW.alike hK9, hD9⟩, hS.F ht⟩) hS.2.2 d_Row_put_19
  · skip
    by_cases h1 : nI n ≤ i
    · skip
      refine lv_iload_n hx hb d_Row_put_0 rfl (lv_at hl 1 rfl) ?_
      refine lv_if_lt (tgt := 19) hx hb d_Row_put_1 (by decide) (fun c_1 => absurd c_1 (h0)) (fun c_1 => ?_)
      refine lv_iload_n hx hb d_Row_put_4 rfl (lv_at hl 1 rfl) ?_
      refine lv_aload_n hx hb d_Row_put_5 rfl (lv_at hl 0 rfl) ?_
      refine va_get (D := (dC, dI)) (ci := 0) (v := .int (nI n)) (C := R_Row) (T := T_Row) (N := 3) hx hb hT in_Row hown hK hP 0 rfl rfl 2 (by decide) (hT _ vt_260) (fun _ h9 => h9) rfl d_Row_put_6 ?_
      refine lv_icmp_ge (tgt := 19) hx hb d_Row_put_9 (by decide) (fun c_2 => ?_) (fun c_2 => absurd (h1) c_2)
      have he : rowPut f n i v = f := if_pos (Or.inr h1)
      rw [he]
      refine W.widen (k := 0) (n := 0) (Nat.le_of_ble_eq_true rfl) (Nat.le_of_ble_eq_true rfl) ?_
      have hP9 := hP.sub (ws' := [(r, .inr (0, [.int mo, .ref q, .int (nI n)])), (q, .inl (cA, N, .inl f))]) [0, 1] rfl
      have hD9 := hD.sub (ws' := [(r, .inr (0, [.int mo, .ref q, .int (nI n)])), (q, .inl (cA, N, .inl f))]) [0, 1] (by decide) rfl
      have hK9 := hK.sub (tys' := [(cA, .int)]) [0] rfl
      exact W.vret hx hb hr (fun t ht hW => ⟨⟨(), rfl, trivial, by rw [ht]; exact hP9, va_K.moved hW.alike hK9, hD9⟩, hS.F ht⟩) hS.2.2 d_Row_put_19
    · skip
      obtain ⟨j, hj, hij, hv, hcl⟩ := row_in hn hN h0 h1
      refine lv_iload_n hx hb d_Row_put_0 rfl (lv_at hl 1 rfl) ?_
      refine lv_if_lt (tgt := 19) hx hb d_Row_put_1 (by decide) (fun c_1 => absurd c_1 (h0)) (fun c_1 => ?_)
      refine lv_iload_n hx hb d_Row_put_4 rfl (lv_at hl 1 rfl) ?_
      refine lv_aload_n hx hb d_Row_put_5 rfl (lv_at hl 0 rfl) ?_
      refine va_get (D := (dC, dI)) (ci := 0) (v := .int (nI n)) (C := R_Row) (T := T_Row) (N := 3) hx hb hT in_Row hown hK hP 0 rfl rfl 2 (by decide) (hT _ vt_260) (fun _ h9 => h9) rfl d_Row_put_6 ?_
      refine lv_icmp_ge (tgt := 19) hx hb d_Row_put_9 (by decide) (fun c_2 => absurd c_2 (h1)) (fun c_2 => ?_)
      have he : rowPut f n i v = upd f i.toNatClampNeg v := if_neg (fun h => h.elim h0 h1)
      rw [he]
      refine lv_aload_n hx hb d_Row_put_12 rfl (lv_at hl 0 rfl) ?_
      refine va_get (D := (dC, dI)) (ci := 0) (v := .ref q) (C := R_Row) (T := T_Row) (N := 3) hx hb hT in_Row hown hK hP 0 rfl rfl 1 (by decide) (hT _ vt_84) (fun _ h9 => h9) rfl d_Row_put_13 ?_
      refine lv_iload_n hx hb d_Row_put_16 rfl (lv_at hl 1 rfl) ?_
      refine lv_iload_n hx hb d_Row_put_17 rfl (lv_at hl 2 rfl) ?_
      refine va_iast hx hb hK hP hD hS 1 0 rfl rfl hv d_Row_put_18 (fun H locs hP hD hS => ?_)
      have hP : va_P (dC, dI) classes [(r, .inr (0, [.int mo, .ref q, .int (nI n)])), (q, .inl (cA, N, .inl (upd f i.toNatClampNeg v)))] H := by exact hP
      have hD : va_D A [(r, .inr (0, [.int mo, .ref q, .int (nI n)])), (q, .inl (cA, N, .inl (upd f i.toNatClampNeg v)))] := by exact hD
      refine W.widen (k := 0) (n := 0) (Nat.le_of_ble_eq_true rfl) (Nat.le_of_ble_eq_true rfl) ?_
      have hP9 := hP.sub (ws' := [(r, .inr (0, [.int mo, .ref q, .int (nI n)])), (q, .inl (cA, N, .inl (upd f i.toNatClampNeg v)))]) [0, 1] rfl
      have hD9 := hD.sub (ws' := [(r, .inr (0, [.int mo, .ref q, .int (nI n)])), (q, .inl (cA, N, .inl (upd f i.toNatClampNeg v)))]) [0, 1] (by decide) rfl
      have hK9 := hK.sub (tys' := [(cA, .int)]) [0] rfl
      exact W.vret hx hb hr (fun t ht hW => ⟨⟨(), rfl, trivial, by rw [ht]; exact hP9, va_K.moved hW.alike hK9, hD9⟩, hS.F ht⟩) hS.2.2 d_Row_put_19
set_option maxHeartbeats 4000000 in
set_option maxRecDepth 100000 in
/-- Row.cut -/
theorem c_Row_cut (l : Launch) (dC : Nat → ClassId) (dI : Nat → Nat → Nat) (sz : Nat) (r q N n : Nat) (cA : ClassId) (f : Nat → Int32) (mo : Int32) (hn : n ≤ N) (hN : N < 2 ^ 31) (i : Int32) : Met l y_Row_cut w_Row_cut ({ frames := 10, cells := 0, slots := 0, locals := 300 }) (Pw dC dI [.ref r, .int i] sz [(r, .inr (0, [.int mo, .ref q, .int (nI n)])), (q, .inl (cA, N, .inl f))] [(cA, .int)]) (va_Qv (fun _ : Unit => True) (fun _ t => va_P (dC, dI) classes [(r, .inr (0, [.int mo, .ref q, .int (nI (rowCut n i))])), (q, .inl (cA, N, .inl f))] t.heap ∧ va_K (dC, dI) classes [(cA, .int)] t ∧ va_D (va_A [(r, .inr (0, [.int mo, .ref q, .int (nI n)])), (q, .inl (cA, N, .inl f))] sz) [(r, .inr (0, [.int mo, .ref q, .int (nI (rowCut n i))])), (q, .inl (cA, N, .inl f))]) (va_A [(r, .inr (0, [.int mo, .ref q, .int (nI n)])), (q, .inl (cA, N, .inl f))] sz)) 0 0 (va_A [(r, .inr (0, [.int mo, .ref q, .int (nI n)])), (q, .inl (cA, N, .inl f))] sz) := by
  refine Met.ofW (cc := b_Row_cut) (maxL := 2) (ret := none) (by decide) rfl ?_
  intro p e s m args below meth c s₁ B hml hv
  obtain ⟨rfl, hsz, hP, hK, hD0⟩ := hv
  have hx := B.exec
  have hb := B.bytes
  have hr := B.returns
  have hT : ∀ w ∈ vT, w.before _ s = true := fun w h => atoms_spec (ws := w_Row_cut) B.pre w (List.mem_cons_of_mem _ h)
  have hown : s.vm.findClass R_Row = some m.cls := findClass_of_methodNamed B.named
  have hlocks := B.notSynchronized
  subst hsz
  have hD := hD0.self (sz := s.heap.size)
  generalize hAe : va_A [(r, .inr (0, [.int mo, .ref q, .int (nI n)])), (q, .inl (cA, N, .inl f))] s.heap.size = A at hD ⊢
  have hA : ∀ q : Nat, s.heap.size ≤ q → A q := fun q h => by rw [← hAe]; exact Or.inr h
  have hS : va_S A s.heap s.heap [] := va_S.rf
  have hP : va_P (dC, dI) classes [(r, .inr (0, [.int mo, .ref q, .int (nI n)])), (q, .inl (cA, N, .inl f))] s.heap := hP
  have hl := lv_entry ([.ref r, .int i]) (n := 2) (Nat.le_of_ble_eq_true rfl)
  rw [lg_entry_eq]
  generalize (lg_sl ([.ref r, .int i]) ++ List.replicate (2 - (lg_sl ([.ref r, .int i])).length) Slot.unset).toArray = ls at hl ⊢
  have hl : lv_has ls 2 [(0, .ref r), (1, .int i)] := hl
  by_cases h0 : i < 0
  · skip
    refine lv_iload_n hx hb d_Row_cut_0 rfl (lv_at hl 1 rfl) ?_
    refine lv_if_lt (tgt := 17) hx hb d_Row_cut_1 (by decide) (fun c_1 => ?_) (fun c_1 => absurd (h0) c_1)
    have he : rowCut n i = n := if_pos (Or.inl h0)
    rw [he]
    refine W.widen (k := 0) (n := 0) (Nat.le_of_ble_eq_true rfl) (Nat.le_of_ble_eq_true rfl) ?_
    have hP9 := hP.sub (ws' := [(r, .inr (0, [.int mo, .ref q, .int (nI n)])), (q, .inl (cA, N, .inl f))]) [0, 1] rfl
    have hD9 := hD.sub (ws' := [(r, .inr (0, [.int mo, .ref q, .int (nI n)])), (q, .inl (cA, N, .inl f))]) [0, 1] (by decide) rfl
    have hK9 := hK.sub (tys' := [(cA, .int)]) [0] rfl
    exact W.vret hx hb hr (fun t ht hW => ⟨⟨(), rfl, trivial, by rw [ht]; exact hP9, va_K.moved hW.alike hK9, hD9⟩, hS.F ht⟩) hS.2.2 d_Row_cut_17
  · skip
    by_cases h1 : nI n ≤ i
    · skip
      refine lv_iload_n hx hb d_Row_cut_0 rfl (lv_at hl 1 rfl) ?_
      refine lv_if_lt (tgt := 17) hx hb d_Row_cut_1 (by decide) (fun c_1 => absurd c_1 (h0)) (fun c_1 => ?_)
      refine lv_iload_n hx hb d_Row_cut_4 rfl (lv_at hl 1 rfl) ?_
      refine lv_aload_n hx hb d_Row_cut_5 rfl (lv_at hl 0 rfl) ?_
      refine va_get (D := (dC, dI)) (ci := 0) (v := .int (nI n)) (C := R_Row) (T := T_Row) (N := 3) hx hb hT in_Row hown hK hP 0 rfl rfl 2 (by decide) (hT _ vt_260) (fun _ h9 => h9) rfl d_Row_cut_6 ?_
      refine lv_icmp_ge (tgt := 17) hx hb d_Row_cut_9 (by decide) (fun c_2 => ?_) (fun c_2 => absurd (h1) c_2)
      have he : rowCut n i = n := if_pos (Or.inr h1)
      rw [he]
      refine W.widen (k := 0) (n := 0) (Nat.le_of_ble_eq_true rfl) (Nat.le_of_ble_eq_true rfl) ?_
      have hP9 := hP.sub (ws' := [(r, .inr (0, [.int mo, .ref q, .int (nI n)])), (q, .inl (cA, N, .inl f))]) [0, 1] rfl
      have hD9 := hD.sub (ws' := [(r, .inr (0, [.int mo, .ref q, .int (nI n)])), (q, .inl (cA, N, .inl f))]) [0, 1] (by decide) rfl
      have hK9 := hK.sub (tys' := [(cA, .int)]) [0] rfl
      exact W.vret hx hb hr (fun t ht hW => ⟨⟨(), rfl, trivial, by rw [ht]; exact hP9, va_K.moved hW.alike hK9, hD9⟩, hS.F ht⟩) hS.2.2 d_Row_cut_17
    · skip
      obtain ⟨j, hj, hij, hv, hcl⟩ := row_in hn hN h0 h1
      refine lv_iload_n hx hb d_Row_cut_0 rfl (lv_at hl 1 rfl) ?_
      refine lv_if_lt (tgt := 17) hx hb d_Row_cut_1 (by decide) (fun c_1 => absurd c_1 (h0)) (fun c_1 => ?_)
      refine lv_iload_n hx hb d_Row_cut_4 rfl (lv_at hl 1 rfl) ?_
      refine lv_aload_n hx hb d_Row_cut_5 rfl (lv_at hl 0 rfl) ?_
      refine va_get (D := (dC, dI)) (ci := 0) (v := .int (nI n)) (C := R_Row) (T := T_Row) (N := 3) hx hb hT in_Row hown hK hP 0 rfl rfl 2 (by decide) (hT _ vt_260) (fun _ h9 => h9) rfl d_Row_cut_6 ?_
      refine lv_icmp_ge (tgt := 17) hx hb d_Row_cut_9 (by decide) (fun c_2 => absurd c_2 (h1)) (fun c_2 => ?_)
      have he : rowCut n i = i.toNatClampNeg := if_neg (fun h => h.elim h0 h1)
      rw [he, hcl]
      subst hij
      refine lv_aload_n hx hb d_Row_cut_12 rfl (lv_at hl 0 rfl) ?_
      refine lv_iload_n hx hb d_Row_cut_13 rfl (lv_at hl 1 rfl) ?_
      refine va_put (D := (dC, dI)) (ci := 0) (v := .int (nI j)) (ty := .int) (C := R_Row) (T := T_Row) (N := 3) hx hb hT in_Row ty_Row tyo_Row nm_Row hown hK hP hD hS 0 rfl rfl 2 (by decide) (hT _ vt_260) (fun _ h9 => h9) rfl (by decide +kernel) rfl rfl (Nat.le_of_ble_eq_true rfl) d_Row_cut_14 (fun H locs hP hD hS => ?_)
      have hP : va_P (dC, dI) classes [(r, .inr (0, [.int mo, .ref q, .int (nI j)])), (q, .inl (cA, N, .inl f))] H := hP
      have hD : va_D A [(r, .inr (0, [.int mo, .ref q, .int (nI j)])), (q, .inl (cA, N, .inl f))] := hD
      refine W.widen (k := 0) (n := 0) (Nat.le_of_ble_eq_true rfl) (Nat.le_of_ble_eq_true rfl) ?_
      have hP9 := hP.sub (ws' := [(r, .inr (0, [.int mo, .ref q, .int (nI j)])), (q, .inl (cA, N, .inl f))]) [0, 1] rfl
      have hD9 := hD.sub (ws' := [(r, .inr (0, [.int mo, .ref q, .int (nI j)])), (q, .inl (cA, N, .inl f))]) [0, 1] (by decide) rfl
      have hK9 := hK.sub (tys' := [(cA, .int)]) [0] rfl
      exact W.vret hx hb hr (fun t ht hW => ⟨⟨(), rfl, trivial, by rw [ht]; exact hP9, va_K.moved hW.alike hK9, hD9⟩, hS.F ht⟩) hS.2.2 d_Row_cut_17
set_option maxHeartbeats 4000000 in
set_option maxRecDepth 100000 in
/-- Row.pop -/
theorem c_Row_pop (l : Launch) (dC : Nat → ClassId) (dI : Nat → Nat → Nat) (sz : Nat) (r q N n : Nat) (cA : ClassId) (f : Nat → Int32) (mo : Int32) (hn : n ≤ N) (hN : N < 2 ^ 31) : Met l y_Row_pop w_Row_pop ({ frames := 10, cells := 0, slots := 0, locals := 300 }) (Pw dC dI [.ref r] sz [(r, .inr (0, [.int mo, .ref q, .int (nI n)])), (q, .inl (cA, N, .inl f))] [(cA, .int)]) (va_Qi (fun (r : Int32) (_ : Unit) => r = (if n = 0 then 0 else f (n - 1))) (fun _ t => va_P (dC, dI) classes [(r, .inr (0, [.int mo, .ref q, .int (nI (n - 1))])), (q, .inl (cA, N, .inl f))] t.heap ∧ va_K (dC, dI) classes [(cA, .int)] t ∧ va_D (va_A [(r, .inr (0, [.int mo, .ref q, .int (nI n)])), (q, .inl (cA, N, .inl f))] sz) [(r, .inr (0, [.int mo, .ref q, .int (nI (n - 1))])), (q, .inl (cA, N, .inl f))]) (va_A [(r, .inr (0, [.int mo, .ref q, .int (nI n)])), (q, .inl (cA, N, .inl f))] sz)) 0 0 (va_A [(r, .inr (0, [.int mo, .ref q, .int (nI n)])), (q, .inl (cA, N, .inl f))] sz) := by
  refine Met.ofW (cc := b_Row_pop) (maxL := 1) (ret := (some .int)) (by decide) rfl ?_
  intro p e s m args below meth c s₁ B hml hv
  obtain ⟨rfl, hsz, hP, hK, hD0⟩ := hv
  have hx := B.exec
  have hb := B.bytes
  have hr := B.returns
  have hT : ∀ w ∈ vT, w.before _ s = true := fun w h => atoms_spec (ws := w_Row_pop) B.pre w (List.mem_cons_of_mem _ h)
  have hown : s.vm.findClass R_Row = some m.cls := findClass_of_methodNamed B.named
  have hlocks := B.notSynchronized
  subst hsz
  have hD := hD0.self (sz := s.heap.size)
  generalize hAe : va_A [(r, .inr (0, [.int mo, .ref q, .int (nI n)])), (q, .inl (cA, N, .inl f))] s.heap.size = A at hD ⊢
  have hA : ∀ q : Nat, s.heap.size ≤ q → A q := fun q h => by rw [← hAe]; exact Or.inr h
  have hS : va_S A s.heap s.heap [] := va_S.rf
  have hP : va_P (dC, dI) classes [(r, .inr (0, [.int mo, .ref q, .int (nI n)])), (q, .inl (cA, N, .inl f))] s.heap := hP
  have hl := lv_entry ([.ref r]) (n := 1) (Nat.le_of_ble_eq_true rfl)
  rw [lg_entry_eq]
  generalize (lg_sl ([.ref r]) ++ List.replicate (1 - (lg_sl ([.ref r])).length) Slot.unset).toArray = ls at hl ⊢
  have hl : lv_has ls 1 [(0, .ref r)] := hl
  cases n with
  | zero =>
    refine lv_aload_n hx hb d_Row_pop_0 rfl (lv_at hl 0 rfl) ?_
    refine va_get (D := (dC, dI)) (ci := 0) (v := .int (nI 0)) (C := R_Row) (T := T_Row) (N := 3) hx hb hT in_Row hown hK hP 0 rfl rfl 2 (by decide) (hT _ vt_260) (fun _ h9 => h9) rfl d_Row_pop_1 ?_
    refine lv_if_ne (tgt := 9) hx hb d_Row_pop_4 (by decide) (fun c_1 => absurd (rfl) c_1) (fun c_1 => ?_)
    refine lv_iconst (v := 0) hx hb d_Row_pop_7 (by decide) ?_
    refine W.widen (k := 0) (n := 0) (Nat.le_of_ble_eq_true rfl) (Nat.le_of_ble_eq_true rfl) ?_
    have hP9 := hP.sub (ws' := [(r, .inr (0, [.int mo, .ref q, .int (nI 0)])), (q, .inl (cA, N, .inl f))]) [0, 1] rfl
    have hD9 := hD.sub (ws' := [(r, .inr (0, [.int mo, .ref q, .int (nI 0)])), (q, .inl (cA, N, .inl f))]) [0, 1] (by decide) rfl
    have hK9 := hK.sub (tys' := [(cA, .int)]) [0] rfl
    exact W.iret (v := 0) hx hb hr (fun t ht hW => ⟨⟨0, (), rfl, (by simp), by rw [ht]; exact hP9, va_K.moved hW.alike hK9, hD9⟩, hS.F ht⟩) hS.2.2 d_Row_pop_8
  | succ n =>
    refine lv_aload_n hx hb d_Row_pop_0 rfl (lv_at hl 0 rfl) ?_
    refine va_get (D := (dC, dI)) (ci := 0) (v := .int (nI (n + 1))) (C := R_Row) (T := T_Row) (N := 3) hx hb hT in_Row hown hK hP 0 rfl rfl 2 (by decide) (hT _ vt_260) (fun _ h9 => h9) rfl d_Row_pop_1 ?_
    refine lv_if_ne (tgt := 9) hx hb d_Row_pop_4 (by decide) (fun c_1 => ?_) (fun c_1 => absurd c_1 (nI_ne0 (by omega) (by omega)))
    refine lv_aload_n hx hb d_Row_pop_9 rfl (lv_at hl 0 rfl) ?_
    refine lv_dup hx hb d_Row_pop_10 rfl ?_
    refine va_get (D := (dC, dI)) (ci := 0) (v := .int (nI (n + 1))) (C := R_Row) (T := T_Row) (N := 3) hx hb hT in_Row hown hK hP 0 rfl rfl 2 (by decide) (hT _ vt_260) (fun _ h9 => h9) rfl d_Row_pop_11 ?_
    refine lv_iconst (v := 1) hx hb d_Row_pop_14 (by decide) ?_
    refine lv_isub hx hb d_Row_pop_15 ?_
    rw [nI_pred]
    refine va_put (D := (dC, dI)) (ci := 0) (v := .int (nI n)) (ty := .int) (C := R_Row) (T := T_Row) (N := 3) hx hb hT in_Row ty_Row tyo_Row nm_Row hown hK hP hD hS 0 rfl rfl 2 (by decide) (hT _ vt_260) (fun _ h9 => h9) rfl (by decide +kernel) rfl rfl (Nat.le_of_ble_eq_true rfl) d_Row_pop_16 (fun H locs hP hD hS => ?_)
    have hP : va_P (dC, dI) classes [(r, .inr (0, [.int mo, .ref q, .int (nI n)])), (q, .inl (cA, N, .inl f))] H := hP
    have hD : va_D A [(r, .inr (0, [.int mo, .ref q, .int (nI n)])), (q, .inl (cA, N, .inl f))] := hD
    refine lv_aload_n hx hb d_Row_pop_19 rfl (lv_at hl 0 rfl) ?_
    refine va_get (D := (dC, dI)) (ci := 0) (v := .ref q) (C := R_Row) (T := T_Row) (N := 3) hx hb hT in_Row hown hK hP 0 rfl rfl 1 (by decide) (hT _ vt_84) (fun _ h9 => h9) rfl d_Row_pop_20 ?_
    refine lv_aload_n hx hb d_Row_pop_23 rfl (lv_at hl 0 rfl) ?_
    refine va_get (D := (dC, dI)) (ci := 0) (v := .int (nI n)) (C := R_Row) (T := T_Row) (N := 3) hx hb hT in_Row hown hK hP 0 rfl rfl 2 (by decide) (hT _ vt_260) (fun _ h9 => h9) rfl d_Row_pop_24 ?_
    refine va_iald hx hb hK hP 1 0 rfl rfl (vp_in_nI (by omega) hN) d_Row_pop_27 ?_
    refine lv_topi (fun xv exv => ?_)
    rw [nI_clamp (by omega)] at exv
    refine W.widen (k := 0) (n := 0) (Nat.le_of_ble_eq_true rfl) (Nat.le_of_ble_eq_true rfl) ?_
    have hP9 := hP.sub (ws' := [(r, .inr (0, [.int mo, .ref q, .int (nI n)])), (q, .inl (cA, N, .inl f))]) [0, 1] rfl
    have hD9 := hD.sub (ws' := [(r, .inr (0, [.int mo, .ref q, .int (nI n)])), (q, .inl (cA, N, .inl f))]) [0, 1] (by decide) rfl
    have hK9 := hK.sub (tys' := [(cA, .int)]) [0] rfl
    exact W.iret (v := xv) hx hb hr (fun t ht hW => ⟨⟨xv, (), rfl, (by simp [exv]), by rw [ht]; exact hP9, va_K.moved hW.alike hK9, hD9⟩, hS.F ht⟩) hS.2.2 d_Row_pop_28
