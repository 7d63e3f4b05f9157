set_option maxHeartbeats 4000000 in
set_option maxRecDepth 100000 in
/-- thrown -/
theorem c_Mod_thrown (l : Launch) (dC : Nat → ClassId) (dI : Nat → Nat → Nat) (h0 : Nat) (fs : List Value) (v : Int32) (hv : fs[4]? = some (.int v)) : Met l y_Mod_thrown w_Mod_thrown ({ frames := 10, cells := 0, slots := 0, locals := 300 }) (Pp dC dI [.ref h0] [(h0, .inr (12, fs))] []) (QcRead v) 0 0 (fun _ => False) := by
  refine Met.ofW (cc := b_Mod_thrown) (maxL := 1) (ret := (some .int)) (by decide) rfl ?_
  intro p e s m args below meth c s₁ B hml hv
  obtain ⟨rfl, hP, hK⟩ := hv
  have hx := B.exec
  have hb := B.bytes
  have hr := B.returns
  have hT : ∀ w ∈ vT, w.before _ s = true := fun w h => atoms_spec (ws := w_Mod_thrown) B.pre w (List.mem_cons_of_mem _ h)
  have hown : s.vm.findClass R_Mod = some m.cls := findClass_of_methodNamed B.named
  have hlocks := B.notSynchronized
  have hP : va_P (dC, dI) classes [(h0, .inr (12, fs))] s.heap := hP
  have hl := lv_entry ([.ref h0]) (n := 1) (Nat.le_of_ble_eq_true rfl)
  rw [lg_entry_eq]
  generalize (lg_sl ([.ref h0]) ++ List.replicate (1 - (lg_sl ([.ref h0])).length) Slot.unset).toArray = ls at hl ⊢
  have hl : lv_has ls 1 [(0, .ref h0)] := hl
  refine lv_aload_n hx hb d_Mod_thrown_0 rfl (lv_at hl 0 rfl) ?_
  refine va_get (D := (dC, dI)) (ci := 12) (v := .int v) (C := R_Mod) (T := T_Mod) (N := 76) hx hb hT in_Mod hown hK hP 0 rfl rfl 4 (by decide) (hT _ vt_175) (fun _ h9 => h9) hv d_Mod_thrown_1 ?_
  exact W.iret (v := v) hx hb hr (fun t ht hW => ⟨rfl, ht⟩) (fun _ h => nomatch h) d_Mod_thrown_4
set_option maxHeartbeats 4000000 in
set_option maxRecDepth 100000 in
/-- refuse(k, false) -/
theorem c_Mod_refuse0 (l : Launch) (dC : Nat → ClassId) (dI : Nat → Nat → Nat) (h0 : Nat) (fs : List Value) (k : Int32) : Met l y_Mod_refuse w_Mod_refuse ({ frames := 10, cells := 0, slots := 0, locals := 300 }) (Pp dC dI [.ref h0, .int k, .int 0] [(h0, .inr (12, fs))] []) (QcRead 0) 0 0 (fun _ => False) := by
  refine Met.ofW (cc := b_Mod_refuse) (maxL := 3) (ret := (some .boolean)) (by decide) rfl ?_
  intro p e s m args below meth c s₁ B hml hv
  obtain ⟨rfl, hP, hK⟩ := hv
  have hx := B.exec
  have hb := B.bytes
  have hr := B.returns
  have hT : ∀ w ∈ vT, w.before _ s = true := fun w h => atoms_spec (ws := w_Mod_refuse) B.pre w (List.mem_cons_of_mem _ h)
  have hown : s.vm.findClass R_Mod = some m.cls := findClass_of_methodNamed B.named
  have hlocks := B.notSynchronized
  have hP : va_P (dC, dI) classes [(h0, .inr (12, fs))] s.heap := hP
  have hl := lv_entry ([.ref h0, .int k, .int 0]) (n := 3) (Nat.le_of_ble_eq_true rfl)
  rw [lg_entry_eq]
  generalize (lg_sl ([.ref h0, .int k, .int 0]) ++ List.replicate (3 - (lg_sl ([.ref h0, .int k, .int 0])).length) Slot.unset).toArray = ls at hl ⊢
  have hl : lv_has ls 3 [(0, .ref h0), (1, .int k), (2, .int 0)] := hl
  refine lv_iload_n hx hb d_Mod_refuse_0 rfl (lv_at hl 2 rfl) ?_
  refine lv_if_eq (tgt := 9) hx hb d_Mod_refuse_1 (by decide) (fun c_1 => ?_) (fun c_1 => absurd (rfl) c_1)
  refine lv_iload_n hx hb d_Mod_refuse_9 rfl (lv_at hl 2 rfl) ?_
  exact W.zret (v := 0) hx hb hr rfl (fun t ht hW => ⟨rfl, ht⟩) (fun _ h => nomatch h) d_Mod_refuse_10
set_option maxHeartbeats 4000000 in
set_option maxRecDepth 100000 in
/-- refuse(k, true) -/
theorem c_Mod_refuse1 (l : Launch) (dC : Nat → ClassId) (dI : Nat → Nat → Nat) (sz : Nat) (h0 : Nat) (fs : List Value) (k : Int32) (hl0 : fs.length = 76) : Met l y_Mod_refuse w_Mod_refuse ({ frames := 10, cells := 0, slots := 0, locals := 300 }) (Pw dC dI [.ref h0, .int k, .int 1] sz [(h0, .inr (12, fs))] []) (va_Qi (fun (r : Int32) (_ : Unit) => r = 1) (fun _ t => va_P (dC, dI) classes [(h0, .inr (12, (List.set fs 4 (.int k))))] t.heap ∧ va_K (dC, dI) classes [] t ∧ va_D (va_A [(h0, .inr (12, fs))] sz) [(h0, .inr (12, (List.set fs 4 (.int k))))]) (va_A [(h0, .inr (12, fs))] sz)) 0 0 (va_A [(h0, .inr (12, fs))] sz) := by
  refine Met.ofW (cc := b_Mod_refuse) (maxL := 3) (ret := (some .boolean)) (by decide) rfl ?_
  intro p e s m args below meth c s₁ B hml hv
  obtain ⟨rfl, hsz, hP, hK, hD0⟩ := hv
  have hx := B.exec
  have hb := B.bytes
  have hr := B.returns
  have hT : ∀ w ∈ vT, w.before _ s = true := fun w h => atoms_spec (ws := w_Mod_refuse) B.pre w (List.mem_cons_of_mem _ h)
  have hown : s.vm.findClass R_Mod = some m.cls := findClass_of_methodNamed B.named
  have hlocks := B.notSynchronized
  subst hsz
  have hD := hD0.self (sz := s.heap.size)
  generalize hAe : va_A [(h0, .inr (12, fs))] s.heap.size = A at hD ⊢
  have hA : ∀ q : Nat, s.heap.size ≤ q → A q := fun q h => by rw [← hAe]; exact Or.inr h
  have hS : va_S A s.heap s.heap [] := va_S.rf
  have hP : va_P (dC, dI) classes [(h0, .inr (12, fs))] s.heap := hP
  have hl := lv_entry ([.ref h0, .int k, .int 1]) (n := 3) (Nat.le_of_ble_eq_true rfl)
  rw [lg_entry_eq]
  generalize (lg_sl ([.ref h0, .int k, .int 1]) ++ List.replicate (3 - (lg_sl ([.ref h0, .int k, .int 1])).length) Slot.unset).toArray = ls at hl ⊢
  have hl : lv_has ls 3 [(0, .ref h0), (1, .int k), (2, .int 1)] := hl
  refine lv_iload_n hx hb d_Mod_refuse_0 rfl (lv_at hl 2 rfl) ?_
  refine lv_if_eq (tgt := 9) hx hb d_Mod_refuse_1 (by decide) (fun c_1 => absurd c_1 (by decide)) (fun c_1 => ?_)
  refine lv_aload_n hx hb d_Mod_refuse_4 rfl (lv_at hl 0 rfl) ?_
  refine lv_iload_n hx hb d_Mod_refuse_5 rfl (lv_at hl 1 rfl) ?_
  refine va_put (D := (dC, dI)) (ci := 12) (v := .int k) (ty := .int) (C := R_Mod) (T := T_Mod) (N := 76) hx hb hT in_Mod ty_Mod tyo_Mod nm_Mod hown hK hP hD hS 0 rfl rfl 4 (by decide) (hT _ vt_175) (fun _ h9 => h9) rfl (by decide +kernel) rfl rfl (by rw [hl0]; decide) d_Mod_refuse_6 (fun H locs hP hD hS => ?_)
  obtain ⟨fs_2, hfs_2⟩ : ∃ z, z = List.set fs 4 (.int k) := ⟨_, rfl⟩
  have hP : va_P (dC, dI) classes [(h0, .inr (12, fs_2))] H := by rw [hfs_2]; exact hP
  have hD : va_D A [(h0, .inr (12, fs_2))] := by rw [hfs_2]; exact hD
  have lfs_2 : List.length fs_2 = 76 := by rw [hfs_2, List.length_set, hl0]
  subst hfs_2
  refine lv_iload_n hx hb d_Mod_refuse_9 rfl (lv_at hl 2 rfl) ?_
  refine W.widen (k := 0) (n := 0) (Nat.le_of_ble_eq_true rfl) (Nat.le_of_ble_eq_true rfl) ?_
  have hP9 := hP.sub (ws' := [(h0, .inr (12, (List.set fs 4 (.int k))))]) [0] rfl
  have hD9 := hD.sub (ws' := [(h0, .inr (12, (List.set fs 4 (.int k))))]) [0] (by decide) rfl
  have hK9 := hK.sub (tys' := []) [] rfl
  exact W.zret (v := 1) hx hb hr rfl (fun t ht hW => ⟨⟨1, (), rfl, rfl, by rw [ht]; exact hP9, va_K.moved hW.alike hK9, hD9⟩, hS.F ht⟩) hS.2.2 d_Mod_refuse_10
set_option maxHeartbeats 4000000 in
set_option maxRecDepth 100000 in
/-- none -/
theorem c_Mod_none (l : Launch) (dC : Nat → ClassId) (dI : Nat → Nat → Nat) (sz : Nat) (h0 : Nat) (fs : List Value) (hz : Mz fs) (k : Int32) : Met l y_Mod_none w_Mod_none ({ frames := 20, cells := 0, slots := 0, locals := 600 }) (Pw dC dI [.ref h0, .int k] sz [(h0, .inr (12, fs))] []) (va_Qi (fun (r : Int32) (_ : Unit) => r = 1) (fun _ t => ∃ (fs2 : List Value), va_P (dC, dI) classes [(h0, .inr (12, fs2))] t.heap ∧ va_K (dC, dI) classes [] t ∧ va_D (va_A [(h0, .inr (12, fs))] sz) [(h0, .inr (12, fs2))] ∧ fs2.length = 76 ∧ fs2[4]? = some (.int 1)) (va_A [(h0, .inr (12, fs))] sz)) 0 0 (va_A [(h0, .inr (12, fs))] sz) := by
  refine Met.ofW (cc := b_Mod_none) (maxL := 2) (ret := (some .boolean)) (by decide) rfl ?_
  intro p e s m args below meth c s₁ B hml hv
  obtain ⟨rfl, hsz, hP, hK, hD0⟩ := hv
  have hx := B.exec
  have hb := B.bytes
  have hr := B.returns
  have hT : ∀ w ∈ vT, w.before _ s = true := fun w h => atoms_spec (ws := w_Mod_none) B.pre w (List.mem_cons_of_mem _ h)
  have hown : s.vm.findClass R_Mod = some m.cls := findClass_of_methodNamed B.named
  have hlocks := B.notSynchronized
  subst hsz
  have hD := hD0.self (sz := s.heap.size)
  generalize hAe : va_A [(h0, .inr (12, fs))] s.heap.size = A at hD ⊢
  have hA : ∀ q : Nat, s.heap.size ≤ q → A q := fun q h => by rw [← hAe]; exact Or.inr h
  have hS : va_S A s.heap s.heap [] := va_S.rf
  have hP : va_P (dC, dI) classes [(h0, .inr (12, fs))] s.heap := hP
  have hl := lv_entry ([.ref h0, .int k]) (n := 2) (Nat.le_of_ble_eq_true rfl)
  rw [lg_entry_eq]
  generalize (lg_sl ([.ref h0, .int k]) ++ List.replicate (2 - (lg_sl ([.ref h0, .int k])).length) Slot.unset).toArray = ls at hl ⊢
  have hl : lv_has ls 2 [(0, .ref h0), (1, .int k)] := hl
  refine lv_aload_n hx hb d_Mod_none_0 rfl (lv_at hl 0 rfl) ?_
  refine lv_iconst (v := 0) hx hb d_Mod_none_1 (by decide) ?_
  refine va_put (D := (dC, dI)) (ci := 12) (v := .int 0) (ty := .int) (C := R_Mod) (T := T_Mod) (N := 76) hx hb hT in_Mod ty_Mod tyo_Mod nm_Mod hown hK hP hD hS 0 rfl rfl 4 (by decide) (hT _ vt_175) (fun _ h9 => h9) rfl (by decide +kernel) rfl rfl (by rw [hz.1]; decide) d_Mod_none_2 (fun H locs hP hD hS => ?_)
  obtain ⟨fs_1, hfs_1⟩ : ∃ z, z = List.set fs 4 (.int 0) := ⟨_, rfl⟩
  have hP : va_P (dC, dI) classes [(h0, .inr (12, fs_1))] H := by rw [hfs_1]; exact hP
  have hD : va_D A [(h0, .inr (12, fs_1))] := by rw [hfs_1]; exact hD
  have lfs_1 : List.length fs_1 = 76 := by rw [hfs_1, List.length_set, hz.1]
  refine lv_aload_n hx hb d_Mod_none_5 rfl (lv_at hl 0 rfl) ?_
  refine lv_iconst (v := 1) hx hb d_Mod_none_6 (by decide) ?_
  by_cases hneg : k < 0
  · skip
    refine lv_iload_n hx hb d_Mod_none_7 rfl (lv_at hl 1 rfl) ?_
    refine lv_if_lt (tgt := 19) hx hb d_Mod_none_8 (by decide) (fun c_2 => ?_) (fun c_2 => absurd (hneg) c_2)
    refine lv_iconst (v := 1) hx hb d_Mod_none_19 (by decide) ?_
    refine lv_goto (tgt := 24) hx hb d_Mod_none_20 (by decide) ?_
    have hPc := hP.sub (ws' := [(h0, .inr (12, fs_1))]) [0] rfl
    have hDc := hD.sub (ws' := [(h0, .inr (12, fs_1))]) [0] (by decide) rfl
    have hKc := hK.sub (tys' := []) [] rfl
    have hFc := va_free (wc := [(h0, .inr (12, fs_1))]) hD hS hA [0] rfl
    refine va_calli (va_runV (As := [.int 1, .int 1]) (rest := []) ⟨hx, hb, hml, hown, hT⟩ (c_Mod_refuse1 l dC dI H.size h0 fs_1 1 lfs_1) (cwV 2 hT (gV vt_349 vt_350 vt_351 vt_352 vt_353) rfl rfl rfl (by decide +kernel) ⟨Nat.le_of_ble_eq_true rfl, Nat.le_of_ble_eq_true rfl⟩) ⟨Pw_blind, va_recv hK hP (ci := 12) (q0 := 0) rfl rfl, Pw_of hPc hKc hDc⟩ rfl rfl hl.1 rfl (lv_room (Nat.le_of_ble_eq_true rfl)) d_Mod_none_24 ⟨Nat.le_of_ble_eq_true rfl, Nat.le_of_ble_eq_true rfl⟩) hS (fun q _ h => hFc q h) hFc (fun r_3 u t H1 locs ht hvm hw hB hz1 hk1 hS => ?_)
    obtain ⟨hP1, hK1, hD1⟩ := hB
    rw [ht] at hP1
    have hK1 := va_K.moved hvm.symm hK1
    obtain ⟨hP, hD⟩ := va_join (wr := []) (w1 := [(h0, .inr (12, (List.set fs_1 4 (.int 1))))]) hP hD [0] [] rfl rfl (by decide) (by decide) hk1 hFc hP1 hD1
    generalize H1 = H at hP hS ⊢
    have hP : va_P (dC, dI) classes [(h0, .inr (12, (List.set fs_1 4 (.int 1))))] H := hP
    have hD : va_D A [(h0, .inr (12, (List.set fs_1 4 (.int 1))))] := hD
    refine W.widen (k := 0) (n := 0) (Nat.le_of_ble_eq_true rfl) (Nat.le_of_ble_eq_true rfl) ?_
    subst hw
    obtain ⟨fs_4, hfs_4⟩ : ∃ z, z = List.set fs_1 4 (.int 1) := ⟨_, rfl⟩
    have hP : va_P (dC, dI) classes [(h0, .inr (12, fs_4))] H := by rw [hfs_4]; exact hP
    have hD : va_D A [(h0, .inr (12, fs_4))] := by rw [hfs_4]; exact hD
    have lfs_4 : List.length fs_4 = 76 := by rw [hfs_4, List.length_set]; exact lfs_1
    have tfs_4 : fs_4[4]? = some (.int 1) := by rw [hfs_4]; exact List.getElem?_set_self (by rw [lfs_1]; decide)
    refine W.widen (k := 0) (n := 0) (Nat.le_of_ble_eq_true rfl) (Nat.le_of_ble_eq_true rfl) ?_
    have hP9 := hP.sub (ws' := [(h0, .inr (12, fs_4))]) [0] rfl
    have hD9 := hD.sub (ws' := [(h0, .inr (12, fs_4))]) [0] (by decide) rfl
    have hK9 := hK.sub (tys' := []) [] rfl
    exact W.zret (v := 1) hx hb hr rfl (fun t ht hW => ⟨⟨1, (), rfl, rfl, fs_4, by rw [ht]; exact hP9, va_K.moved hW.alike hK9, hD9, lfs_4, tfs_4⟩, hS.F ht⟩) hS.2.2 d_Mod_none_27
  · skip
    refine lv_iload_n hx hb d_Mod_none_7 rfl (lv_at hl 1 rfl) ?_
    refine lv_if_lt (tgt := 19) hx hb d_Mod_none_8 (by decide) (fun c_2 => absurd c_2 (hneg)) (fun c_2 => ?_)
    refine lv_iload_n hx hb d_Mod_none_11 rfl (lv_at hl 1 rfl) ?_
    refine lv_aload_n hx hb d_Mod_none_12 rfl (lv_at hl 0 rfl) ?_
    refine va_get (D := (dC, dI)) (ci := 12) (v := .int 0) (C := R_Mod) (T := T_Mod) (N := 76) hx hb hT in_Mod hown hK hP 0 rfl rfl 28 (by decide) (hT _ vt_200) (fun _ h9 => h9) (by rw [hfs_1, List.getElem?_set_ne (by decide)]; exact hz.2 28 (by decide)) d_Mod_none_13 ?_
    refine lv_icmp_lt (tgt := 23) hx hb d_Mod_none_16 (by decide) (fun c_3 => absurd c_3 (hneg)) (fun c_3 => ?_)
    refine lv_iconst (v := 1) hx hb d_Mod_none_19 (by decide) ?_
    refine lv_goto (tgt := 24) hx hb d_Mod_none_20 (by decide) ?_
    have hPc := hP.sub (ws' := [(h0, .inr (12, fs_1))]) [0] rfl
    have hDc := hD.sub (ws' := [(h0, .inr (12, fs_1))]) [0] (by decide) rfl
    have hKc := hK.sub (tys' := []) [] rfl
    have hFc := va_free (wc := [(h0, .inr (12, fs_1))]) hD hS hA [0] rfl
    refine va_calli (va_runV (As := [.int 1, .int 1]) (rest := []) ⟨hx, hb, hml, hown, hT⟩ (c_Mod_refuse1 l dC dI H.size h0 fs_1 1 lfs_1) (cwV 2 hT (gV vt_349 vt_350 vt_351 vt_352 vt_353) rfl rfl rfl (by decide +kernel) ⟨Nat.le_of_ble_eq_true rfl, Nat.le_of_ble_eq_true rfl⟩) ⟨Pw_blind, va_recv hK hP (ci := 12) (q0 := 0) rfl rfl, Pw_of hPc hKc hDc⟩ rfl rfl hl.1 rfl (lv_room (Nat.le_of_ble_eq_true rfl)) d_Mod_none_24 ⟨Nat.le_of_ble_eq_true rfl, Nat.le_of_ble_eq_true rfl⟩) hS (fun q _ h => hFc q h) hFc (fun r_4 u t H1 locs ht hvm hw hB hz1 hk1 hS => ?_)
    obtain ⟨hP1, hK1, hD1⟩ := hB
    rw [ht] at hP1
    have hK1 := va_K.moved hvm.symm hK1
    obtain ⟨hP, hD⟩ := va_join (wr := []) (w1 := [(h0, .inr (12, (List.set fs_1 4 (.int 1))))]) hP hD [0] [] rfl rfl (by decide) (by decide) hk1 hFc hP1 hD1
    generalize H1 = H at hP hS ⊢
    have hP : va_P (dC, dI) classes [(h0, .inr (12, (List.set fs_1 4 (.int 1))))] H := hP
    have hD : va_D A [(h0, .inr (12, (List.set fs_1 4 (.int 1))))] := hD
    refine W.widen (k := 0) (n := 0) (Nat.le_of_ble_eq_true rfl) (Nat.le_of_ble_eq_true rfl) ?_
    subst hw
    obtain ⟨fs_5, hfs_5⟩ : ∃ z, z = List.set fs_1 4 (.int 1) := ⟨_, rfl⟩
    have hP : va_P (dC, dI) classes [(h0, .inr (12, fs_5))] H := by rw [hfs_5]; exact hP
    have hD : va_D A [(h0, .inr (12, fs_5))] := by rw [hfs_5]; exact hD
    have lfs_5 : List.length fs_5 = 76 := by rw [hfs_5, List.length_set]; exact lfs_1
    have tfs_5 : fs_5[4]? = some (.int 1) := by rw [hfs_5]; exact List.getElem?_set_self (by rw [lfs_1]; decide)
    refine W.widen (k := 0) (n := 0) (Nat.le_of_ble_eq_true rfl) (Nat.le_of_ble_eq_true rfl) ?_
    have hP9 := hP.sub (ws' := [(h0, .inr (12, fs_5))]) [0] rfl
    have hD9 := hD.sub (ws' := [(h0, .inr (12, fs_5))]) [0] (by decide) rfl
    have hK9 := hK.sub (tys' := []) [] rfl
    exact W.zret (v := 1) hx hb hr rfl (fun t ht hW => ⟨⟨1, (), rfl, rfl, fs_5, by rw [ht]; exact hP9, va_K.moved hW.alike hK9, hD9, lfs_5, tfs_5⟩, hS.F ht⟩) hS.2.2 d_Mod_none_27
set_option maxHeartbeats 4000000 in
set_option maxRecDepth 100000 in
/-- out -/
theorem c_Mod_out (l : Launch) (dC : Nat → ClassId) (dI : Nat → Nat → Nat) (sz : Nat) (h0 : Nat) (fs : List Value) (hz : Mz fs) (k : Int32) : Met l y_Mod_out w_Mod_out ({ frames := 20, cells := 0, slots := 0, locals := 600 }) (Pw dC dI [.ref h0, .int k] sz [(h0, .inr (12, fs))] []) (va_Qi (fun (r : Int32) (_ : Unit) => r = 0) (fun _ t => ∃ (fs2 : List Value), va_P (dC, dI) classes [(h0, .inr (12, fs2))] t.heap ∧ va_K (dC, dI) classes [] t ∧ va_D (va_A [(h0, .inr (12, fs))] sz) [(h0, .inr (12, fs2))] ∧ fs2.length = 76 ∧ fs2[4]? = some (.int 1)) (va_A [(h0, .inr (12, fs))] sz)) 0 0 (va_A [(h0, .inr (12, fs))] sz) := by
  refine Met.ofW (cc := b_Mod_out) (maxL := 2) (ret := (some .int)) (by decide) rfl ?_
  intro p e s m args below meth c s₁ B hml hv
  obtain ⟨rfl, hsz, hP, hK, hD0⟩ := hv
  have hx := B.exec
  have hb := B.bytes
  have hr := B.returns
  have hT : ∀ w ∈ vT, w.before _ s = true := fun w h => atoms_spec (ws := w_Mod_out) B.pre w (List.mem_cons_of_mem _ h)
  have hown : s.vm.findClass R_Mod = some m.cls := findClass_of_methodNamed B.named
  have hlocks := B.notSynchronized
  subst hsz
  have hD := hD0.self (sz := s.heap.size)
  generalize hAe : va_A [(h0, .inr (12, fs))] s.heap.size = A at hD ⊢
  have hA : ∀ q : Nat, s.heap.size ≤ q → A q := fun q h => by rw [← hAe]; exact Or.inr h
  have hS : va_S A s.heap s.heap [] := va_S.rf
  have hP : va_P (dC, dI) classes [(h0, .inr (12, fs))] s.heap := hP
  have hl := lv_entry ([.ref h0, .int k]) (n := 2) (Nat.le_of_ble_eq_true rfl)
  rw [lg_entry_eq]
  generalize (lg_sl ([.ref h0, .int k]) ++ List.replicate (2 - (lg_sl ([.ref h0, .int k])).length) Slot.unset).toArray = ls at hl ⊢
  have hl : lv_has ls 2 [(0, .ref h0), (1, .int k)] := hl
  refine lv_aload_n hx hb d_Mod_out_0 rfl (lv_at hl 0 rfl) ?_
  refine lv_iconst (v := 0) hx hb d_Mod_out_1 (by decide) ?_
  refine va_put (D := (dC, dI)) (ci := 12) (v := .int 0) (ty := .int) (C := R_Mod) (T := T_Mod) (N := 76) hx hb hT in_Mod ty_Mod tyo_Mod nm_Mod hown hK hP hD hS 0 rfl rfl 4 (by decide) (hT _ vt_175) (fun _ h9 => h9) rfl (by decide +kernel) rfl rfl (by rw [hz.1]; decide) d_Mod_out_2 (fun H locs hP hD hS => ?_)
  obtain ⟨fs_1, hfs_1⟩ : ∃ z, z = List.set fs 4 (.int 0) := ⟨_, rfl⟩
  have hP : va_P (dC, dI) classes [(h0, .inr (12, fs_1))] H := by rw [hfs_1]; exact hP
  have hD : va_D A [(h0, .inr (12, fs_1))] := by rw [hfs_1]; exact hD
  have lfs_1 : List.length fs_1 = 76 := by rw [hfs_1, List.length_set, hz.1]
  refine lv_aload_n hx hb d_Mod_out_5 rfl (lv_at hl 0 rfl) ?_
  refine lv_iconst (v := 1) hx hb d_Mod_out_6 (by decide) ?_
  by_cases hneg : k < 0
  · skip
    refine lv_iload_n hx hb d_Mod_out_7 rfl (lv_at hl 1 rfl) ?_
    refine lv_if_lt (tgt := 19) hx hb d_Mod_out_8 (by decide) (fun c_2 => ?_) (fun c_2 => absurd (hneg) c_2)
    refine lv_iconst (v := 1) hx hb d_Mod_out_19 (by decide) ?_
    refine lv_goto (tgt := 24) hx hb d_Mod_out_20 (by decide) ?_
    have hPc := hP.sub (ws' := [(h0, .inr (12, fs_1))]) [0] rfl
    have hDc := hD.sub (ws' := [(h0, .inr (12, fs_1))]) [0] (by decide) rfl
    have hKc := hK.sub (tys' := []) [] rfl
    have hFc := va_free (wc := [(h0, .inr (12, fs_1))]) hD hS hA [0] rfl
    refine va_calli (va_runV (As := [.int 1, .int 1]) (rest := []) ⟨hx, hb, hml, hown, hT⟩ (c_Mod_refuse1 l dC dI H.size h0 fs_1 1 lfs_1) (cwV 2 hT (gV vt_349 vt_350 vt_351 vt_352 vt_353) rfl rfl rfl (by decide +kernel) ⟨Nat.le_of_ble_eq_true rfl, Nat.le_of_ble_eq_true rfl⟩) ⟨Pw_blind, va_recv hK hP (ci := 12) (q0 := 0) rfl rfl, Pw_of hPc hKc hDc⟩ rfl rfl hl.1 rfl (lv_room (Nat.le_of_ble_eq_true rfl)) d_Mod_out_24 ⟨Nat.le_of_ble_eq_true rfl, Nat.le_of_ble_eq_true rfl⟩) hS (fun q _ h => hFc q h) hFc (fun r_3 u t H1 locs ht hvm hw hB hz1 hk1 hS => ?_)
    obtain ⟨hP1, hK1, hD1⟩ := hB
    rw [ht] at hP1
    have hK1 := va_K.moved hvm.symm hK1
    obtain ⟨hP, hD⟩ := va_join (wr := []) (w1 := [(h0, .inr (12, (List.set fs_1 4 (.int 1))))]) hP hD [0] [] rfl rfl (by decide) (by decide) hk1 hFc hP1 hD1
    generalize H1 = H at hP hS ⊢
    have hP : va_P (dC, dI) classes [(h0, .inr (12, (List.set fs_1 4 (.int 1))))] H := hP
    have hD : va_D A [(h0, .inr (12, (List.set fs_1 4 (.int 1))))] := hD
    refine W.widen (k := 0) (n := 0) (Nat.le_of_ble_eq_true rfl) (Nat.le_of_ble_eq_true rfl) ?_
    subst hw
    obtain ⟨fs_4, hfs_4⟩ : ∃ z, z = List.set fs_1 4 (.int 1) := ⟨_, rfl⟩
    have hP : va_P (dC, dI) classes [(h0, .inr (12, fs_4))] H := by rw [hfs_4]; exact hP
    have hD : va_D A [(h0, .inr (12, fs_4))] := by rw [hfs_4]; exact hD
    have lfs_4 : List.length fs_4 = 76 := by rw [hfs_4, List.length_set]; exact lfs_1
    have tfs_4 : fs_4[4]? = some (.int 1) := by rw [hfs_4]; exact List.getElem?_set_self (by rw [lfs_1]; decide)
    refine lv_if_eq (tgt := 32) hx hb d_Mod_out_27 (by decide) (fun c_5 => absurd c_5 (by decide)) (fun c_5 => ?_)
    refine lv_iconst (v := 0) hx hb d_Mod_out_30 (by decide) ?_
    refine W.widen (k := 0) (n := 0) (Nat.le_of_ble_eq_true rfl) (Nat.le_of_ble_eq_true rfl) ?_
    have hP9 := hP.sub (ws' := [(h0, .inr (12, fs_4))]) [0] rfl
    have hD9 := hD.sub (ws' := [(h0, .inr (12, fs_4))]) [0] (by decide) rfl
    have hK9 := hK.sub (tys' := []) [] rfl
    exact W.iret (v := 0) hx hb hr (fun t ht hW => ⟨⟨0, (), rfl, rfl, fs_4, by rw [ht]; exact hP9, va_K.moved hW.alike hK9, hD9, lfs_4, tfs_4⟩, hS.F ht⟩) hS.2.2 d_Mod_out_31
  · skip
    refine lv_iload_n hx hb d_Mod_out_7 rfl (lv_at hl 1 rfl) ?_
    refine lv_if_lt (tgt := 19) hx hb d_Mod_out_8 (by decide) (fun c_2 => absurd c_2 (hneg)) (fun c_2 => ?_)
    refine lv_iload_n hx hb d_Mod_out_11 rfl (lv_at hl 1 rfl) ?_
    refine lv_aload_n hx hb d_Mod_out_12 rfl (lv_at hl 0 rfl) ?_
    refine va_get (D := (dC, dI)) (ci := 12) (v := .int 0) (C := R_Mod) (T := T_Mod) (N := 76) hx hb hT in_Mod hown hK hP 0 rfl rfl 3 (by decide) (hT _ vt_174) (fun _ h9 => h9) (by rw [hfs_1, List.getElem?_set_ne (by decide)]; exact hz.2 3 (by decide)) d_Mod_out_13 ?_
    refine lv_icmp_lt (tgt := 23) hx hb d_Mod_out_16 (by decide) (fun c_3 => absurd c_3 (hneg)) (fun c_3 => ?_)
    refine lv_iconst (v := 1) hx hb d_Mod_out_19 (by decide) ?_
    refine lv_goto (tgt := 24) hx hb d_Mod_out_20 (by decide) ?_
    have hPc := hP.sub (ws' := [(h0, .inr (12, fs_1))]) [0] rfl
    have hDc := hD.sub (ws' := [(h0, .inr (12, fs_1))]) [0] (by decide) rfl
    have hKc := hK.sub (tys' := []) [] rfl
    have hFc := va_free (wc := [(h0, .inr (12, fs_1))]) hD hS hA [0] rfl
    refine va_calli (va_runV (As := [.int 1, .int 1]) (rest := []) ⟨hx, hb, hml, hown, hT⟩ (c_Mod_refuse1 l dC dI H.size h0 fs_1 1 lfs_1) (cwV 2 hT (gV vt_349 vt_350 vt_351 vt_352 vt_353) rfl rfl rfl (by decide +kernel) ⟨Nat.le_of_ble_eq_true rfl, Nat.le_of_ble_eq_true rfl⟩) ⟨Pw_blind, va_recv hK hP (ci := 12) (q0 := 0) rfl rfl, Pw_of hPc hKc hDc⟩ rfl rfl hl.1 rfl (lv_room (Nat.le_of_ble_eq_true rfl)) d_Mod_out_24 ⟨Nat.le_of_ble_eq_true rfl, Nat.le_of_ble_eq_true rfl⟩) hS (fun q _ h => hFc q h) hFc (fun r_4 u t H1 locs ht hvm hw hB hz1 hk1 hS => ?_)
    obtain ⟨hP1, hK1, hD1⟩ := hB
    rw [ht] at hP1
    have hK1 := va_K.moved hvm.symm hK1
    obtain ⟨hP, hD⟩ := va_join (wr := []) (w1 := [(h0, .inr (12, (List.set fs_1 4 (.int 1))))]) hP hD [0] [] rfl rfl (by decide) (by decide) hk1 hFc hP1 hD1
    generalize H1 = H at hP hS ⊢
    have hP : va_P (dC, dI) classes [(h0, .inr (12, (List.set fs_1 4 (.int 1))))] H := hP
    have hD : va_D A [(h0, .inr (12, (List.set fs_1 4 (.int 1))))] := hD
    refine W.widen (k := 0) (n := 0) (Nat.le_of_ble_eq_true rfl) (Nat.le_of_ble_eq_true rfl) ?_
    subst hw
    obtain ⟨fs_5, hfs_5⟩ : ∃ z, z = List.set fs_1 4 (.int 1) := ⟨_, rfl⟩
    have hP : va_P (dC, dI) classes [(h0, .inr (12, fs_5))] H := by rw [hfs_5]; exact hP
    have hD : va_D A [(h0, .inr (12, fs_5))] := by rw [hfs_5]; exact hD
    have lfs_5 : List.length fs_5 = 76 := by rw [hfs_5, List.length_set]; exact lfs_1
    have tfs_5 : fs_5[4]? = some (.int 1) := by rw [hfs_5]; exact List.getElem?_set_self (by rw [lfs_1]; decide)
    refine lv_if_eq (tgt := 32) hx hb d_Mod_out_27 (by decide) (fun c_6 => absurd c_6 (by decide)) (fun c_6 => ?_)
    refine lv_iconst (v := 0) hx hb d_Mod_out_30 (by decide) ?_
    refine W.widen (k := 0) (n := 0) (Nat.le_of_ble_eq_true rfl) (Nat.le_of_ble_eq_true rfl) ?_
    have hP9 := hP.sub (ws' := [(h0, .inr (12, fs_5))]) [0] rfl
    have hD9 := hD.sub (ws' := [(h0, .inr (12, fs_5))]) [0] (by decide) rfl
    have hK9 := hK.sub (tys' := []) [] rfl
    exact W.iret (v := 0) hx hb hr (fun t ht hW => ⟨⟨0, (), rfl, rfl, fs_5, by rw [ht]; exact hP9, va_K.moved hW.alike hK9, hD9, lfs_5, tfs_5⟩, hS.F ht⟩) hS.2.2 d_Mod_out_31
set_option maxHeartbeats 4000000 in
set_option maxRecDepth 100000 in
/-- end of a number that is not 0 -/
theorem c_Mod_endT (l : Launch) (dC : Nat → ClassId) (dI : Nat → Nat → Nat) (sz : Nat) (h0 : Nat) (fs : List Value) (hz : Mz fs) (k : Int32) (hk : ¬ k = 0) : Met l y_Mod_end w_Mod_end ({ frames := 20, cells := 0, slots := 0, locals := 600 }) (Pw dC dI [.ref h0, .int k] sz [(h0, .inr (12, fs))] []) (va_Qi (fun (r : Int32) (_ : Unit) => r = 0) (fun _ t => ∃ (fs2 : List Value), va_P (dC, dI) classes [(h0, .inr (12, fs2))] t.heap ∧ va_K (dC, dI) classes [] t ∧ va_D (va_A [(h0, .inr (12, fs))] sz) [(h0, .inr (12, fs2))] ∧ fs2.length = 76 ∧ fs2[4]? = some (.int 1)) (va_A [(h0, .inr (12, fs))] sz)) 0 0 (va_A [(h0, .inr (12, fs))] sz) := by
  refine Met.ofW (cc := b_Mod_end) (maxL := 2) (ret := (some .int)) (by decide) rfl ?_
  intro p e s m args below meth c s₁ B hml hv
  obtain ⟨rfl, hsz, hP, hK, hD0⟩ := hv
  have hx := B.exec
  have hb := B.bytes
  have hr := B.returns
  have hT : ∀ w ∈ vT, w.before _ s = true := fun w h => atoms_spec (ws := w_Mod_end) B.pre w (List.mem_cons_of_mem _ h)
  have hown : s.vm.findClass R_Mod = some m.cls := findClass_of_methodNamed B.named
  have hlocks := B.notSynchronized
  subst hsz
  have hD := hD0.self (sz := s.heap.size)
  generalize hAe : va_A [(h0, .inr (12, fs))] s.heap.size = A at hD ⊢
  have hA : ∀ q : Nat, s.heap.size ≤ q → A q := fun q h => by rw [← hAe]; exact Or.inr h
  have hS : va_S A s.heap s.heap [] := va_S.rf
  have hP : va_P (dC, dI) classes [(h0, .inr (12, fs))] s.heap := hP
  have hl := lv_entry ([.ref h0, .int k]) (n := 2) (Nat.le_of_ble_eq_true rfl)
  rw [lg_entry_eq]
  generalize (lg_sl ([.ref h0, .int k]) ++ List.replicate (2 - (lg_sl ([.ref h0, .int k])).length) Slot.unset).toArray = ls at hl ⊢
  have hl : lv_has ls 2 [(0, .ref h0), (1, .int k)] := hl
  refine lv_aload_n hx hb d_Mod_end_0 rfl (lv_at hl 0 rfl) ?_
  refine lv_iconst (v := 0) hx hb d_Mod_end_1 (by decide) ?_
  refine va_put (D := (dC, dI)) (ci := 12) (v := .int 0) (ty := .int) (C := R_Mod) (T := T_Mod) (N := 76) hx hb hT in_Mod ty_Mod tyo_Mod nm_Mod hown hK hP hD hS 0 rfl rfl 4 (by decide) (hT _ vt_175) (fun _ h9 => h9) rfl (by decide +kernel) rfl rfl (by rw [hz.1]; decide) d_Mod_end_2 (fun H locs hP hD hS => ?_)
  obtain ⟨fs_1, hfs_1⟩ : ∃ z, z = List.set fs 4 (.int 0) := ⟨_, rfl⟩
  have hP : va_P (dC, dI) classes [(h0, .inr (12, fs_1))] H := by rw [hfs_1]; exact hP
  have hD : va_D A [(h0, .inr (12, fs_1))] := by rw [hfs_1]; exact hD
  have lfs_1 : List.length fs_1 = 76 := by rw [hfs_1, List.length_set, hz.1]
  refine lv_aload_n hx hb d_Mod_end_5 rfl (lv_at hl 0 rfl) ?_
  refine lv_iconst (v := 1) hx hb d_Mod_end_6 (by decide) ?_
  by_cases hneg : k < 0
  · skip
    refine lv_iload_n hx hb d_Mod_end_7 rfl (lv_at hl 1 rfl) ?_
    refine lv_if_lt (tgt := 19) hx hb d_Mod_end_8 (by decide) (fun c_2 => ?_) (fun c_2 => absurd (hneg) c_2)
    refine lv_iconst (v := 1) hx hb d_Mod_end_19 (by decide) ?_
    refine lv_goto (tgt := 24) hx hb d_Mod_end_20 (by decide) ?_
    have hPc := hP.sub (ws' := [(h0, .inr (12, fs_1))]) [0] rfl
    have hDc := hD.sub (ws' := [(h0, .inr (12, fs_1))]) [0] (by decide) rfl
    have hKc := hK.sub (tys' := []) [] rfl
    have hFc := va_free (wc := [(h0, .inr (12, fs_1))]) hD hS hA [0] rfl
    refine va_calli (va_runV (As := [.int 1, .int 1]) (rest := []) ⟨hx, hb, hml, hown, hT⟩ (c_Mod_refuse1 l dC dI H.size h0 fs_1 1 lfs_1) (cwV 2 hT (gV vt_349 vt_350 vt_351 vt_352 vt_353) rfl rfl rfl (by decide +kernel) ⟨Nat.le_of_ble_eq_true rfl, Nat.le_of_ble_eq_true rfl⟩) ⟨Pw_blind, va_recv hK hP (ci := 12) (q0 := 0) rfl rfl, Pw_of hPc hKc hDc⟩ rfl rfl hl.1 rfl (lv_room (Nat.le_of_ble_eq_true rfl)) d_Mod_end_24 ⟨Nat.le_of_ble_eq_true rfl, Nat.le_of_ble_eq_true rfl⟩) hS (fun q _ h => hFc q h) hFc (fun r_3 u t H1 locs ht hvm hw hB hz1 hk1 hS => ?_)
    obtain ⟨hP1, hK1, hD1⟩ := hB
    rw [ht] at hP1
    have hK1 := va_K.moved hvm.symm hK1
    obtain ⟨hP, hD⟩ := va_join (wr := []) (w1 := [(h0, .inr (12, (List.set fs_1 4 (.int 1))))]) hP hD [0] [] rfl rfl (by decide) (by decide) hk1 hFc hP1 hD1
    generalize H1 = H at hP hS ⊢
    have hP : va_P (dC, dI) classes [(h0, .inr (12, (List.set fs_1 4 (.int 1))))] H := hP
    have hD : va_D A [(h0, .inr (12, (List.set fs_1 4 (.int 1))))] := hD
    refine W.widen (k := 0) (n := 0) (Nat.le_of_ble_eq_true rfl) (Nat.le_of_ble_eq_true rfl) ?_
    subst hw
    obtain ⟨fs_4, hfs_4⟩ : ∃ z, z = List.set fs_1 4 (.int 1) := ⟨_, rfl⟩
    have hP : va_P (dC, dI) classes [(h0, .inr (12, fs_4))] H := by rw [hfs_4]; exact hP
    have hD : va_D A [(h0, .inr (12, fs_4))] := by rw [hfs_4]; exact hD
    have lfs_4 : List.length fs_4 = 76 := by rw [hfs_4, List.length_set]; exact lfs_1
    have tfs_4 : fs_4[4]? = some (.int 1) := by rw [hfs_4]; exact List.getElem?_set_self (by rw [lfs_1]; decide)
    refine lv_if_eq (tgt := 32) hx hb d_Mod_end_27 (by decide) (fun c_5 => absurd c_5 (by decide)) (fun c_5 => ?_)
    refine lv_iconst (v := 0) hx hb d_Mod_end_30 (by decide) ?_
    refine W.widen (k := 0) (n := 0) (Nat.le_of_ble_eq_true rfl) (Nat.le_of_ble_eq_true rfl) ?_
    have hP9 := hP.sub (ws' := [(h0, .inr (12, fs_4))]) [0] rfl
    have hD9 := hD.sub (ws' := [(h0, .inr (12, fs_4))]) [0] (by decide) rfl
    have hK9 := hK.sub (tys' := []) [] rfl
    exact W.iret (v := 0) hx hb hr (fun t ht hW => ⟨⟨0, (), rfl, rfl, fs_4, by rw [ht]; exact hP9, va_K.moved hW.alike hK9, hD9, lfs_4, tfs_4⟩, hS.F ht⟩) hS.2.2 d_Mod_end_31
  · skip
    refine lv_iload_n hx hb d_Mod_end_7 rfl (lv_at hl 1 rfl) ?_
    refine lv_if_lt (tgt := 19) hx hb d_Mod_end_8 (by decide) (fun c_2 => absurd c_2 (hneg)) (fun c_2 => ?_)
    refine lv_iload_n hx hb d_Mod_end_11 rfl (lv_at hl 1 rfl) ?_
    refine lv_aload_n hx hb d_Mod_end_12 rfl (lv_at hl 0 rfl) ?_
    refine va_get (D := (dC, dI)) (ci := 12) (v := .int 0) (C := R_Mod) (T := T_Mod) (N := 76) hx hb hT in_Mod hown hK hP 0 rfl rfl 2 (by decide) (hT _ vt_173) (fun _ h9 => h9) (by rw [hfs_1, List.getElem?_set_ne (by decide)]; exact hz.2 2 (by decide)) d_Mod_end_13 ?_
    refine lv_icmp_le (tgt := 23) hx hb d_Mod_end_16 (by decide) (fun c_3 => absurd c_3 (fun h => hk (Int32.le_antisymm h (Int32.not_lt.mp hneg)))) (fun c_3 => ?_)
    refine lv_iconst (v := 1) hx hb d_Mod_end_19 (by decide) ?_
    refine lv_goto (tgt := 24) hx hb d_Mod_end_20 (by decide) ?_
    have hPc := hP.sub (ws' := [(h0, .inr (12, fs_1))]) [0] rfl
    have hDc := hD.sub (ws' := [(h0, .inr (12, fs_1))]) [0] (by decide) rfl
    have hKc := hK.sub (tys' := []) [] rfl
    have hFc := va_free (wc := [(h0, .inr (12, fs_1))]) hD hS hA [0] rfl
    refine va_calli (va_runV (As := [.int 1, .int 1]) (rest := []) ⟨hx, hb, hml, hown, hT⟩ (c_Mod_refuse1 l dC dI H.size h0 fs_1 1 lfs_1) (cwV 2 hT (gV vt_349 vt_350 vt_351 vt_352 vt_353) rfl rfl rfl (by decide +kernel) ⟨Nat.le_of_ble_eq_true rfl, Nat.le_of_ble_eq_true rfl⟩) ⟨Pw_blind, va_recv hK hP (ci := 12) (q0 := 0) rfl rfl, Pw_of hPc hKc hDc⟩ rfl rfl hl.1 rfl (lv_room (Nat.le_of_ble_eq_true rfl)) d_Mod_end_24 ⟨Nat.le_of_ble_eq_true rfl, Nat.le_of_ble_eq_true rfl⟩) hS (fun q _ h => hFc q h) hFc (fun r_4 u t H1 locs ht hvm hw hB hz1 hk1 hS => ?_)
    obtain ⟨hP1, hK1, hD1⟩ := hB
    rw [ht] at hP1
    have hK1 := va_K.moved hvm.symm hK1
    obtain ⟨hP, hD⟩ := va_join (wr := []) (w1 := [(h0, .inr (12, (List.set fs_1 4 (.int 1))))]) hP hD [0] [] rfl rfl (by decide) (by decide) hk1 hFc hP1 hD1
    generalize H1 = H at hP hS ⊢
    have hP : va_P (dC, dI) classes [(h0, .inr (12, (List.set fs_1 4 (.int 1))))] H := hP
    have hD : va_D A [(h0, .inr (12, (List.set fs_1 4 (.int 1))))] := hD
    refine W.widen (k := 0) (n := 0) (Nat.le_of_ble_eq_true rfl) (Nat.le_of_ble_eq_true rfl) ?_
    subst hw
    obtain ⟨fs_5, hfs_5⟩ : ∃ z, z = List.set fs_1 4 (.int 1) := ⟨_, rfl⟩
    have hP : va_P (dC, dI) classes [(h0, .inr (12, fs_5))] H := by rw [hfs_5]; exact hP
    have hD : va_D A [(h0, .inr (12, fs_5))] := by rw [hfs_5]; exact hD
    have lfs_5 : List.length fs_5 = 76 := by rw [hfs_5, List.length_set]; exact lfs_1
    have tfs_5 : fs_5[4]? = some (.int 1) := by rw [hfs_5]; exact List.getElem?_set_self (by rw [lfs_1]; decide)
    refine lv_if_eq (tgt := 32) hx hb d_Mod_end_27 (by decide) (fun c_6 => absurd c_6 (by decide)) (fun c_6 => ?_)
    refine lv_iconst (v := 0) hx hb d_Mod_end_30 (by decide) ?_
    refine W.widen (k := 0) (n := 0) (Nat.le_of_ble_eq_true rfl) (Nat.le_of_ble_eq_true rfl) ?_
    have hP9 := hP.sub (ws' := [(h0, .inr (12, fs_5))]) [0] rfl
    have hD9 := hD.sub (ws' := [(h0, .inr (12, fs_5))]) [0] (by decide) rfl
    have hK9 := hK.sub (tys' := []) [] rfl
    exact W.iret (v := 0) hx hb hr (fun t ht hW => ⟨⟨0, (), rfl, rfl, fs_5, by rw [ht]; exact hP9, va_K.moved hW.alike hK9, hD9, lfs_5, tfs_5⟩, hS.F ht⟩) hS.2.2 d_Mod_end_31
set_option maxHeartbeats 4000000 in
set_option maxRecDepth 100000 in
/-- end(0) -/
theorem c_Mod_end0 (l : Launch) (dC : Nat → ClassId) (dI : Nat → Nat → Nat) (sz : Nat) (h0 : Nat) (fs : List Value) (hz : Mz fs) : Met l y_Mod_end w_Mod_end ({ frames := 20, cells := 0, slots := 0, locals := 600 }) (Pw dC dI [.ref h0, .int 0] sz [(h0, .inr (12, fs))] []) (va_Qi (fun (r : Int32) (_ : Unit) => r = 0) (fun _ t => ∃ (fs2 : List Value), va_P (dC, dI) classes [(h0, .inr (12, fs2))] t.heap ∧ va_K (dC, dI) classes [] t ∧ va_D (va_A [(h0, .inr (12, fs))] sz) [(h0, .inr (12, fs2))] ∧ fs2.length = 76 ∧ fs2[4]? = some (.int 0)) (va_A [(h0, .inr (12, fs))] sz)) 0 0 (va_A [(h0, .inr (12, fs))] sz) := by
  refine Met.ofW (cc := b_Mod_end) (maxL := 2) (ret := (some .int)) (by decide) rfl ?_
  intro p e s m args below meth c s₁ B hml hv
  obtain ⟨rfl, hsz, hP, hK, hD0⟩ := hv
  have hx := B.exec
  have hb := B.bytes
  have hr := B.returns
  have hT : ∀ w ∈ vT, w.before _ s = true := fun w h => atoms_spec (ws := w_Mod_end) B.pre w (List.mem_cons_of_mem _ h)
  have hown : s.vm.findClass R_Mod = some m.cls := findClass_of_methodNamed B.named
  have hlocks := B.notSynchronized
  subst hsz
  have hD := hD0.self (sz := s.heap.size)
  generalize hAe : va_A [(h0, .inr (12, fs))] s.heap.size = A at hD ⊢
  have hA : ∀ q : Nat, s.heap.size ≤ q → A q := fun q h => by rw [← hAe]; exact Or.inr h
  have hS : va_S A s.heap s.heap [] := va_S.rf
  have hP : va_P (dC, dI) classes [(h0, .inr (12, fs))] s.heap := hP
  have hl := lv_entry ([.ref h0, .int 0]) (n := 2) (Nat.le_of_ble_eq_true rfl)
  rw [lg_entry_eq]
  generalize (lg_sl ([.ref h0, .int 0]) ++ List.replicate (2 - (lg_sl ([.ref h0, .int 0])).length) Slot.unset).toArray = ls at hl ⊢
  have hl : lv_has ls 2 [(0, .ref h0), (1, .int 0)] := hl
  refine lv_aload_n hx hb d_Mod_end_0 rfl (lv_at hl 0 rfl) ?_
  refine lv_iconst (v := 0) hx hb d_Mod_end_1 (by decide) ?_
  refine va_put (D := (dC, dI)) (ci := 12) (v := .int 0) (ty := .int) (C := R_Mod) (T := T_Mod) (N := 76) hx hb hT in_Mod ty_Mod tyo_Mod nm_Mod hown hK hP hD hS 0 rfl rfl 4 (by decide) (hT _ vt_175) (fun _ h9 => h9) rfl (by decide +kernel) rfl rfl (by rw [hz.1]; decide) d_Mod_end_2 (fun H locs hP hD hS => ?_)
  obtain ⟨fs_1, hfs_1⟩ : ∃ z, z = List.set fs 4 (.int 0) := ⟨_, rfl⟩
  have hP : va_P (dC, dI) classes [(h0, .inr (12, fs_1))] H := by rw [hfs_1]; exact hP
  have hD : va_D A [(h0, .inr (12, fs_1))] := by rw [hfs_1]; exact hD
  have lfs_1 : List.length fs_1 = 76 := by rw [hfs_1, List.length_set, hz.1]
  refine lv_aload_n hx hb d_Mod_end_5 rfl (lv_at hl 0 rfl) ?_
  refine lv_iconst (v := 1) hx hb d_Mod_end_6 (by decide) ?_
  refine lv_iload_n hx hb d_Mod_end_7 rfl (lv_at hl 1 rfl) ?_
  refine lv_if_lt (tgt := 19) hx hb d_Mod_end_8 (by decide) (fun c_2 => absurd c_2 (by decide)) (fun c_2 => ?_)
  refine lv_iload_n hx hb d_Mod_end_11 rfl (lv_at hl 1 rfl) ?_
  refine lv_aload_n hx hb d_Mod_end_12 rfl (lv_at hl 0 rfl) ?_
  refine va_get (D := (dC, dI)) (ci := 12) (v := .int 0) (C := R_Mod) (T := T_Mod) (N := 76) hx hb hT in_Mod hown hK hP 0 rfl rfl 2 (by decide) (hT _ vt_173) (fun _ h9 => h9) (by rw [hfs_1, List.getElem?_set_ne (by decide)]; exact hz.2 2 (by decide)) d_Mod_end_13 ?_
  refine lv_icmp_le (tgt := 23) hx hb d_Mod_end_16 (by decide) (fun c_3 => ?_) (fun c_3 => absurd (by decide) c_3)
  refine lv_iconst (v := 0) hx hb d_Mod_end_23 (by decide) ?_
  refine W.callR (W.runV (As := [.int 1, .int 0]) (rest := []) ⟨hx, hb, hml, hown, hT⟩ (c_Mod_refuse0 l dC dI h0 fs_1 1) (cwV 2 hT (gV vt_349 vt_350 vt_351 vt_352 vt_353) rfl rfl rfl (by decide +kernel) ⟨Nat.le_of_ble_eq_true rfl, Nat.le_of_ble_eq_true rfl⟩) ⟨Pp_blind, va_recv hK hP (ci := 12) (q0 := 0) rfl rfl, Pp_of (hP.sub (ws' := [(h0, .inr (12, fs_1))]) [0] rfl) (hK.sub (tys' := []) [] rfl)⟩ rfl rfl hl.1 rfl (lv_room (Nat.le_of_ble_eq_true rfl)) d_Mod_end_24 ⟨Nat.le_of_ble_eq_true rfl, Nat.le_of_ble_eq_true rfl⟩) ?_
  refine W.eq (g2 := F0 m 27 ls [.int 0]) rfl ?_
  refine lv_if_eq (tgt := 32) hx hb d_Mod_end_27 (by decide) (fun c_4 => ?_) (fun c_4 => absurd (rfl) c_4)
  refine lv_aload_n hx hb d_Mod_end_32 rfl (lv_at hl 0 rfl) ?_
  refine lv_iload_n hx hb d_Mod_end_33 rfl (lv_at hl 1 rfl) ?_
  refine va_put (D := (dC, dI)) (ci := 12) (v := .int 0) (ty := .int) (C := R_Mod) (T := T_Mod) (N := 76) hx hb hT in_Mod ty_Mod tyo_Mod nm_Mod hown hK hP hD hS 0 rfl rfl 2 (by decide) (hT _ vt_173) (fun _ h9 => h9) rfl (by decide +kernel) rfl rfl (by rw [lfs_1]; decide) d_Mod_end_34 (fun H locs hP hD hS => ?_)
  obtain ⟨fs_5, hfs_5⟩ : ∃ z, z = List.set fs_1 2 (.int 0) := ⟨_, rfl⟩
  have hP : va_P (dC, dI) classes [(h0, .inr (12, fs_5))] H := by rw [hfs_5]; exact hP
  have hD : va_D A [(h0, .inr (12, fs_5))] := by rw [hfs_5]; exact hD
  have lfs_5 : List.length fs_5 = 76 := by rw [hfs_5, List.length_set, hfs_1, List.length_set, hz.1]
  refine lv_iload_n hx hb d_Mod_end_37 rfl (lv_at hl 1 rfl) ?_
  have tt : fs_5[4]? = some (.int 0) := (by rw [hfs_5, List.getElem?_set_ne (by decide), hfs_1]; exact List.getElem?_set_self (by rw [hz.1]; decide))
  refine W.widen (k := 0) (n := 0) (Nat.le_of_ble_eq_true rfl) (Nat.le_of_ble_eq_true rfl) ?_
  have hP9 := hP.sub (ws' := [(h0, .inr (12, fs_5))]) [0] rfl
  have hD9 := hD.sub (ws' := [(h0, .inr (12, fs_5))]) [0] (by decide) rfl
  have hK9 := hK.sub (tys' := []) [] rfl
  exact W.iret (v := 0) hx hb hr (fun t ht hW => ⟨⟨0, (), rfl, rfl, fs_5, by rw [ht]; exact hP9, va_K.moved hW.alike hK9, hD9, lfs_5, tt⟩, hS.F ht⟩) hS.2.2 d_Mod_end_38
set_option maxHeartbeats 4000000 in
set_option maxRecDepth 100000 in
/-- constant -/
theorem c_Mod_constant (l : Launch) (dC : Nat → ClassId) (dI : Nat → Nat → Nat) (sz : Nat) (h0 : Nat) (fs : List Value) (hz : Mz fs) (k w : Int32) : Met l y_Mod_constant w_Mod_constant ({ frames := 30, cells := 0, slots := 0, locals := 900 }) (Pw dC dI [.ref h0, .int k, .int w] sz [(h0, .inr (12, fs))] []) (va_Qi (fun (r : Int32) (_ : Unit) => r = 0) (fun _ t => ∃ (fs2 : List Value), va_P (dC, dI) classes [(h0, .inr (12, fs2))] t.heap ∧ va_K (dC, dI) classes [] t ∧ va_D (va_A [(h0, .inr (12, fs))] sz) [(h0, .inr (12, fs2))] ∧ fs2.length = 76 ∧ fs2[4]? = some (.int 1)) (va_A [(h0, .inr (12, fs))] sz)) 0 0 (va_A [(h0, .inr (12, fs))] sz) := by
  refine Met.ofW (cc := b_Mod_constant) (maxL := 4) (ret := (some .int)) (by decide) rfl ?_
  intro p e s m args below meth c s₁ B hml hv
  obtain ⟨rfl, hsz, hP, hK, hD0⟩ := hv
  have hx := B.exec
  have hb := B.bytes
  have hr := B.returns
  have hT : ∀ w ∈ vT, w.before _ s = true := fun w h => atoms_spec (ws := w_Mod_constant) B.pre w (List.mem_cons_of_mem _ h)
  have hown : s.vm.findClass R_Mod = some m.cls := findClass_of_methodNamed B.named
  have hlocks := B.notSynchronized
  subst hsz
  have hD := hD0.self (sz := s.heap.size)
  generalize hAe : va_A [(h0, .inr (12, fs))] s.heap.size = A at hD ⊢
  have hA : ∀ q : Nat, s.heap.size ≤ q → A q := fun q h => by rw [← hAe]; exact Or.inr h
  have hS : va_S A s.heap s.heap [] := va_S.rf
  have hP : va_P (dC, dI) classes [(h0, .inr (12, fs))] s.heap := hP
  have hl := lv_entry ([.ref h0, .int k, .int w]) (n := 4) (Nat.le_of_ble_eq_true rfl)
  rw [lg_entry_eq]
  generalize (lg_sl ([.ref h0, .int k, .int w]) ++ List.replicate (4 - (lg_sl ([.ref h0, .int k, .int w])).length) Slot.unset).toArray = ls at hl ⊢
  have hl : lv_has ls 4 [(0, .ref h0), (1, .int k), (2, .int w)] := hl
  refine lv_aload_n hx hb d_Mod_constant_0 rfl (lv_at hl 0 rfl) ?_
  refine lv_iload_n hx hb d_Mod_constant_1 rfl (lv_at hl 1 rfl) ?_
  have hPc := hP.sub (ws' := [(h0, .inr (12, fs))]) [0] rfl
  have hDc := hD.sub (ws' := [(h0, .inr (12, fs))]) [0] (by decide) rfl
  have hKc := hK.sub (tys' := []) [] rfl
  have hFc := va_free (wc := [(h0, .inr (12, fs))]) hD hS hA [0] rfl
  refine va_calli (va_runV (As := [.int k]) (rest := []) ⟨hx, hb, hml, hown, hT⟩ (c_Mod_none l dC dI s.heap.size h0 fs hz k) (cwV 1 hT (gV vt_354 vt_355 vt_356 vt_352 vt_357) rfl rfl rfl (by decide +kernel) ⟨Nat.le_of_ble_eq_true rfl, Nat.le_of_ble_eq_true rfl⟩) ⟨Pw_blind, va_recv hK hP (ci := 12) (q0 := 0) rfl rfl, Pw_of hPc hKc hDc⟩ rfl rfl hl.1 rfl (lv_room (Nat.le_of_ble_eq_true rfl)) d_Mod_constant_2 ⟨Nat.le_of_ble_eq_true rfl, Nat.le_of_ble_eq_true rfl⟩) hS (fun q _ h => hFc q h) hFc (fun r_2 u t H1 locs ht hvm hw hB hz1 hk1 hS => ?_)
  obtain ⟨fs_1, hP1, hK1, hD1, lfs_1, tfs_1⟩ := hB
  rw [ht] at hP1
  have hK1 := va_K.moved hvm.symm hK1
  obtain ⟨hP, hD⟩ := va_join (wr := []) (w1 := [(h0, .inr (12, fs_1))]) hP hD [0] [] rfl rfl (by decide) (by decide) hk1 hFc hP1 hD1
  generalize H1 = H at hP hS ⊢
  have hP : va_P (dC, dI) classes [(h0, .inr (12, fs_1))] H := hP
  have hD : va_D A [(h0, .inr (12, fs_1))] := hD
  refine W.widen (k := 0) (n := 0) (Nat.le_of_ble_eq_true rfl) (Nat.le_of_ble_eq_true rfl) ?_
  subst hw
  refine lv_if_eq (tgt := 10) hx hb d_Mod_constant_5 (by decide) (fun c_3 => absurd c_3 (by decide)) (fun c_3 => ?_)
  refine lv_iconst (v := 0) hx hb d_Mod_constant_8 (by decide) ?_
  refine W.widen (k := 0) (n := 0) (Nat.le_of_ble_eq_true rfl) (Nat.le_of_ble_eq_true rfl) ?_
  have hP9 := hP.sub (ws' := [(h0, .inr (12, fs_1))]) [0] rfl
  have hD9 := hD.sub (ws' := [(h0, .inr (12, fs_1))]) [0] (by decide) rfl
  have hK9 := hK.sub (tys' := []) [] rfl
  exact W.iret (v := 0) hx hb hr (fun t ht hW => ⟨⟨0, (), rfl, rfl, fs_1, by rw [ht]; exact hP9, va_K.moved hW.alike hK9, hD9, lfs_1, tfs_1⟩, hS.F ht⟩) hS.2.2 d_Mod_constant_9
set_option maxHeartbeats 4000000 in
set_option maxRecDepth 100000 in
/-- show -/
theorem c_Mod_show (l : Launch) (dC : Nat → ClassId) (dI : Nat → Nat → Nat) (sz : Nat) (h0 : Nat) (fs : List Value) (hz : Mz fs) (k w : Int32) : Met l y_Mod_show w_Mod_show ({ frames := 30, cells := 0, slots := 0, locals := 900 }) (Pw dC dI [.ref h0, .int k, .int w] sz [(h0, .inr (12, fs))] []) (va_Qi (fun (r : Int32) (_ : Unit) => r = 0) (fun _ t => ∃ (fs2 : List Value), va_P (dC, dI) classes [(h0, .inr (12, fs2))] t.heap ∧ va_K (dC, dI) classes [] t ∧ va_D (va_A [(h0, .inr (12, fs))] sz) [(h0, .inr (12, fs2))] ∧ fs2.length = 76 ∧ fs2[4]? = some (.int 1)) (va_A [(h0, .inr (12, fs))] sz)) 0 0 (va_A [(h0, .inr (12, fs))] sz) := by
  refine Met.ofW (cc := b_Mod_show) (maxL := 3) (ret := (some .int)) (by decide) rfl ?_
  intro p e s m args below meth c s₁ B hml hv
  obtain ⟨rfl, hsz, hP, hK, hD0⟩ := hv
  have hx := B.exec
  have hb := B.bytes
  have hr := B.returns
  have hT : ∀ w ∈ vT, w.before _ s = true := fun w h => atoms_spec (ws := w_Mod_show) B.pre w (List.mem_cons_of_mem _ h)
  have hown : s.vm.findClass R_Mod = some m.cls := findClass_of_methodNamed B.named
  have hlocks := B.notSynchronized
  subst hsz
  have hD := hD0.self (sz := s.heap.size)
  generalize hAe : va_A [(h0, .inr (12, fs))] s.heap.size = A at hD ⊢
  have hA : ∀ q : Nat, s.heap.size ≤ q → A q := fun q h => by rw [← hAe]; exact Or.inr h
  have hS : va_S A s.heap s.heap [] := va_S.rf
  have hP : va_P (dC, dI) classes [(h0, .inr (12, fs))] s.heap := hP
  have hl := lv_entry ([.ref h0, .int k, .int w]) (n := 3) (Nat.le_of_ble_eq_true rfl)
  rw [lg_entry_eq]
  generalize (lg_sl ([.ref h0, .int k, .int w]) ++ List.replicate (3 - (lg_sl ([.ref h0, .int k, .int w])).length) Slot.unset).toArray = ls at hl ⊢
  have hl : lv_has ls 3 [(0, .ref h0), (1, .int k), (2, .int w)] := hl
  refine lv_aload_n hx hb d_Mod_show_0 rfl (lv_at hl 0 rfl) ?_
  refine lv_iload_n hx hb d_Mod_show_1 rfl (lv_at hl 1 rfl) ?_
  have hPc := hP.sub (ws' := [(h0, .inr (12, fs))]) [0] rfl
  have hDc := hD.sub (ws' := [(h0, .inr (12, fs))]) [0] (by decide) rfl
  have hKc := hK.sub (tys' := []) [] rfl
  have hFc := va_free (wc := [(h0, .inr (12, fs))]) hD hS hA [0] rfl
  refine va_calli (va_runV (As := [.int k]) (rest := []) ⟨hx, hb, hml, hown, hT⟩ (c_Mod_none l dC dI s.heap.size h0 fs hz k) (cwV 1 hT (gV vt_354 vt_355 vt_356 vt_352 vt_357) rfl rfl rfl (by decide +kernel) ⟨Nat.le_of_ble_eq_true rfl, Nat.le_of_ble_eq_true rfl⟩) ⟨Pw_blind, va_recv hK hP (ci := 12) (q0 := 0) rfl rfl, Pw_of hPc hKc hDc⟩ rfl rfl hl.1 rfl (lv_room (Nat.le_of_ble_eq_true rfl)) d_Mod_show_2 ⟨Nat.le_of_ble_eq_true rfl, Nat.le_of_ble_eq_true rfl⟩) hS (fun q _ h => hFc q h) hFc (fun r_2 u t H1 locs ht hvm hw hB hz1 hk1 hS => ?_)
  obtain ⟨fs_1, hP1, hK1, hD1, lfs_1, tfs_1⟩ := hB
  rw [ht] at hP1
  have hK1 := va_K.moved hvm.symm hK1
  obtain ⟨hP, hD⟩ := va_join (wr := []) (w1 := [(h0, .inr (12, fs_1))]) hP hD [0] [] rfl rfl (by decide) (by decide) hk1 hFc hP1 hD1
  generalize H1 = H at hP hS ⊢
  have hP : va_P (dC, dI) classes [(h0, .inr (12, fs_1))] H := hP
  have hD : va_D A [(h0, .inr (12, fs_1))] := hD
  refine W.widen (k := 0) (n := 0) (Nat.le_of_ble_eq_true rfl) (Nat.le_of_ble_eq_true rfl) ?_
  subst hw
  refine lv_if_ne (tgt := 57) hx hb d_Mod_show_5 (by decide) (fun c_3 => ?_) (fun c_3 => absurd c_3 (by decide))
  refine lv_iconst (v := 0) hx hb d_Mod_show_57 (by decide) ?_
  refine W.widen (k := 0) (n := 0) (Nat.le_of_ble_eq_true rfl) (Nat.le_of_ble_eq_true rfl) ?_
  have hP9 := hP.sub (ws' := [(h0, .inr (12, fs_1))]) [0] rfl
  have hD9 := hD.sub (ws' := [(h0, .inr (12, fs_1))]) [0] (by decide) rfl
  have hK9 := hK.sub (tys' := []) [] rfl
  exact W.iret (v := 0) hx hb hr (fun t ht hW => ⟨⟨0, (), rfl, rfl, fs_1, by rw [ht]; exact hP9, va_K.moved hW.alike hK9, hD9, lfs_1, tfs_1⟩, hS.F ht⟩) hS.2.2 d_Mod_show_58
set_option maxHeartbeats 4000000 in
set_option maxRecDepth 100000 in
/-- showRec -/
theorem c_Mod_showRec (l : Launch) (dC : Nat → ClassId) (dI : Nat → Nat → Nat) (sz : Nat) (h0 : Nat) (fs : List Value) (hz : Mz fs) (k w : Int32) : Met l y_Mod_showRec w_Mod_showRec ({ frames := 30, cells := 0, slots := 0, locals := 900 }) (Pw dC dI [.ref h0, .int k, .int w] sz [(h0, .inr (12, fs))] []) (va_Qi (fun (r : Int32) (_ : Unit) => r = 0) (fun _ t => ∃ (fs2 : List Value), va_P (dC, dI) classes [(h0, .inr (12, fs2))] t.heap ∧ va_K (dC, dI) classes [] t ∧ va_D (va_A [(h0, .inr (12, fs))] sz) [(h0, .inr (12, fs2))] ∧ fs2.length = 76 ∧ fs2[4]? = some (.int 1)) (va_A [(h0, .inr (12, fs))] sz)) 0 0 (va_A [(h0, .inr (12, fs))] sz) := by
  refine Met.ofW (cc := b_Mod_showRec) (maxL := 4) (ret := (some .int)) (by decide) rfl ?_
  intro p e s m args below meth c s₁ B hml hv
  obtain ⟨rfl, hsz, hP, hK, hD0⟩ := hv
  have hx := B.exec
  have hb := B.bytes
  have hr := B.returns
  have hT : ∀ w ∈ vT, w.before _ s = true := fun w h => atoms_spec (ws := w_Mod_showRec) B.pre w (List.mem_cons_of_mem _ h)
  have hown : s.vm.findClass R_Mod = some m.cls := findClass_of_methodNamed B.named
  have hlocks := B.notSynchronized
  subst hsz
  have hD := hD0.self (sz := s.heap.size)
  generalize hAe : va_A [(h0, .inr (12, fs))] s.heap.size = A at hD ⊢
  have hA : ∀ q : Nat, s.heap.size ≤ q → A q := fun q h => by rw [← hAe]; exact Or.inr h
  have hS : va_S A s.heap s.heap [] := va_S.rf
  have hP : va_P (dC, dI) classes [(h0, .inr (12, fs))] s.heap := hP
  have hl := lv_entry ([.ref h0, .int k, .int w]) (n := 4) (Nat.le_of_ble_eq_true rfl)
  rw [lg_entry_eq]
  generalize (lg_sl ([.ref h0, .int k, .int w]) ++ List.replicate (4 - (lg_sl ([.ref h0, .int k, .int w])).length) Slot.unset).toArray = ls at hl ⊢
  have hl : lv_has ls 4 [(0, .ref h0), (1, .int k), (2, .int w)] := hl
  refine lv_aload_n hx hb d_Mod_showRec_0 rfl (lv_at hl 0 rfl) ?_
  refine lv_iload_n hx hb d_Mod_showRec_1 rfl (lv_at hl 1 rfl) ?_
  have hPc := hP.sub (ws' := [(h0, .inr (12, fs))]) [0] rfl
  have hDc := hD.sub (ws' := [(h0, .inr (12, fs))]) [0] (by decide) rfl
  have hKc := hK.sub (tys' := []) [] rfl
  have hFc := va_free (wc := [(h0, .inr (12, fs))]) hD hS hA [0] rfl
  refine va_calli (va_runV (As := [.int k]) (rest := []) ⟨hx, hb, hml, hown, hT⟩ (c_Mod_none l dC dI s.heap.size h0 fs hz k) (cwV 1 hT (gV vt_354 vt_355 vt_356 vt_352 vt_357) rfl rfl rfl (by decide +kernel) ⟨Nat.le_of_ble_eq_true rfl, Nat.le_of_ble_eq_true rfl⟩) ⟨Pw_blind, va_recv hK hP (ci := 12) (q0 := 0) rfl rfl, Pw_of hPc hKc hDc⟩ rfl rfl hl.1 rfl (lv_room (Nat.le_of_ble_eq_true rfl)) d_Mod_showRec_2 ⟨Nat.le_of_ble_eq_true rfl, Nat.le_of_ble_eq_true rfl⟩) hS (fun q _ h => hFc q h) hFc (fun r_2 u t H1 locs ht hvm hw hB hz1 hk1 hS => ?_)
  obtain ⟨fs_1, hP1, hK1, hD1, lfs_1, tfs_1⟩ := hB
  rw [ht] at hP1
  have hK1 := va_K.moved hvm.symm hK1
  obtain ⟨hP, hD⟩ := va_join (wr := []) (w1 := [(h0, .inr (12, fs_1))]) hP hD [0] [] rfl rfl (by decide) (by decide) hk1 hFc hP1 hD1
  generalize H1 = H at hP hS ⊢
  have hP : va_P (dC, dI) classes [(h0, .inr (12, fs_1))] H := hP
  have hD : va_D A [(h0, .inr (12, fs_1))] := hD
  refine W.widen (k := 0) (n := 0) (Nat.le_of_ble_eq_true rfl) (Nat.le_of_ble_eq_true rfl) ?_
  subst hw
  refine lv_if_ne (tgt := 67) hx hb d_Mod_showRec_5 (by decide) (fun c_3 => ?_) (fun c_3 => absurd c_3 (by decide))
  refine lv_iconst (v := 0) hx hb d_Mod_showRec_67 (by decide) ?_
  refine W.widen (k := 0) (n := 0) (Nat.le_of_ble_eq_true rfl) (Nat.le_of_ble_eq_true rfl) ?_
  have hP9 := hP.sub (ws' := [(h0, .inr (12, fs_1))]) [0] rfl
  have hD9 := hD.sub (ws' := [(h0, .inr (12, fs_1))]) [0] (by decide) rfl
  have hK9 := hK.sub (tys' := []) [] rfl
  exact W.iret (v := 0) hx hb hr (fun t ht hW => ⟨⟨0, (), rfl, rfl, fs_1, by rw [ht]; exact hP9, va_K.moved hW.alike hK9, hD9, lfs_1, tfs_1⟩, hS.F ht⟩) hS.2.2 d_Mod_showRec_68
set_option maxHeartbeats 4000000 in
set_option maxRecDepth 100000 in
/-- fault -/
theorem c_Mod_fault (l : Launch) (dC : Nat → ClassId) (dI : Nat → Nat → Nat) (sz : Nat) (h0 : Nat) (fs : List Value) (hz : Mz fs) (w : Int32) : Met l y_Mod_fault w_Mod_fault ({ frames := 10, cells := 0, slots := 0, locals := 300 }) (Pw dC dI [.ref h0, .int w] sz [(h0, .inr (12, fs))] []) (va_Qi (fun (r : Int32) (_ : Unit) => r = vfv w) (fun _ t => True) (va_A [(h0, .inr (12, fs))] sz)) 0 0 (va_A [(h0, .inr (12, fs))] sz) := by
  refine Met.ofW (cc := b_Mod_fault) (maxL := 2) (ret := (some .int)) (by decide) rfl ?_
  intro p e s m args below meth c s₁ B hml hv
  obtain ⟨rfl, hsz, hP, hK, hD0⟩ := hv
  have hx := B.exec
  have hb := B.bytes
  have hr := B.returns
  have hT : ∀ w ∈ vT, w.before _ s = true := fun w h => atoms_spec (ws := w_Mod_fault) B.pre w (List.mem_cons_of_mem _ h)
  have hown : s.vm.findClass R_Mod = some m.cls := findClass_of_methodNamed B.named
  have hlocks := B.notSynchronized
  subst hsz
  have hD := hD0.self (sz := s.heap.size)
  generalize hAe : va_A [(h0, .inr (12, fs))] s.heap.size = A at hD ⊢
  have hA : ∀ q : Nat, s.heap.size ≤ q → A q := fun q h => by rw [← hAe]; exact Or.inr h
  have hS : va_S A s.heap s.heap [] := va_S.rf
  have hP : va_P (dC, dI) classes [(h0, .inr (12, fs))] s.heap := hP
  have hl := lv_entry ([.ref h0, .int w]) (n := 2) (Nat.le_of_ble_eq_true rfl)
  rw [lg_entry_eq]
  generalize (lg_sl ([.ref h0, .int w]) ++ List.replicate (2 - (lg_sl ([.ref h0, .int w])).length) Slot.unset).toArray = ls at hl ⊢
  have hl : lv_has ls 2 [(0, .ref h0), (1, .int w)] := hl
  refine lv_aload_n hx hb d_Mod_fault_0 rfl (lv_at hl 0 rfl) ?_
  refine lv_iconst (v := 0) hx hb d_Mod_fault_1 (by decide) ?_
  refine va_put (D := (dC, dI)) (ci := 12) (v := .int 0) (ty := .int) (C := R_Mod) (T := T_Mod) (N := 76) hx hb hT in_Mod ty_Mod tyo_Mod nm_Mod hown hK hP hD hS 0 rfl rfl 4 (by decide) (hT _ vt_175) (fun _ h9 => h9) rfl (by decide +kernel) rfl rfl (by rw [hz.1]; decide) d_Mod_fault_2 (fun H locs hP hD hS => ?_)
  obtain ⟨fs_1, hfs_1⟩ : ∃ z, z = List.set fs 4 (.int 0) := ⟨_, rfl⟩
  have hP : va_P (dC, dI) classes [(h0, .inr (12, fs_1))] H := by rw [hfs_1]; exact hP
  have hD : va_D A [(h0, .inr (12, fs_1))] := by rw [hfs_1]; exact hD
  have lfs_1 : List.length fs_1 = 76 := by rw [hfs_1, List.length_set, hz.1]
  by_cases h0w : w = 0
  · skip
    subst h0w
    refine lv_iload_n hx hb d_Mod_fault_5 rfl (lv_at hl 1 rfl) ?_
    refine lv_if_ne (tgt := 16) hx hb d_Mod_fault_6 (by decide) (fun c_2 => absurd (by decide) c_2) (fun c_2 => ?_)
    refine lv_aload_n hx hb d_Mod_fault_9 rfl (lv_at hl 0 rfl) ?_
    refine va_get (D := (dC, dI)) (ci := 12) (v := .int 0) (C := R_Mod) (T := T_Mod) (N := 76) hx hb hT in_Mod hown hK hP 0 rfl rfl 5 (by decide) (hT _ vt_176) (fun _ h9 => h9) (by rw [hfs_1, List.getElem?_set_ne (by decide)]; exact hz.2 5 (by decide)) d_Mod_fault_10 ?_
    refine lv_goto (tgt := 29) hx hb d_Mod_fault_13 (by decide) ?_
    refine W.widen (k := 0) (n := 0) (Nat.le_of_ble_eq_true rfl) (Nat.le_of_ble_eq_true rfl) ?_
    exact W.iret (v := 0) hx hb hr (fun t ht hW => ⟨⟨0, (), rfl, (by decide), trivial⟩, hS.F ht⟩) hS.2.2 d_Mod_fault_29
  · skip
    refine lv_iload_n hx hb d_Mod_fault_5 rfl (lv_at hl 1 rfl) ?_
    refine lv_if_ne (tgt := 16) hx hb d_Mod_fault_6 (by decide) (fun c_2 => ?_) (fun c_2 => absurd c_2 (h0w))
    by_cases h1w : w = 1
    · skip
      subst h1w
      refine lv_iload_n hx hb d_Mod_fault_16 rfl (lv_at hl 1 rfl) ?_
      refine lv_iconst (v := 1) hx hb d_Mod_fault_17 (by decide) ?_
      refine lv_icmp_ne (tgt := 28) hx hb d_Mod_fault_18 (by decide) (fun c_3 => absurd (by decide) c_3) (fun c_3 => ?_)
      refine lv_aload_n hx hb d_Mod_fault_21 rfl (lv_at hl 0 rfl) ?_
      refine va_get (D := (dC, dI)) (ci := 12) (v := .int 0) (C := R_Mod) (T := T_Mod) (N := 76) hx hb hT in_Mod hown hK hP 0 rfl rfl 6 (by decide) (hT _ vt_177) (fun _ h9 => h9) (by rw [hfs_1, List.getElem?_set_ne (by decide)]; exact hz.2 6 (by decide)) d_Mod_fault_22 ?_
      refine lv_goto (tgt := 29) hx hb d_Mod_fault_25 (by decide) ?_
      refine W.widen (k := 0) (n := 0) (Nat.le_of_ble_eq_true rfl) (Nat.le_of_ble_eq_true rfl) ?_
      exact W.iret (v := 0) hx hb hr (fun t ht hW => ⟨⟨0, (), rfl, (by decide), trivial⟩, hS.F ht⟩) hS.2.2 d_Mod_fault_29
    · skip
      refine lv_iload_n hx hb d_Mod_fault_16 rfl (lv_at hl 1 rfl) ?_
      refine lv_iconst (v := 1) hx hb d_Mod_fault_17 (by decide) ?_
      refine lv_icmp_ne (tgt := 28) hx hb d_Mod_fault_18 (by decide) (fun c_3 => ?_) (fun c_3 => absurd c_3 (h1w))
      refine lv_iconst (v := (-1)) hx hb d_Mod_fault_28 (by decide) ?_
      refine W.widen (k := 0) (n := 0) (Nat.le_of_ble_eq_true rfl) (Nat.le_of_ble_eq_true rfl) ?_
      exact W.iret (v := (-1)) hx hb hr (fun t ht hW => ⟨⟨(-1), (), rfl, (if_neg (fun h => h.elim h0w h1w)).symm, trivial⟩, hS.F ht⟩) hS.2.2 d_Mod_fault_29
set_option maxHeartbeats 4000000 in
set_option maxRecDepth 100000 in
/-- count -/
theorem c_Mod_count (l : Launch) (dC : Nat → ClassId) (dI : Nat → Nat → Nat) (sz : Nat) (h0 : Nat) (fs : List Value) (hz : Mz fs) (w : Int32) : Met l y_Mod_count w_Mod_count ({ frames := 10, cells := 0, slots := 0, locals := 300 }) (Pw dC dI [.ref h0, .int w] sz [(h0, .inr (12, fs))] []) (va_Qi (fun (r : Int32) (_ : Unit) => r = vcv w) (fun _ t => True) (va_A [(h0, .inr (12, fs))] sz)) 0 0 (va_A [(h0, .inr (12, fs))] sz) := by
  refine Met.ofW (cc := b_Mod_count) (maxL := 2) (ret := (some .int)) (by decide) rfl ?_
  intro p e s m args below meth c s₁ B hml hv
  obtain ⟨rfl, hsz, hP, hK, hD0⟩ := hv
  have hx := B.exec
  have hb := B.bytes
  have hr := B.returns
  have hT : ∀ w ∈ vT, w.before _ s = true := fun w h => atoms_spec (ws := w_Mod_count) B.pre w (List.mem_cons_of_mem _ h)
  have hown : s.vm.findClass R_Mod = some m.cls := findClass_of_methodNamed B.named
  have hlocks := B.notSynchronized
  subst hsz
  have hD := hD0.self (sz := s.heap.size)
  generalize hAe : va_A [(h0, .inr (12, fs))] s.heap.size = A at hD ⊢
  have hA : ∀ q : Nat, s.heap.size ≤ q → A q := fun q h => by rw [← hAe]; exact Or.inr h
  have hS : va_S A s.heap s.heap [] := va_S.rf
  have hP : va_P (dC, dI) classes [(h0, .inr (12, fs))] s.heap := hP
  have hl := lv_entry ([.ref h0, .int w]) (n := 2) (Nat.le_of_ble_eq_true rfl)
  rw [lg_entry_eq]
  generalize (lg_sl ([.ref h0, .int w]) ++ List.replicate (2 - (lg_sl ([.ref h0, .int w])).length) Slot.unset).toArray = ls at hl ⊢
  have hl : lv_has ls 2 [(0, .ref h0), (1, .int w)] := hl
  refine lv_aload_n hx hb d_Mod_count_0 rfl (lv_at hl 0 rfl) ?_
  refine lv_iconst (v := 0) hx hb d_Mod_count_1 (by decide) ?_
  refine va_put (D := (dC, dI)) (ci := 12) (v := .int 0) (ty := .int) (C := R_Mod) (T := T_Mod) (N := 76) hx hb hT in_Mod ty_Mod tyo_Mod nm_Mod hown hK hP hD hS 0 rfl rfl 4 (by decide) (hT _ vt_175) (fun _ h9 => h9) rfl (by decide +kernel) rfl rfl (by rw [hz.1]; decide) d_Mod_count_2 (fun H locs hP hD hS => ?_)
  obtain ⟨fs_1, hfs_1⟩ : ∃ z, z = List.set fs 4 (.int 0) := ⟨_, rfl⟩
  have hP : va_P (dC, dI) classes [(h0, .inr (12, fs_1))] H := by rw [hfs_1]; exact hP
  have hD : va_D A [(h0, .inr (12, fs_1))] := by rw [hfs_1]; exact hD
  have lfs_1 : List.length fs_1 = 76 := by rw [hfs_1, List.length_set, hz.1]
  by_cases hsw : w.toInt < 0 ∨ 5 < w.toInt
  · skip
    refine lv_iload_n hx hb d_Mod_count_5 rfl (lv_at hl 1 rfl) ?_
    refine lv_tableOut (tgt := 74) hx hb d_Mod_count_6 hsw (by decide) ?_
    refine lv_iconst (v := (-1)) hx hb d_Mod_count_74 (by decide) ?_
    refine W.widen (k := 0) (n := 0) (Nat.le_of_ble_eq_true rfl) (Nat.le_of_ble_eq_true rfl) ?_
    exact W.iret (v := (-1)) hx hb hr (fun t ht hW => ⟨⟨(-1), (), rfl, (vcv_out hsw).symm, trivial⟩, hS.F ht⟩) hS.2.2 d_Mod_count_75
  · skip
    obtain ⟨hcv, hcs⟩ := vcv_in hsw
    clear hsw
    rcases hcs with rfl | rfl | rfl | rfl | rfl | rfl
    · skip
      refine lv_iload_n hx hb d_Mod_count_5 rfl (lv_at hl 1 rfl) ?_
      refine lv_tableIn (tgt := 44) (off := 38) hx hb d_Mod_count_6 (by decide) (by decide) rfl (by decide) ?_
      refine lv_aload_n hx hb d_Mod_count_44 rfl (lv_at hl 0 rfl) ?_
      refine va_get (D := (dC, dI)) (ci := 12) (v := .int 0) (C := R_Mod) (T := T_Mod) (N := 76) hx hb hT in_Mod hown hK hP 0 rfl rfl 28 (by decide) (hT _ vt_200) (fun _ h9 => h9) (by rw [hfs_1, List.getElem?_set_ne (by decide)]; exact hz.2 28 (by decide)) d_Mod_count_45 ?_
      refine W.widen (k := 0) (n := 0) (Nat.le_of_ble_eq_true rfl) (Nat.le_of_ble_eq_true rfl) ?_
      exact W.iret (v := 0) hx hb hr (fun t ht hW => ⟨⟨0, (), rfl, hcv.symm, trivial⟩, hS.F ht⟩) hS.2.2 d_Mod_count_48
    · skip
      refine lv_iload_n hx hb d_Mod_count_5 rfl (lv_at hl 1 rfl) ?_
      refine lv_tableIn (tgt := 49) (off := 43) hx hb d_Mod_count_6 (by decide) (by decide) rfl (by decide) ?_
      refine lv_aload_n hx hb d_Mod_count_49 rfl (lv_at hl 0 rfl) ?_
      refine va_get (D := (dC, dI)) (ci := 12) (v := .int 0) (C := R_Mod) (T := T_Mod) (N := 76) hx hb hT in_Mod hown hK hP 0 rfl rfl 59 (by decide) (hT _ vt_233) (fun _ h9 => h9) (by rw [hfs_1, List.getElem?_set_ne (by decide)]; exact hz.2 59 (by decide)) d_Mod_count_50 ?_
      refine W.widen (k := 0) (n := 0) (Nat.le_of_ble_eq_true rfl) (Nat.le_of_ble_eq_true rfl) ?_
      exact W.iret (v := 0) hx hb hr (fun t ht hW => ⟨⟨0, (), rfl, hcv.symm, trivial⟩, hS.F ht⟩) hS.2.2 d_Mod_count_53
    · skip
      refine lv_iload_n hx hb d_Mod_count_5 rfl (lv_at hl 1 rfl) ?_
      refine lv_tableIn (tgt := 54) (off := 48) hx hb d_Mod_count_6 (by decide) (by decide) rfl (by decide) ?_
      refine lv_aload_n hx hb d_Mod_count_54 rfl (lv_at hl 0 rfl) ?_
      refine va_get (D := (dC, dI)) (ci := 12) (v := .int 0) (C := R_Mod) (T := T_Mod) (N := 76) hx hb hT in_Mod hown hK hP 0 rfl rfl 60 (by decide) (hT _ vt_234) (fun _ h9 => h9) (by rw [hfs_1, List.getElem?_set_ne (by decide)]; exact hz.2 60 (by decide)) d_Mod_count_55 ?_
      refine W.widen (k := 0) (n := 0) (Nat.le_of_ble_eq_true rfl) (Nat.le_of_ble_eq_true rfl) ?_
      exact W.iret (v := 0) hx hb hr (fun t ht hW => ⟨⟨0, (), rfl, hcv.symm, trivial⟩, hS.F ht⟩) hS.2.2 d_Mod_count_58
    · skip
      refine lv_iload_n hx hb d_Mod_count_5 rfl (lv_at hl 1 rfl) ?_
      refine lv_tableIn (tgt := 59) (off := 53) hx hb d_Mod_count_6 (by decide) (by decide) rfl (by decide) ?_
      refine lv_aload_n hx hb d_Mod_count_59 rfl (lv_at hl 0 rfl) ?_
      refine va_get (D := (dC, dI)) (ci := 12) (v := .int 0) (C := R_Mod) (T := T_Mod) (N := 76) hx hb hT in_Mod hown hK hP 0 rfl rfl 43 (by decide) (hT _ vt_216) (fun _ h9 => h9) (by rw [hfs_1, List.getElem?_set_ne (by decide)]; exact hz.2 43 (by decide)) d_Mod_count_60 ?_
      refine W.widen (k := 0) (n := 0) (Nat.le_of_ble_eq_true rfl) (Nat.le_of_ble_eq_true rfl) ?_
      exact W.iret (v := 0) hx hb hr (fun t ht hW => ⟨⟨0, (), rfl, hcv.symm, trivial⟩, hS.F ht⟩) hS.2.2 d_Mod_count_63
    · skip
      refine lv_iload_n hx hb d_Mod_count_5 rfl (lv_at hl 1 rfl) ?_
      refine lv_tableIn (tgt := 64) (off := 58) hx hb d_Mod_count_6 (by decide) (by decide) rfl (by decide) ?_
      refine lv_aload_n hx hb d_Mod_count_64 rfl (lv_at hl 0 rfl) ?_
      refine va_get (D := (dC, dI)) (ci := 12) (v := .int 0) (C := R_Mod) (T := T_Mod) (N := 76) hx hb hT in_Mod hown hK hP 0 rfl rfl 2 (by decide) (hT _ vt_173) (fun _ h9 => h9) (by rw [hfs_1, List.getElem?_set_ne (by decide)]; exact hz.2 2 (by decide)) d_Mod_count_65 ?_
      refine W.widen (k := 0) (n := 0) (Nat.le_of_ble_eq_true rfl) (Nat.le_of_ble_eq_true rfl) ?_
      exact W.iret (v := 0) hx hb hr (fun t ht hW => ⟨⟨0, (), rfl, hcv.symm, trivial⟩, hS.F ht⟩) hS.2.2 d_Mod_count_68
    · skip
      refine lv_iload_n hx hb d_Mod_count_5 rfl (lv_at hl 1 rfl) ?_
      refine lv_tableIn (tgt := 69) (off := 63) hx hb d_Mod_count_6 (by decide) (by decide) rfl (by decide) ?_
      refine lv_aload_n hx hb d_Mod_count_69 rfl (lv_at hl 0 rfl) ?_
      refine va_get (D := (dC, dI)) (ci := 12) (v := .int 0) (C := R_Mod) (T := T_Mod) (N := 76) hx hb hT in_Mod hown hK hP 0 rfl rfl 3 (by decide) (hT _ vt_174) (fun _ h9 => h9) (by rw [hfs_1, List.getElem?_set_ne (by decide)]; exact hz.2 3 (by decide)) d_Mod_count_70 ?_
      refine W.widen (k := 0) (n := 0) (Nat.le_of_ble_eq_true rfl) (Nat.le_of_ble_eq_true rfl) ?_
      exact W.iret (v := 0) hx hb hr (fun t ht hW => ⟨⟨0, (), rfl, hcv.symm, trivial⟩, hS.F ht⟩) hS.2.2 d_Mod_count_73
set_option maxHeartbeats 4000000 in
set_option maxRecDepth 100000 in
/-- reset -/
theorem c_Mod_reset (l : Launch) (dC : Nat → ClassId) (dI : Nat → Nat → Nat) (sz : Nat) (h0 : Nat) (fs : List Value) (hz : Mz fs) : Met l y_Mod_reset w_Mod_reset ({ frames := 10, cells := 0, slots := 0, locals := 300 }) (Pw dC dI [.ref h0] sz [(h0, .inr (12, fs))] []) (va_Qi (fun (r : Int32) (_ : Unit) => r = 0) (fun _ t => True) (va_A [(h0, .inr (12, fs))] sz)) 0 0 (va_A [(h0, .inr (12, fs))] sz) := by
  refine Met.ofW (cc := b_Mod_reset) (maxL := 2) (ret := (some .int)) (by decide) rfl ?_
  intro p e s m args below meth c s₁ B hml hv
  obtain ⟨rfl, hsz, hP, hK, hD0⟩ := hv
  have hx := B.exec
  have hb := B.bytes
  have hr := B.returns
  have hT : ∀ w ∈ vT, w.before _ s = true := fun w h => atoms_spec (ws := w_Mod_reset) B.pre w (List.mem_cons_of_mem _ h)
  have hown : s.vm.findClass R_Mod = some m.cls := findClass_of_methodNamed B.named
  have hlocks := B.notSynchronized
  subst hsz
  have hD := hD0.self (sz := s.heap.size)
  generalize hAe : va_A [(h0, .inr (12, fs))] s.heap.size = A at hD ⊢
  have hA : ∀ q : Nat, s.heap.size ≤ q → A q := fun q h => by rw [← hAe]; exact Or.inr h
  have hS : va_S A s.heap s.heap [] := va_S.rf
  have hP : va_P (dC, dI) classes [(h0, .inr (12, fs))] s.heap := hP
  have hl := lv_entry ([.ref h0]) (n := 2) (Nat.le_of_ble_eq_true rfl)
  rw [lg_entry_eq]
  generalize (lg_sl ([.ref h0]) ++ List.replicate (2 - (lg_sl ([.ref h0])).length) Slot.unset).toArray = ls at hl ⊢
  have hl : lv_has ls 2 [(0, .ref h0)] := hl
  refine lv_aload_n hx hb d_Mod_reset_0 rfl (lv_at hl 0 rfl) ?_
  refine lv_iconst (v := 0) hx hb d_Mod_reset_1 (by decide) ?_
  refine va_put (D := (dC, dI)) (ci := 12) (v := .int 0) (ty := .int) (C := R_Mod) (T := T_Mod) (N := 76) hx hb hT in_Mod ty_Mod tyo_Mod nm_Mod hown hK hP hD hS 0 rfl rfl 4 (by decide) (hT _ vt_175) (fun _ h9 => h9) rfl (by decide +kernel) rfl rfl (by rw [hz.1]; decide) d_Mod_reset_2 (fun H locs hP hD hS => ?_)
  obtain ⟨fs_1, hfs_1⟩ : ∃ z, z = List.set fs 4 (.int 0) := ⟨_, rfl⟩
  have hP : va_P (dC, dI) classes [(h0, .inr (12, fs_1))] H := by rw [hfs_1]; exact hP
  have hD : va_D A [(h0, .inr (12, fs_1))] := by rw [hfs_1]; exact hD
  have lfs_1 : List.length fs_1 = 76 := by rw [hfs_1, List.length_set, hz.1]
  refine lv_aload_n hx hb d_Mod_reset_5 rfl (lv_at hl 0 rfl) ?_
  refine va_get (D := (dC, dI)) (ci := 12) (v := .int 0) (C := R_Mod) (T := T_Mod) (N := 76) hx hb hT in_Mod hown hK hP 0 rfl rfl 28 (by decide) (hT _ vt_200) (fun _ h9 => h9) (by rw [hfs_1, List.getElem?_set_ne (by decide)]; exact hz.2 28 (by decide)) d_Mod_reset_6 ?_
  refine lv_istore_n (lv' := [(1, .int 0), (0, .ref h0)]) hx hb d_Mod_reset_9 rfl hl (by decide) rfl (fun ls hl => ?_)
  refine lv_aload_n hx hb d_Mod_reset_10 rfl (lv_at hl 1 rfl) ?_
  refine lv_iconst (v := 0) hx hb d_Mod_reset_11 (by decide) ?_
  refine va_put (D := (dC, dI)) (ci := 12) (v := .int 0) (ty := .int) (C := R_Mod) (T := T_Mod) (N := 76) hx hb hT in_Mod ty_Mod tyo_Mod nm_Mod hown hK hP hD hS 0 rfl rfl 59 (by decide) (hT _ vt_233) (fun _ h9 => h9) rfl (by decide +kernel) rfl rfl (by rw [lfs_1]; decide) d_Mod_reset_12 (fun H locs hP hD hS => ?_)
  obtain ⟨fs_2, hfs_2⟩ : ∃ z, z = List.set fs_1 59 (.int 0) := ⟨_, rfl⟩
  have hP : va_P (dC, dI) classes [(h0, .inr (12, fs_2))] H := by rw [hfs_2]; exact hP
  have hD : va_D A [(h0, .inr (12, fs_2))] := by rw [hfs_2]; exact hD
  have lfs_2 : List.length fs_2 = 76 := by rw [hfs_2, List.length_set, hfs_1, List.length_set, hz.1]
  refine lv_aload_n hx hb d_Mod_reset_15 rfl (lv_at hl 1 rfl) ?_
  refine lv_iconst (v := 0) hx hb d_Mod_reset_16 (by decide) ?_
  refine va_put (D := (dC, dI)) (ci := 12) (v := .int 0) (ty := .int) (C := R_Mod) (T := T_Mod) (N := 76) hx hb hT in_Mod ty_Mod tyo_Mod nm_Mod hown hK hP hD hS 0 rfl rfl 28 (by decide) (hT _ vt_200) (fun _ h9 => h9) rfl (by decide +kernel) rfl rfl (by rw [lfs_2]; decide) d_Mod_reset_17 (fun H locs hP hD hS => ?_)
  obtain ⟨fs_3, hfs_3⟩ : ∃ z, z = List.set fs_2 28 (.int 0) := ⟨_, rfl⟩
  have hP : va_P (dC, dI) classes [(h0, .inr (12, fs_3))] H := by rw [hfs_3]; exact hP
  have hD : va_D A [(h0, .inr (12, fs_3))] := by rw [hfs_3]; exact hD
  have lfs_3 : List.length fs_3 = 76 := by rw [hfs_3, List.length_set, hfs_2, List.length_set, hfs_1, List.length_set, hz.1]
  refine lv_aload_n hx hb d_Mod_reset_20 rfl (lv_at hl 1 rfl) ?_
  refine lv_iconst (v := 0) hx hb d_Mod_reset_21 (by decide) ?_
  refine va_put (D := (dC, dI)) (ci := 12) (v := .int 0) (ty := .int) (C := R_Mod) (T := T_Mod) (N := 76) hx hb hT in_Mod ty_Mod tyo_Mod nm_Mod hown hK hP hD hS 0 rfl rfl 42 (by decide) (hT _ vt_215) (fun _ h9 => h9) rfl (by decide +kernel) rfl rfl (by rw [lfs_3]; decide) d_Mod_reset_22 (fun H locs hP hD hS => ?_)
  obtain ⟨fs_4, hfs_4⟩ : ∃ z, z = List.set fs_3 42 (.int 0) := ⟨_, rfl⟩
  have hP : va_P (dC, dI) classes [(h0, .inr (12, fs_4))] H := by rw [hfs_4]; exact hP
  have hD : va_D A [(h0, .inr (12, fs_4))] := by rw [hfs_4]; exact hD
  have lfs_4 : List.length fs_4 = 76 := by rw [hfs_4, List.length_set, hfs_3, List.length_set, hfs_2, List.length_set, hfs_1, List.length_set, hz.1]
  refine lv_aload_n hx hb d_Mod_reset_25 rfl (lv_at hl 1 rfl) ?_
  refine lv_iconst (v := 0) hx hb d_Mod_reset_26 (by decide) ?_
  refine va_put (D := (dC, dI)) (ci := 12) (v := .int 0) (ty := .int) (C := R_Mod) (T := T_Mod) (N := 76) hx hb hT in_Mod ty_Mod tyo_Mod nm_Mod hown hK hP hD hS 0 rfl rfl 43 (by decide) (hT _ vt_216) (fun _ h9 => h9) rfl (by decide +kernel) rfl rfl (by rw [lfs_4]; decide) d_Mod_reset_27 (fun H locs hP hD hS => ?_)
  obtain ⟨fs_5, hfs_5⟩ : ∃ z, z = List.set fs_4 43 (.int 0) := ⟨_, rfl⟩
  have hP : va_P (dC, dI) classes [(h0, .inr (12, fs_5))] H := by rw [hfs_5]; exact hP
  have hD : va_D A [(h0, .inr (12, fs_5))] := by rw [hfs_5]; exact hD
  have lfs_5 : List.length fs_5 = 76 := by rw [hfs_5, List.length_set, hfs_4, List.length_set, hfs_3, List.length_set, hfs_2, List.length_set, hfs_1, List.length_set, hz.1]
  refine lv_aload_n hx hb d_Mod_reset_30 rfl (lv_at hl 1 rfl) ?_
  refine lv_iconst (v := 0) hx hb d_Mod_reset_31 (by decide) ?_
  refine va_put (D := (dC, dI)) (ci := 12) (v := .int 0) (ty := .int) (C := R_Mod) (T := T_Mod) (N := 76) hx hb hT in_Mod ty_Mod tyo_Mod nm_Mod hown hK hP hD hS 0 rfl rfl 27 (by decide) (hT _ vt_199) (fun _ h9 => h9) rfl (by decide +kernel) rfl rfl (by rw [lfs_5]; decide) d_Mod_reset_32 (fun H locs hP hD hS => ?_)
  obtain ⟨fs_6, hfs_6⟩ : ∃ z, z = List.set fs_5 27 (.int 0) := ⟨_, rfl⟩
  have hP : va_P (dC, dI) classes [(h0, .inr (12, fs_6))] H := by rw [hfs_6]; exact hP
  have hD : va_D A [(h0, .inr (12, fs_6))] := by rw [hfs_6]; exact hD
  have lfs_6 : List.length fs_6 = 76 := by rw [hfs_6, List.length_set, hfs_5, List.length_set, hfs_4, List.length_set, hfs_3, List.length_set, hfs_2, List.length_set, hfs_1, List.length_set, hz.1]
  refine lv_iload_n hx hb d_Mod_reset_35 rfl (lv_at hl 0 rfl) ?_
  refine W.widen (k := 0) (n := 0) (Nat.le_of_ble_eq_true rfl) (Nat.le_of_ble_eq_true rfl) ?_
  exact W.iret (v := 0) hx hb hr (fun t ht hW => ⟨⟨0, (), rfl, rfl, trivial⟩, hS.F ht⟩) hS.2.2 d_Mod_reset_36
set_option maxHeartbeats 4000000 in
set_option maxRecDepth 100000 in
/-- parts, no text -/
theorem c_Mod_parts (l : Launch) (dC : Nat → ClassId) (dI : Nat → Nat → Nat) (h0 : Nat) (fs : List Value) (hp : fs[7]? = some (.int 0)) (hs : fs[2]? = some (.int 0)) : Met l y_Mod_parts w_Mod_parts ({ frames := 10, cells := 0, slots := 0, locals := 300 }) (Pp dC dI [.ref h0] [(h0, .inr (12, fs))] []) (vx_QU) 0 0 (fun _ => False) := by
  refine Met.ofW (cc := b_Mod_parts) (maxL := 2) (ret := none) (by decide) rfl ?_
  intro p e s m args below meth c s₁ B hml hv
  obtain ⟨rfl, hP, hK⟩ := hv
  have hx := B.exec
  have hb := B.bytes
  have hr := B.returns
  have hT : ∀ w ∈ vT, w.before _ s = true := fun w h => atoms_spec (ws := w_Mod_parts) B.pre w (List.mem_cons_of_mem _ h)
  have hown : s.vm.findClass R_Mod = some m.cls := findClass_of_methodNamed B.named
  have hlocks := B.notSynchronized
  have hP : va_P (dC, dI) classes [(h0, .inr (12, fs))] s.heap := hP
  have hl := lv_entry ([.ref h0]) (n := 2) (Nat.le_of_ble_eq_true rfl)
  rw [lg_entry_eq]
  generalize (lg_sl ([.ref h0]) ++ List.replicate (2 - (lg_sl ([.ref h0])).length) Slot.unset).toArray = ls at hl ⊢
  have hl : lv_has ls 2 [(0, .ref h0)] := hl
  refine lv_aload_n hx hb d_Mod_parts_0 rfl (lv_at hl 0 rfl) ?_
  refine va_get (D := (dC, dI)) (ci := 12) (v := .int 0) (C := R_Mod) (T := T_Mod) (N := 76) hx hb hT in_Mod hown hK hP 0 rfl rfl 7 (by decide) (hT _ vt_178) (fun _ h9 => h9) hp d_Mod_parts_1 ?_
  refine lv_aload_n hx hb d_Mod_parts_4 rfl (lv_at hl 0 rfl) ?_
  refine va_get (D := (dC, dI)) (ci := 12) (v := .int 0) (C := R_Mod) (T := T_Mod) (N := 76) hx hb hT in_Mod hown hK hP 0 rfl rfl 2 (by decide) (hT _ vt_173) (fun _ h9 => h9) hs d_Mod_parts_5 ?_
  refine lv_icmp_ge (tgt := 106) hx hb d_Mod_parts_8 (by decide) (fun c_1 => ?_) (fun c_1 => absurd (by decide) c_1)
  exact W.vret hx hb hr (fun t ht hW => ⟨rfl, ht⟩) (fun _ h => nomatch h) d_Mod_parts_106
set_option maxHeartbeats 4000000 in
set_option maxRecDepth 100000 in
/-- peek, no text -/
theorem c_Mod_peek (l : Launch) (dC : Nat → ClassId) (dI : Nat → Nat → Nat) (sz : Nat) (h0 : Nat) (fs : List Value) (hl0 : fs.length = 76) (hp : fs[7]? = some (.int 0)) (hs : fs[2]? = some (.int 0)) (hse : fs[11]? = some (.int 0)) : Met l y_Mod_peek w_Mod_peek ({ frames := 20, cells := 0, slots := 0, locals := 600 }) (Pw dC dI [.ref h0] sz [(h0, .inr (12, fs))] []) (va_Qi (fun (r : Int32) (_ : Unit) => r = 0) (fun _ t => ∃ (fs2 : List Value), va_P (dC, dI) classes [(h0, .inr (12, fs2))] t.heap ∧ va_K (dC, dI) classes [] t ∧ va_D (va_A [(h0, .inr (12, fs))] sz) [(h0, .inr (12, fs2))] ∧ fs2.length = 76) (va_A [(h0, .inr (12, fs))] sz)) 0 0 (va_A [(h0, .inr (12, fs))] sz) := by
  refine Met.ofW (cc := b_Mod_peek) (maxL := 2) (ret := (some .int)) (by decide) rfl ?_
  intro p e s m args below meth c s₁ B hml hv
  obtain ⟨rfl, hsz, hP, hK, hD0⟩ := hv
  have hx := B.exec
  have hb := B.bytes
  have hr := B.returns
  have hT : ∀ w ∈ vT, w.before _ s = true := fun w h => atoms_spec (ws := w_Mod_peek) B.pre w (List.mem_cons_of_mem _ h)
  have hown : s.vm.findClass R_Mod = some m.cls := findClass_of_methodNamed B.named
  have hlocks := B.notSynchronized
  subst hsz
  have hD := hD0.self (sz := s.heap.size)
  generalize hAe : va_A [(h0, .inr (12, fs))] s.heap.size = A at hD ⊢
  have hA : ∀ q : Nat, s.heap.size ≤ q → A q := fun q h => by rw [← hAe]; exact Or.inr h
  have hS : va_S A s.heap s.heap [] := va_S.rf
  have hP : va_P (dC, dI) classes [(h0, .inr (12, fs))] s.heap := hP
  have hl := lv_entry ([.ref h0]) (n := 2) (Nat.le_of_ble_eq_true rfl)
  rw [lg_entry_eq]
  generalize (lg_sl ([.ref h0]) ++ List.replicate (2 - (lg_sl ([.ref h0])).length) Slot.unset).toArray = ls at hl ⊢
  have hl : lv_has ls 2 [(0, .ref h0)] := hl
  refine lv_aload_n hx hb d_Mod_peek_0 rfl (lv_at hl 0 rfl) ?_
  refine va_get (D := (dC, dI)) (ci := 12) (v := .int 0) (C := R_Mod) (T := T_Mod) (N := 76) hx hb hT in_Mod hown hK hP 0 rfl rfl 11 (by decide) (hT _ vt_182) (fun _ h9 => h9) hse d_Mod_peek_1 ?_
  refine lv_if_eq (tgt := 12) hx hb d_Mod_peek_4 (by decide) (fun c_1 => ?_) (fun c_1 => absurd (rfl) c_1)
  refine lv_aload_n hx hb d_Mod_peek_12 rfl (lv_at hl 0 rfl) ?_
  refine vx_callU (W.runV (As := []) (rest := []) ⟨hx, hb, hml, hown, hT⟩ (c_Mod_parts l dC dI h0 fs hp hs) (cwV 0 hT (gV vt_358 vt_359 vt_360 vt_352 vt_361) rfl rfl rfl (by decide +kernel) ⟨Nat.le_of_ble_eq_true rfl, Nat.le_of_ble_eq_true rfl⟩) ⟨Pp_blind, va_recv hK hP (ci := 12) (q0 := 0) rfl rfl, Pp_of (hP.sub (ws' := [(h0, .inr (12, fs))]) [0] rfl) (hK.sub (tys' := []) [] rfl)⟩ rfl rfl hl.1 rfl (lv_room (Nat.le_of_ble_eq_true rfl)) d_Mod_peek_13 ⟨Nat.le_of_ble_eq_true rfl, Nat.le_of_ble_eq_true rfl⟩) ?_
  refine W.eq (g2 := F0 m 16 ls []) rfl ?_
  refine lv_aload_n hx hb d_Mod_peek_16 rfl (lv_at hl 0 rfl) ?_
  refine lv_iconst (v := 1) hx hb d_Mod_peek_17 (by decide) ?_
  refine va_put (D := (dC, dI)) (ci := 12) (v := .int 1) (ty := .boolean) (C := R_Mod) (T := T_Mod) (N := 76) hx hb hT in_Mod ty_Mod tyo_Mod nm_Mod hown hK hP hD hS 0 rfl rfl 11 (by decide) (hT _ vt_182) (fun _ h9 => h9) rfl (by decide +kernel) rfl rfl (by rw [hl0]; decide) d_Mod_peek_18 (fun H locs hP hD hS => ?_)
  obtain ⟨fs_2, hfs_2⟩ : ∃ z, z = List.set fs 11 (.int 1) := ⟨_, rfl⟩
  have hP : va_P (dC, dI) classes [(h0, .inr (12, fs_2))] H := by rw [hfs_2]; exact hP
  have hD : va_D A [(h0, .inr (12, fs_2))] := by rw [hfs_2]; exact hD
  have lfs_2 : List.length fs_2 = 76 := by rw [hfs_2, List.length_set, hl0]
  refine lv_aload_n hx hb d_Mod_peek_21 rfl (lv_at hl 0 rfl) ?_
  refine lv_aload_n hx hb d_Mod_peek_22 rfl (lv_at hl 0 rfl) ?_
  refine va_get (D := (dC, dI)) (ci := 12) (v := .int 0) (C := R_Mod) (T := T_Mod) (N := 76) hx hb hT in_Mod hown hK hP 0 rfl rfl 7 (by decide) (hT _ vt_178) (fun _ h9 => h9) (by rw [hfs_2, List.getElem?_set_ne (by decide)]; exact hp) d_Mod_peek_23 ?_
  refine va_put (D := (dC, dI)) (ci := 12) (v := .int 0) (ty := .int) (C := R_Mod) (T := T_Mod) (N := 76) hx hb hT in_Mod ty_Mod tyo_Mod nm_Mod hown hK hP hD hS 0 rfl rfl 9 (by decide) (hT _ vt_180) (fun _ h9 => h9) rfl (by decide +kernel) rfl rfl (by rw [lfs_2]; decide) d_Mod_peek_26 (fun H locs hP hD hS => ?_)
  obtain ⟨fs_3, hfs_3⟩ : ∃ z, z = List.set fs_2 9 (.int 0) := ⟨_, rfl⟩
  have hP : va_P (dC, dI) classes [(h0, .inr (12, fs_3))] H := by rw [hfs_3]; exact hP
  have hD : va_D A [(h0, .inr (12, fs_3))] := by rw [hfs_3]; exact hD
  have lfs_3 : List.length fs_3 = 76 := by rw [hfs_3, List.length_set, hfs_2, List.length_set, hl0]
  refine lv_aload_n hx hb d_Mod_peek_29 rfl (lv_at hl 0 rfl) ?_
  refine lv_aload_n hx hb d_Mod_peek_30 rfl (lv_at hl 0 rfl) ?_
  refine va_get (D := (dC, dI)) (ci := 12) (v := .int 0) (C := R_Mod) (T := T_Mod) (N := 76) hx hb hT in_Mod hown hK hP 0 rfl rfl 7 (by decide) (hT _ vt_178) (fun _ h9 => h9) (by rw [hfs_3, List.getElem?_set_ne (by decide), hfs_2, List.getElem?_set_ne (by decide)]; exact hp) d_Mod_peek_31 ?_
  refine va_put (D := (dC, dI)) (ci := 12) (v := .int 0) (ty := .int) (C := R_Mod) (T := T_Mod) (N := 76) hx hb hT in_Mod ty_Mod tyo_Mod nm_Mod hown hK hP hD hS 0 rfl rfl 10 (by decide) (hT _ vt_181) (fun _ h9 => h9) rfl (by decide +kernel) rfl rfl (by rw [lfs_3]; decide) d_Mod_peek_34 (fun H locs hP hD hS => ?_)
  obtain ⟨fs_4, hfs_4⟩ : ∃ z, z = List.set fs_3 10 (.int 0) := ⟨_, rfl⟩
  have hP : va_P (dC, dI) classes [(h0, .inr (12, fs_4))] H := by rw [hfs_4]; exact hP
  have hD : va_D A [(h0, .inr (12, fs_4))] := by rw [hfs_4]; exact hD
  have lfs_4 : List.length fs_4 = 76 := by rw [hfs_4, List.length_set, hfs_3, List.length_set, hfs_2, List.length_set, hl0]
  refine lv_aload_n hx hb d_Mod_peek_37 rfl (lv_at hl 0 rfl) ?_
  refine lv_iconst (v := 0) hx hb d_Mod_peek_38 (by decide) ?_
  refine va_put (D := (dC, dI)) (ci := 12) (v := .int 0) (ty := .int) (C := R_Mod) (T := T_Mod) (N := 76) hx hb hT in_Mod ty_Mod tyo_Mod nm_Mod hown hK hP hD hS 0 rfl rfl 8 (by decide) (hT _ vt_179) (fun _ h9 => h9) rfl (by decide +kernel) rfl rfl (by rw [lfs_4]; decide) d_Mod_peek_39 (fun H locs hP hD hS => ?_)
  obtain ⟨fs_5, hfs_5⟩ : ∃ z, z = List.set fs_4 8 (.int 0) := ⟨_, rfl⟩
  have hP : va_P (dC, dI) classes [(h0, .inr (12, fs_5))] H := by rw [hfs_5]; exact hP
  have hD : va_D A [(h0, .inr (12, fs_5))] := by rw [hfs_5]; exact hD
  have lfs_5 : List.length fs_5 = 76 := by rw [hfs_5, List.length_set, hfs_4, List.length_set, hfs_3, List.length_set, hfs_2, List.length_set, hl0]
  refine lv_aload_n hx hb d_Mod_peek_42 rfl (lv_at hl 0 rfl) ?_
  refine va_get (D := (dC, dI)) (ci := 12) (v := .int 0) (C := R_Mod) (T := T_Mod) (N := 76) hx hb hT in_Mod hown hK hP 0 rfl rfl 7 (by decide) (hT _ vt_178) (fun _ h9 => h9) (by rw [hfs_5, List.getElem?_set_ne (by decide), hfs_4, List.getElem?_set_ne (by decide), hfs_3, List.getElem?_set_ne (by decide), hfs_2, List.getElem?_set_ne (by decide)]; exact hp) d_Mod_peek_43 ?_
  refine lv_aload_n hx hb d_Mod_peek_46 rfl (lv_at hl 0 rfl) ?_
  refine va_get (D := (dC, dI)) (ci := 12) (v := .int 0) (C := R_Mod) (T := T_Mod) (N := 76) hx hb hT in_Mod hown hK hP 0 rfl rfl 2 (by decide) (hT _ vt_173) (fun _ h9 => h9) (by rw [hfs_5, List.getElem?_set_ne (by decide), hfs_4, List.getElem?_set_ne (by decide), hfs_3, List.getElem?_set_ne (by decide), hfs_2, List.getElem?_set_ne (by decide)]; exact hs) d_Mod_peek_47 ?_
  refine lv_icmp_ne (tgt := 55) hx hb d_Mod_peek_50 (by decide) (fun c_6 => absurd (by decide) c_6) (fun c_6 => ?_)
  refine lv_iconst (v := 0) hx hb d_Mod_peek_53 (by decide) ?_
  refine W.widen (k := 0) (n := 0) (Nat.le_of_ble_eq_true rfl) (Nat.le_of_ble_eq_true rfl) ?_
  have hP9 := hP.sub (ws' := [(h0, .inr (12, fs_5))]) [0] rfl
  have hD9 := hD.sub (ws' := [(h0, .inr (12, fs_5))]) [0] (by decide) rfl
  have hK9 := hK.sub (tys' := []) [] rfl
  exact W.iret (v := 0) hx hb hr (fun t ht hW => ⟨⟨0, (), rfl, rfl, fs_5, by rw [ht]; exact hP9, va_K.moved hW.alike hK9, hD9, lfs_5⟩, hS.F ht⟩) hS.2.2 d_Mod_peek_54
set_option maxHeartbeats 4000000 in
set_option maxRecDepth 100000 in
/-- read with an empty tape -/
theorem c_Mod_read (l : Launch) (dC : Nat → ClassId) (dI : Nat → Nat → Nat) (sz : Nat) (h0 : Nat) (fs : List Value) (hz : Mz fs) : Met l y_Mod_read w_Mod_read ({ frames := 30, cells := 0, slots := 0, locals := 900 }) (Pw dC dI [.ref h0] sz [(h0, .inr (12, fs))] []) (va_Qi (fun (r : Int32) (_ : Unit) => r = 0) (fun _ t => True) (va_A [(h0, .inr (12, fs))] sz)) 0 0 (va_A [(h0, .inr (12, fs))] sz) := by
  refine va_MetW (hh := [(49, 114, 117, 1)]) (cc := b_Mod_read) (maxL := 7) (ret := (some .int)) (by decide) rfl ?_
  intro p e s m args below meth c s₁ B hml hv
  obtain ⟨rfl, hsz, hP, hK, hD0⟩ := hv
  have hx := B.exec
  have hb := B.bytes
  have hr := B.returns
  have hT : ∀ w ∈ vT, w.before _ s = true := fun w h => atoms_spec (ws := w_Mod_read) B.pre w (List.mem_cons_of_mem _ h)
  have hown : s.vm.findClass R_Mod = some m.cls := findClass_of_methodNamed B.named
  have hlocks := B.notSynchronized
  subst hsz
  have hD := hD0.self (sz := s.heap.size)
  generalize hAe : va_A [(h0, .inr (12, fs))] s.heap.size = A at hD ⊢
  have hA : ∀ q : Nat, s.heap.size ≤ q → A q := fun q h => by rw [← hAe]; exact Or.inr h
  have hS : va_S A s.heap s.heap [] := va_S.rf
  have hP : va_P (dC, dI) classes [(h0, .inr (12, fs))] s.heap := hP
  have hl := lv_entry ([.ref h0]) (n := 7) (Nat.le_of_ble_eq_true rfl)
  rw [lg_entry_eq]
  generalize (lg_sl ([.ref h0]) ++ List.replicate (7 - (lg_sl ([.ref h0])).length) Slot.unset).toArray = ls at hl ⊢
  have hl : lv_has ls 7 [(0, .ref h0)] := hl
  refine lv_aload_n hx hb d_Mod_read_0 rfl (lv_at hl 0 rfl) ?_
  refine lv_iconst (v := 0) hx hb d_Mod_read_1 (by decide) ?_
  refine va_put (D := (dC, dI)) (ci := 12) (v := .int 0) (ty := .int) (C := R_Mod) (T := T_Mod) (N := 76) hx hb hT in_Mod ty_Mod tyo_Mod nm_Mod hown hK hP hD hS 0 rfl rfl 4 (by decide) (hT _ vt_175) (fun _ h9 => h9) rfl (by decide +kernel) rfl rfl (by rw [hz.1]; decide) d_Mod_read_2 (fun H locs hP hD hS => ?_)
  obtain ⟨fs_1, hfs_1⟩ : ∃ z, z = List.set fs 4 (.int 0) := ⟨_, rfl⟩
  have hP : va_P (dC, dI) classes [(h0, .inr (12, fs_1))] H := by rw [hfs_1]; exact hP
  have hD : va_D A [(h0, .inr (12, fs_1))] := by rw [hfs_1]; exact hD
  have lfs_1 : List.length fs_1 = 76 := by rw [hfs_1, List.length_set, hz.1]
  refine lv_aload_n hx hb d_Mod_read_5 rfl (lv_at hl 0 rfl) ?_
  refine lv_iconst (v := 0) hx hb d_Mod_read_6 (by decide) ?_
  refine va_put (D := (dC, dI)) (ci := 12) (v := .int 0) (ty := .int) (C := R_Mod) (T := T_Mod) (N := 76) hx hb hT in_Mod ty_Mod tyo_Mod nm_Mod hown hK hP hD hS 0 rfl rfl 7 (by decide) (hT _ vt_178) (fun _ h9 => h9) rfl (by decide +kernel) rfl rfl (by rw [lfs_1]; decide) d_Mod_read_7 (fun H locs hP hD hS => ?_)
  obtain ⟨fs_2, hfs_2⟩ : ∃ z, z = List.set fs_1 7 (.int 0) := ⟨_, rfl⟩
  have hP : va_P (dC, dI) classes [(h0, .inr (12, fs_2))] H := by rw [hfs_2]; exact hP
  have hD : va_D A [(h0, .inr (12, fs_2))] := by rw [hfs_2]; exact hD
  have lfs_2 : List.length fs_2 = 76 := by rw [hfs_2, List.length_set, hfs_1, List.length_set, hz.1]
  refine lv_aload_n hx hb d_Mod_read_10 rfl (lv_at hl 0 rfl) ?_
  refine lv_iconst (v := 0) hx hb d_Mod_read_11 (by decide) ?_
  refine va_put (D := (dC, dI)) (ci := 12) (v := .int 0) (ty := .boolean) (C := R_Mod) (T := T_Mod) (N := 76) hx hb hT in_Mod ty_Mod tyo_Mod nm_Mod hown hK hP hD hS 0 rfl rfl 11 (by decide) (hT _ vt_182) (fun _ h9 => h9) rfl (by decide +kernel) rfl rfl (by rw [lfs_2]; decide) d_Mod_read_12 (fun H locs hP hD hS => ?_)
  obtain ⟨fs_3, hfs_3⟩ : ∃ z, z = List.set fs_2 11 (.int 0) := ⟨_, rfl⟩
  have hP : va_P (dC, dI) classes [(h0, .inr (12, fs_3))] H := by rw [hfs_3]; exact hP
  have hD : va_D A [(h0, .inr (12, fs_3))] := by rw [hfs_3]; exact hD
  have lfs_3 : List.length fs_3 = 76 := by rw [hfs_3, List.length_set, hfs_2, List.length_set, hfs_1, List.length_set, hz.1]
  refine lv_aload_n hx hb d_Mod_read_15 rfl (lv_at hl 0 rfl) ?_
  refine lv_iconst (v := 0) hx hb d_Mod_read_16 (by decide) ?_
  refine va_put (D := (dC, dI)) (ci := 12) (v := .int 0) (ty := .int) (C := R_Mod) (T := T_Mod) (N := 76) hx hb hT in_Mod ty_Mod tyo_Mod nm_Mod hown hK hP hD hS 0 rfl rfl 5 (by decide) (hT _ vt_176) (fun _ h9 => h9) rfl (by decide +kernel) rfl rfl (by rw [lfs_3]; decide) d_Mod_read_17 (fun H locs hP hD hS => ?_)
  obtain ⟨fs_4, hfs_4⟩ : ∃ z, z = List.set fs_3 5 (.int 0) := ⟨_, rfl⟩
  have hP : va_P (dC, dI) classes [(h0, .inr (12, fs_4))] H := by rw [hfs_4]; exact hP
  have hD : va_D A [(h0, .inr (12, fs_4))] := by rw [hfs_4]; exact hD
  have lfs_4 : List.length fs_4 = 76 := by rw [hfs_4, List.length_set, hfs_3, List.length_set, hfs_2, List.length_set, hfs_1, List.length_set, hz.1]
  refine lv_aload_n hx hb d_Mod_read_20 rfl (lv_at hl 0 rfl) ?_
  refine lv_iconst (v := 0) hx hb d_Mod_read_21 (by decide) ?_
  refine va_put (D := (dC, dI)) (ci := 12) (v := .int 0) (ty := .int) (C := R_Mod) (T := T_Mod) (N := 76) hx hb hT in_Mod ty_Mod tyo_Mod nm_Mod hown hK hP hD hS 0 rfl rfl 6 (by decide) (hT _ vt_177) (fun _ h9 => h9) rfl (by decide +kernel) rfl rfl (by rw [lfs_4]; decide) d_Mod_read_22 (fun H locs hP hD hS => ?_)
  obtain ⟨fs_5, hfs_5⟩ : ∃ z, z = List.set fs_4 6 (.int 0) := ⟨_, rfl⟩
  have hP : va_P (dC, dI) classes [(h0, .inr (12, fs_5))] H := by rw [hfs_5]; exact hP
  have hD : va_D A [(h0, .inr (12, fs_5))] := by rw [hfs_5]; exact hD
  have lfs_5 : List.length fs_5 = 76 := by rw [hfs_5, List.length_set, hfs_4, List.length_set, hfs_3, List.length_set, hfs_2, List.length_set, hfs_1, List.length_set, hz.1]
  refine lv_iconst (v := 0) hx hb d_Mod_read_25 (by decide) ?_
  refine lv_istore_n (lv' := [(1, .int 0), (0, .ref h0)]) hx hb d_Mod_read_26 rfl hl (by decide) rfl (fun ls hl => ?_)
  refine lv_aload_n hx hb d_Mod_read_27 rfl (lv_at hl 1 rfl) ?_
  refine va_get (D := (dC, dI)) (ci := 12) (v := .int 0) (C := R_Mod) (T := T_Mod) (N := 76) hx hb hT in_Mod hown hK hP 0 rfl rfl 28 (by decide) (hT _ vt_200) (fun _ h9 => h9) (by rw [hfs_5, List.getElem?_set_ne (by decide), hfs_4, List.getElem?_set_ne (by decide), hfs_3, List.getElem?_set_ne (by decide), hfs_2, List.getElem?_set_ne (by decide), hfs_1, List.getElem?_set_ne (by decide)]; exact hz.2 28 (by decide)) d_Mod_read_28 ?_
  refine lv_istore_n (lv' := [(2, .int 0), (1, .int 0), (0, .ref h0)]) hx hb d_Mod_read_31 rfl hl (by decide) rfl (fun ls hl => ?_)
  refine lv_aload_n hx hb d_Mod_read_32 rfl (lv_at hl 2 rfl) ?_
  refine va_get (D := (dC, dI)) (ci := 12) (v := .int 0) (C := R_Mod) (T := T_Mod) (N := 76) hx hb hT in_Mod hown hK hP 0 rfl rfl 27 (by decide) (hT _ vt_199) (fun _ h9 => h9) (by rw [hfs_5, List.getElem?_set_ne (by decide), hfs_4, List.getElem?_set_ne (by decide), hfs_3, List.getElem?_set_ne (by decide), hfs_2, List.getElem?_set_ne (by decide), hfs_1, List.getElem?_set_ne (by decide)]; exact hz.2 27 (by decide)) d_Mod_read_33 ?_
  refine lv_istore_n (lv' := [(3, .int 0), (2, .int 0), (1, .int 0), (0, .ref h0)]) hx hb d_Mod_read_36 rfl hl (by decide) rfl (fun ls hl => ?_)
  refine lv_aload_n hx hb d_Mod_read_37 rfl (lv_at hl 3 rfl) ?_
  refine va_get (D := (dC, dI)) (ci := 12) (v := .int 0) (C := R_Mod) (T := T_Mod) (N := 76) hx hb hT in_Mod hown hK hP 0 rfl rfl 42 (by decide) (hT _ vt_215) (fun _ h9 => h9) (by rw [hfs_5, List.getElem?_set_ne (by decide), hfs_4, List.getElem?_set_ne (by decide), hfs_3, List.getElem?_set_ne (by decide), hfs_2, List.getElem?_set_ne (by decide), hfs_1, List.getElem?_set_ne (by decide)]; exact hz.2 42 (by decide)) d_Mod_read_38 ?_
  refine lv_istore (lv' := [(4, .int 0), (3, .int 0), (2, .int 0), (1, .int 0), (0, .ref h0)]) hx hb d_Mod_read_41 hl (by decide) rfl (fun ls hl => ?_)
  refine lv_aload_n hx hb d_Mod_read_43 rfl (lv_at hl 4 rfl) ?_
  refine va_get (D := (dC, dI)) (ci := 12) (v := .int 0) (C := R_Mod) (T := T_Mod) (N := 76) hx hb hT in_Mod hown hK hP 0 rfl rfl 43 (by decide) (hT _ vt_216) (fun _ h9 => h9) (by rw [hfs_5, List.getElem?_set_ne (by decide), hfs_4, List.getElem?_set_ne (by decide), hfs_3, List.getElem?_set_ne (by decide), hfs_2, List.getElem?_set_ne (by decide), hfs_1, List.getElem?_set_ne (by decide)]; exact hz.2 43 (by decide)) d_Mod_read_44 ?_
  refine lv_istore (lv' := [(5, .int 0), (4, .int 0), (3, .int 0), (2, .int 0), (1, .int 0), (0, .ref h0)]) hx hb d_Mod_read_47 hl (by decide) rfl (fun ls hl => ?_)
  refine lv_aload_n hx hb d_Mod_read_49 rfl (lv_at hl 5 rfl) ?_
  have q_p : fs_5[7]? = some (.int 0) := (by rw [hfs_5, List.getElem?_set_ne (by decide), hfs_4, List.getElem?_set_ne (by decide), hfs_3, List.getElem?_set_ne (by decide), hfs_2]; exact List.getElem?_set_self (by rw [hfs_1, List.length_set, hz.1]; decide))
  have q_s : fs_5[2]? = some (.int 0) := (by rw [hfs_5, List.getElem?_set_ne (by decide), hfs_4, List.getElem?_set_ne (by decide), hfs_3, List.getElem?_set_ne (by decide), hfs_2, List.getElem?_set_ne (by decide), hfs_1, List.getElem?_set_ne (by decide)]; exact hz.2 2 (by decide))
  have q_e : fs_5[11]? = some (.int 0) := (by rw [hfs_5, List.getElem?_set_ne (by decide), hfs_4, List.getElem?_set_ne (by decide), hfs_3]; exact List.getElem?_set_self (by rw [hfs_2, List.length_set, hfs_1, List.length_set, hz.1]; decide))
  have hPc := hP.sub (ws' := [(h0, .inr (12, fs_5))]) [0] rfl
  have hDc := hD.sub (ws' := [(h0, .inr (12, fs_5))]) [0] (by decide) rfl
  have hKc := hK.sub (tys' := []) [] rfl
  have hFc := va_free (wc := [(h0, .inr (12, fs_5))]) hD hS hA [0] rfl
  refine va_calli (va_runV (As := []) (rest := []) ⟨hx, hb, hml, hown, hT⟩ (c_Mod_peek l dC dI H.size h0 fs_5 lfs_5 q_p q_s q_e) (cwV 0 hT (gV vt_362 vt_363 vt_364 vt_352 vt_365) rfl rfl rfl (by decide +kernel) ⟨Nat.le_of_ble_eq_true rfl, Nat.le_of_ble_eq_true rfl⟩) ⟨Pw_blind, va_recv hK hP (ci := 12) (q0 := 0) rfl rfl, Pw_of hPc hKc hDc⟩ rfl rfl hl.1 rfl (lv_room (Nat.le_of_ble_eq_true rfl)) d_Mod_read_50 ⟨Nat.le_of_ble_eq_true rfl, Nat.le_of_ble_eq_true rfl⟩) hS (fun q _ h => hFc q h) hFc (fun r_7 u t H1 locs ht hvm hw hB hz1 hk1 hS => ?_)
  obtain ⟨fs_6, hP1, hK1, hD1, lfs_6⟩ := hB
  rw [ht] at hP1
  have hK1 := va_K.moved hvm.symm hK1
  obtain ⟨hP, hD⟩ := va_join (wr := []) (w1 := [(h0, .inr (12, fs_6))]) hP hD [0] [] rfl rfl (by decide) (by decide) hk1 hFc hP1 hD1
  generalize H1 = H at hP hS ⊢
  have hP : va_P (dC, dI) classes [(h0, .inr (12, fs_6))] H := hP
  have hD : va_D A [(h0, .inr (12, fs_6))] := hD
  refine W.widen (k := 0) (n := 0) (Nat.le_of_ble_eq_true rfl) (Nat.le_of_ble_eq_true rfl) ?_
  subst hw
  refine lv_if_eq (tgt := 114) hx hb d_Mod_read_53 (by decide) (fun c_8 => ?_) (fun c_8 => absurd (rfl) c_8)
  refine lv_goto (tgt := 174) hx hb d_Mod_read_114 (by decide) ?_
  refine lv_aload_n hx hb d_Mod_read_174 rfl (lv_at hl 5 rfl) ?_
  refine lv_iconst (v := 0) hx hb d_Mod_read_175 (by decide) ?_
  refine va_put (D := (dC, dI)) (ci := 12) (v := .int 0) (ty := .int) (C := R_Mod) (T := T_Mod) (N := 76) hx hb hT in_Mod ty_Mod tyo_Mod nm_Mod hown hK hP hD hS 0 rfl rfl 2 (by decide) (hT _ vt_173) (fun _ h9 => h9) rfl (by decide +kernel) rfl rfl (by rw [lfs_6]; decide) d_Mod_read_176 (fun H locs hP hD hS => ?_)
  obtain ⟨fs_9, hfs_9⟩ : ∃ z, z = List.set fs_6 2 (.int 0) := ⟨_, rfl⟩
  have hP : va_P (dC, dI) classes [(h0, .inr (12, fs_9))] H := by rw [hfs_9]; exact hP
  have hD : va_D A [(h0, .inr (12, fs_9))] := by rw [hfs_9]; exact hD
  have lfs_9 : List.length fs_9 = 76 := by rw [hfs_9, List.length_set, lfs_6]
  refine lv_iload_n hx hb d_Mod_read_179 rfl (lv_at hl 4 rfl) ?_
  refine W.widen (k := 0) (n := 0) (Nat.le_of_ble_eq_true rfl) (Nat.le_of_ble_eq_true rfl) ?_
  exact W.iret (v := 0) hx hb hr (fun t ht hW => ⟨⟨0, (), rfl, rfl, trivial⟩, hS.F ht⟩) hS.2.2 d_Mod_read_180
