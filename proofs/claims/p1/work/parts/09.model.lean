/-- the reference's fields at its start: 76 of them, those of numbers and of truth are 0 (but top) -/
def zIdx : List Nat := [2, 3, 4, 5, 6, 7, 8, 9, 10, 11, 20, 21, 22, 23, 27, 28, 42, 43, 46, 52, 53, 54, 55, 57, 58, 59, 60, 61, 70, 72, 75]
def Mz (fs : List Value) : Prop := fs.length = 76 ∧ ∀ k, k ∈ zIdx → fs[k]? = some (.int 0)
theorem Mz.set {fs : List Value} {k : Nat} {v : Value} (h : Mz fs) (hk : k ∉ zIdx) : Mz (fs.set k v) :=
  ⟨by rw [List.length_set]; exact h.1, fun j hj => by
    have hne : k ≠ j := fun e => hk (by rw [e]; exact hj)
    rw [List.getElem?_set_ne hne]; exact h.2 j hj⟩
theorem Mz.set0 {fs : List Value} {k : Nat} (h : Mz fs) (hk : k ∈ zIdx) : fs.set k (.int 0) = fs := by
  apply List.ext_getElem?
  intro j
  by_cases e : k = j
  · subst e
    rw [List.getElem?_set_self (by have := h.2 k hk; exact (List.getElem?_eq_some_iff.mp this).1), h.2 k hk]
  · rw [List.getElem?_set_ne e]
theorem Mz.start : Mz [.null, .null, .int 0, .int 0, .int 0, .int 0, .int 0, .int 0, .int 0, .int 0, .int 0, .int 0, .null, .null, .null, .null, .null, .null, .int 0, .null, .int 0, .int 0, .int 0, .int 0, .null, .null, .null, .int 0, .int 0, .null, .null, .null, .null, .null, .null, .null, .null, .null, .null, .null, .null, .null, .int 0, .int 0, .null, .null, .int 0, .null, .null, .null, .null, .null, .int 0, .int 0, .int 0, .int 0, .null, .int 0, .int 0, .int 0, .int 0, .int 0, .null, .null, .null, .null, .null, .null, .null, .null, .int 0, .null, .int 0, .null, .null, .int 0] := ⟨rfl, by decide⟩
set_option maxHeartbeats 4000000 in
set_option maxRecDepth 100000 in
/-- FamilyKernelModel() -/
theorem c_Mod_init (l : Launch) (dC : Nat → ClassId) (dI : Nat → Nat → Nat) (sz : Nat) (h0 : Nat) (fs : List Value) (hz : Mz fs) : Met l y_Mod_init w_Mod_init ({ frames := 20, cells := 44, slots := 2669993, locals := 600 }) (Pw dC dI [.ref h0] sz [(h0, .inr (12, fs))] []) (va_Qv (fun _ : Unit => True) (fun _ t => ∃ (fs2 : List Value) (tp : Nat) (cB : ClassId), va_P (dC, dI) classes [(h0, .inr (12, fs2)), (tp, .inl (cB, 65536, .inl (fun _ => 0)))] t.heap ∧ va_K (dC, dI) classes [(cB, .byte)] t ∧ va_D (va_A [(h0, .inr (12, fs))] sz) [(h0, .inr (12, fs2)), (tp, .inl (cB, 65536, .inl (fun _ => 0)))] ∧ Mz fs2 ∧ fs2[0]? = some (.ref tp)) (va_A [(h0, .inr (12, fs))] sz)) 44 2669993 (va_A [(h0, .inr (12, fs))] sz) := by
  refine Met.ofW (cc := b_Mod_init) (maxL := 1) (ret := none) (by decide) rfl ?_
  intro p e s m args below meth c s₁ B hml hv
  obtain ⟨rfl, hsz, hP, hK, hD0⟩ := hv
  have hx := B.exec
  have hb := B.bytes
  have hr := B.returns
  have hT : ∀ w ∈ vT, w.before _ s = true := fun w h => atoms_spec (ws := w_Mod_init) B.pre w (List.mem_cons_of_mem _ h)
  have hown : s.vm.findClass R_Mod = some m.cls := findClass_of_methodNamed B.named
  have hlocks := B.notSynchronized
  have hin : meth.name = "<init>" := (name_of_methodNamed B.named B.method).1
  subst hsz
  have hD := hD0.self (sz := s.heap.size)
  generalize hAe : va_A [(h0, .inr (12, fs))] s.heap.size = A at hD ⊢
  have hA : ∀ q : Nat, s.heap.size ≤ q → A q := fun q h => by rw [← hAe]; exact Or.inr h
  have hS : va_S A s.heap s.heap [] := va_S.rf
  have hP : va_P (dC, dI) classes [(h0, .inr (12, fs))] s.heap := hP
  have hl := lv_entry ([.ref h0]) (n := 1) (Nat.le_of_ble_eq_true rfl)
  rw [lg_entry_eq]
  generalize (lg_sl ([.ref h0]) ++ List.replicate (1 - (lg_sl ([.ref h0])).length) Slot.unset).toArray = ls at hl ⊢
  have hl : lv_has ls 1 [(0, .ref h0)] := hl
  refine lv_aload_n hx hb d_Mod_init_0 rfl (lv_at hl 0 rfl) ?_
  refine W.objInit hx hb hown (hT _ vt_168) (hT _ vt_1) (hT _ vt_2) rfl (by rw [hml]; exact hl.1) rfl d_Mod_init_1 (Nat.le_of_ble_eq_true rfl) (Nat.le_of_ble_eq_true rfl) ?_
  refine W.eq (g2 := F0 m 4 ls []) rfl ?_
  refine lv_aload_n hx hb d_Mod_init_4 rfl (lv_at hl 0 rfl) ?_
  refine lv_ldc (v := 65536) hx hb hown (hT _ vt_169) d_Mod_init_5 ?_
  refine va_newa (atype := .byte) (ty := .byte) (a0 := (65536, .inl (fun _ => 0))) hx hb (hT _ vt_170) rfl hK hP hD hS hA (fun _ => rfl) (by decide) (by decide) (by decide) (Nat.le_of_ble_eq_true rfl) (Nat.le_of_ble_eq_true rfl) d_Mod_init_7 (fun q_1 cA_2 H hK hP hD hS => ?_)
  have hK : va_K (dC, dI) classes [(cA_2, .byte)] s := hK
  have hP : va_P (dC, dI) classes [(h0, .inr (12, fs)), (q_1, .inl (cA_2, 65536, .inl (fun _ => 0)))] H := hP
  have hD : va_D A [(h0, .inr (12, fs)), (q_1, .inl (cA_2, 65536, .inl (fun _ => 0)))] := hD
  refine W.widen (k := 1) (n := 65536) (Nat.le_of_ble_eq_true rfl) (Nat.le_of_ble_eq_true rfl) ?_
  refine va_putF (D := (dC, dI)) (ci := 12) (v := .ref q_1) (ty := (.array .byte)) (C := R_Mod) (T := T_Mod) (N := 76) hx hb hT in_Mod ty_Mod tyo_Mod nm_Mod hown hK hP hD hS 0 rfl rfl 0 (by decide) (hT _ vt_171) (fun _ h9 => h9) rfl hin rfl (by decide +kernel) rfl rfl (by rw [hz.1]; decide) d_Mod_init_9 (fun H locs hP hD hS => ?_)
  obtain ⟨fs_3, hfs_3⟩ : ∃ z, z = List.set fs 0 (.ref q_1) := ⟨_, rfl⟩
  have hP : va_P (dC, dI) classes [(h0, .inr (12, fs_3)), (q_1, .inl (cA_2, 65536, .inl (fun _ => 0)))] H := by rw [hfs_3]; exact hP
  have hD : va_D A [(h0, .inr (12, fs_3)), (q_1, .inl (cA_2, 65536, .inl (fun _ => 0)))] := by rw [hfs_3]; exact hD
  have htp : fs_3[0]? = some (.ref q_1) := by rw [hfs_3]; exact List.getElem?_set_self (by rw [hz.1]; decide)
  have hz : Mz fs_3 := by rw [hfs_3]; exact hz.set (by decide)
  refine lv_aload_n hx hb d_Mod_init_12 rfl (lv_at hl 0 rfl) ?_
  refine lv_ldc (v := 65536) hx hb hown (hT _ vt_169) d_Mod_init_13 ?_
  refine va_newa (atype := .byte) (ty := .byte) (a0 := (65536, .inl (fun _ => 0))) hx hb (hT _ vt_170) rfl hK hP hD hS hA (fun _ => rfl) (by decide) (by decide) (by decide) (Nat.le_of_ble_eq_true rfl) (Nat.le_of_ble_eq_true rfl) d_Mod_init_15 (fun q_4 cA_5 H hK hP hD hS => ?_)
  have hK : va_K (dC, dI) classes [(cA_2, .byte), (cA_5, .byte)] s := hK
  have hP : va_P (dC, dI) classes [(h0, .inr (12, fs_3)), (q_1, .inl (cA_2, 65536, .inl (fun _ => 0))), (q_4, .inl (cA_5, 65536, .inl (fun _ => 0)))] H := hP
  have hD : va_D A [(h0, .inr (12, fs_3)), (q_1, .inl (cA_2, 65536, .inl (fun _ => 0))), (q_4, .inl (cA_5, 65536, .inl (fun _ => 0)))] := hD
  refine W.widen (k := 2) (n := 131072) (Nat.le_of_ble_eq_true rfl) (Nat.le_of_ble_eq_true rfl) ?_
  refine va_putF (D := (dC, dI)) (ci := 12) (v := .ref q_4) (ty := (.array .byte)) (C := R_Mod) (T := T_Mod) (N := 76) hx hb hT in_Mod ty_Mod tyo_Mod nm_Mod hown hK hP hD hS 0 rfl rfl 1 (by decide) (hT _ vt_172) (fun _ h9 => h9) rfl hin rfl (by decide +kernel) rfl rfl (by rw [hz.1]; decide) d_Mod_init_17 (fun H locs hP hD hS => ?_)
  obtain ⟨fs_6, hfs_6⟩ : ∃ z, z = List.set fs_3 1 (.ref q_4) := ⟨_, rfl⟩
  have hP : va_P (dC, dI) classes [(h0, .inr (12, fs_6)), (q_1, .inl (cA_2, 65536, .inl (fun _ => 0))), (q_4, .inl (cA_5, 65536, .inl (fun _ => 0)))] H := by rw [hfs_6]; exact hP
  have hD : va_D A [(h0, .inr (12, fs_6)), (q_1, .inl (cA_2, 65536, .inl (fun _ => 0))), (q_4, .inl (cA_5, 65536, .inl (fun _ => 0)))] := by rw [hfs_6]; exact hD
  have htp : fs_6[0]? = some (.ref q_1) := by rw [hfs_6, List.getElem?_set_ne (by decide)]; exact htp
  have hz : Mz fs_6 := by rw [hfs_6]; exact hz.set (by decide)
  have hP := hP.sub (ws' := [(h0, .inr (12, fs_6)), (q_1, .inl (cA_2, 65536, .inl (fun _ => 0)))]) [0, 1] rfl
  have hD := hD.sub (ws' := [(h0, .inr (12, fs_6)), (q_1, .inl (cA_2, 65536, .inl (fun _ => 0)))]) [0, 1] (by decide) rfl
  have hK := hK.sub (tys' := [(cA_2, .byte)]) [0] rfl
  refine lv_aload_n hx hb d_Mod_init_20 rfl (lv_at hl 0 rfl) ?_
  refine lv_iconst (v := 0) hx hb d_Mod_init_21 (by decide) ?_
  refine va_put (D := (dC, dI)) (ci := 12) (v := .int 0) (ty := .int) (C := R_Mod) (T := T_Mod) (N := 76) hx hb hT in_Mod ty_Mod tyo_Mod nm_Mod hown hK hP hD hS 0 rfl rfl 2 (by decide) (hT _ vt_173) (fun _ h9 => h9) rfl (by decide +kernel) rfl rfl (by rw [hz.1]; decide) d_Mod_init_22 (fun H locs hP hD hS => ?_)
  have hP : va_P (dC, dI) classes [(h0, .inr (12, fs_6)), (q_1, .inl (cA_2, 65536, .inl (fun _ => 0)))] H := by rw [← hz.set0 (k := 2) (by decide)]; exact hP
  have hD : va_D A [(h0, .inr (12, fs_6)), (q_1, .inl (cA_2, 65536, .inl (fun _ => 0)))] := by rw [← hz.set0 (k := 2) (by decide)]; exact hD
  refine lv_aload_n hx hb d_Mod_init_25 rfl (lv_at hl 0 rfl) ?_
  refine lv_iconst (v := 0) hx hb d_Mod_init_26 (by decide) ?_
  refine va_put (D := (dC, dI)) (ci := 12) (v := .int 0) (ty := .int) (C := R_Mod) (T := T_Mod) (N := 76) hx hb hT in_Mod ty_Mod tyo_Mod nm_Mod hown hK hP hD hS 0 rfl rfl 3 (by decide) (hT _ vt_174) (fun _ h9 => h9) rfl (by decide +kernel) rfl rfl (by rw [hz.1]; decide) d_Mod_init_27 (fun H locs hP hD hS => ?_)
  have hP : va_P (dC, dI) classes [(h0, .inr (12, fs_6)), (q_1, .inl (cA_2, 65536, .inl (fun _ => 0)))] H := by rw [← hz.set0 (k := 3) (by decide)]; exact hP
  have hD : va_D A [(h0, .inr (12, fs_6)), (q_1, .inl (cA_2, 65536, .inl (fun _ => 0)))] := by rw [← hz.set0 (k := 3) (by decide)]; exact hD
  refine lv_aload_n hx hb d_Mod_init_30 rfl (lv_at hl 0 rfl) ?_
  refine lv_iconst (v := 0) hx hb d_Mod_init_31 (by decide) ?_
  refine va_put (D := (dC, dI)) (ci := 12) (v := .int 0) (ty := .int) (C := R_Mod) (T := T_Mod) (N := 76) hx hb hT in_Mod ty_Mod tyo_Mod nm_Mod hown hK hP hD hS 0 rfl rfl 4 (by decide) (hT _ vt_175) (fun _ h9 => h9) rfl (by decide +kernel) rfl rfl (by rw [hz.1]; decide) d_Mod_init_32 (fun H locs hP hD hS => ?_)
  have hP : va_P (dC, dI) classes [(h0, .inr (12, fs_6)), (q_1, .inl (cA_2, 65536, .inl (fun _ => 0)))] H := by rw [← hz.set0 (k := 4) (by decide)]; exact hP
  have hD : va_D A [(h0, .inr (12, fs_6)), (q_1, .inl (cA_2, 65536, .inl (fun _ => 0)))] := by rw [← hz.set0 (k := 4) (by decide)]; exact hD
  refine lv_aload_n hx hb d_Mod_init_35 rfl (lv_at hl 0 rfl) ?_
  refine lv_iconst (v := 0) hx hb d_Mod_init_36 (by decide) ?_
  refine va_put (D := (dC, dI)) (ci := 12) (v := .int 0) (ty := .int) (C := R_Mod) (T := T_Mod) (N := 76) hx hb hT in_Mod ty_Mod tyo_Mod nm_Mod hown hK hP hD hS 0 rfl rfl 5 (by decide) (hT _ vt_176) (fun _ h9 => h9) rfl (by decide +kernel) rfl rfl (by rw [hz.1]; decide) d_Mod_init_37 (fun H locs hP hD hS => ?_)
  have hP : va_P (dC, dI) classes [(h0, .inr (12, fs_6)), (q_1, .inl (cA_2, 65536, .inl (fun _ => 0)))] H := by rw [← hz.set0 (k := 5) (by decide)]; exact hP
  have hD : va_D A [(h0, .inr (12, fs_6)), (q_1, .inl (cA_2, 65536, .inl (fun _ => 0)))] := by rw [← hz.set0 (k := 5) (by decide)]; exact hD
  refine lv_aload_n hx hb d_Mod_init_40 rfl (lv_at hl 0 rfl) ?_
  refine lv_iconst (v := 0) hx hb d_Mod_init_41 (by decide) ?_
  refine va_put (D := (dC, dI)) (ci := 12) (v := .int 0) (ty := .int) (C := R_Mod) (T := T_Mod) (N := 76) hx hb hT in_Mod ty_Mod tyo_Mod nm_Mod hown hK hP hD hS 0 rfl rfl 6 (by decide) (hT _ vt_177) (fun _ h9 => h9) rfl (by decide +kernel) rfl rfl (by rw [hz.1]; decide) d_Mod_init_42 (fun H locs hP hD hS => ?_)
  have hP : va_P (dC, dI) classes [(h0, .inr (12, fs_6)), (q_1, .inl (cA_2, 65536, .inl (fun _ => 0)))] H := by rw [← hz.set0 (k := 6) (by decide)]; exact hP
  have hD : va_D A [(h0, .inr (12, fs_6)), (q_1, .inl (cA_2, 65536, .inl (fun _ => 0)))] := by rw [← hz.set0 (k := 6) (by decide)]; exact hD
  refine lv_aload_n hx hb d_Mod_init_45 rfl (lv_at hl 0 rfl) ?_
  refine lv_iconst (v := 0) hx hb d_Mod_init_46 (by decide) ?_
  refine va_put (D := (dC, dI)) (ci := 12) (v := .int 0) (ty := .int) (C := R_Mod) (T := T_Mod) (N := 76) hx hb hT in_Mod ty_Mod tyo_Mod nm_Mod hown hK hP hD hS 0 rfl rfl 7 (by decide) (hT _ vt_178) (fun _ h9 => h9) rfl (by decide +kernel) rfl rfl (by rw [hz.1]; decide) d_Mod_init_47 (fun H locs hP hD hS => ?_)
  have hP : va_P (dC, dI) classes [(h0, .inr (12, fs_6)), (q_1, .inl (cA_2, 65536, .inl (fun _ => 0)))] H := by rw [← hz.set0 (k := 7) (by decide)]; exact hP
  have hD : va_D A [(h0, .inr (12, fs_6)), (q_1, .inl (cA_2, 65536, .inl (fun _ => 0)))] := by rw [← hz.set0 (k := 7) (by decide)]; exact hD
  refine lv_aload_n hx hb d_Mod_init_50 rfl (lv_at hl 0 rfl) ?_
  refine lv_iconst (v := 0) hx hb d_Mod_init_51 (by decide) ?_
  refine va_put (D := (dC, dI)) (ci := 12) (v := .int 0) (ty := .int) (C := R_Mod) (T := T_Mod) (N := 76) hx hb hT in_Mod ty_Mod tyo_Mod nm_Mod hown hK hP hD hS 0 rfl rfl 8 (by decide) (hT _ vt_179) (fun _ h9 => h9) rfl (by decide +kernel) rfl rfl (by rw [hz.1]; decide) d_Mod_init_52 (fun H locs hP hD hS => ?_)
  have hP : va_P (dC, dI) classes [(h0, .inr (12, fs_6)), (q_1, .inl (cA_2, 65536, .inl (fun _ => 0)))] H := by rw [← hz.set0 (k := 8) (by decide)]; exact hP
  have hD : va_D A [(h0, .inr (12, fs_6)), (q_1, .inl (cA_2, 65536, .inl (fun _ => 0)))] := by rw [← hz.set0 (k := 8) (by decide)]; exact hD
  refine lv_aload_n hx hb d_Mod_init_55 rfl (lv_at hl 0 rfl) ?_
  refine lv_iconst (v := 0) hx hb d_Mod_init_56 (by decide) ?_
  refine va_put (D := (dC, dI)) (ci := 12) (v := .int 0) (ty := .int) (C := R_Mod) (T := T_Mod) (N := 76) hx hb hT in_Mod ty_Mod tyo_Mod nm_Mod hown hK hP hD hS 0 rfl rfl 9 (by decide) (hT _ vt_180) (fun _ h9 => h9) rfl (by decide +kernel) rfl rfl (by rw [hz.1]; decide) d_Mod_init_57 (fun H locs hP hD hS => ?_)
  have hP : va_P (dC, dI) classes [(h0, .inr (12, fs_6)), (q_1, .inl (cA_2, 65536, .inl (fun _ => 0)))] H := by rw [← hz.set0 (k := 9) (by decide)]; exact hP
  have hD : va_D A [(h0, .inr (12, fs_6)), (q_1, .inl (cA_2, 65536, .inl (fun _ => 0)))] := by rw [← hz.set0 (k := 9) (by decide)]; exact hD
  refine lv_aload_n hx hb d_Mod_init_60 rfl (lv_at hl 0 rfl) ?_
  refine lv_iconst (v := 0) hx hb d_Mod_init_61 (by decide) ?_
  refine va_put (D := (dC, dI)) (ci := 12) (v := .int 0) (ty := .int) (C := R_Mod) (T := T_Mod) (N := 76) hx hb hT in_Mod ty_Mod tyo_Mod nm_Mod hown hK hP hD hS 0 rfl rfl 10 (by decide) (hT _ vt_181) (fun _ h9 => h9) rfl (by decide +kernel) rfl rfl (by rw [hz.1]; decide) d_Mod_init_62 (fun H locs hP hD hS => ?_)
  have hP : va_P (dC, dI) classes [(h0, .inr (12, fs_6)), (q_1, .inl (cA_2, 65536, .inl (fun _ => 0)))] H := by rw [← hz.set0 (k := 10) (by decide)]; exact hP
  have hD : va_D A [(h0, .inr (12, fs_6)), (q_1, .inl (cA_2, 65536, .inl (fun _ => 0)))] := by rw [← hz.set0 (k := 10) (by decide)]; exact hD
  refine lv_aload_n hx hb d_Mod_init_65 rfl (lv_at hl 0 rfl) ?_
  refine lv_iconst (v := 0) hx hb d_Mod_init_66 (by decide) ?_
  refine va_put (D := (dC, dI)) (ci := 12) (v := .int 0) (ty := .boolean) (C := R_Mod) (T := T_Mod) (N := 76) hx hb hT in_Mod ty_Mod tyo_Mod nm_Mod hown hK hP hD hS 0 rfl rfl 11 (by decide) (hT _ vt_182) (fun _ h9 => h9) rfl (by decide +kernel) rfl rfl (by rw [hz.1]; decide) d_Mod_init_67 (fun H locs hP hD hS => ?_)
  have hP : va_P (dC, dI) classes [(h0, .inr (12, fs_6)), (q_1, .inl (cA_2, 65536, .inl (fun _ => 0)))] H := by rw [← hz.set0 (k := 11) (by decide)]; exact hP
  have hD : va_D A [(h0, .inr (12, fs_6)), (q_1, .inl (cA_2, 65536, .inl (fun _ => 0)))] := by rw [← hz.set0 (k := 11) (by decide)]; exact hD
  refine lv_aload_n hx hb d_Mod_init_70 rfl (lv_at hl 0 rfl) ?_
  refine lv_ldc (v := 400000) hx hb hown (hT _ vt_183) d_Mod_init_71 ?_
  refine va_newa (atype := .byte) (ty := .byte) (a0 := (400000, .inl (fun _ => 0))) hx hb (hT _ vt_170) rfl hK hP hD hS hA (fun _ => rfl) (by decide) (by decide) (by decide) (Nat.le_of_ble_eq_true rfl) (Nat.le_of_ble_eq_true rfl) d_Mod_init_73 (fun q_7 cA_8 H hK hP hD hS => ?_)
  have hK : va_K (dC, dI) classes [(cA_2, .byte), (cA_8, .byte)] s := hK
  have hP : va_P (dC, dI) classes [(h0, .inr (12, fs_6)), (q_1, .inl (cA_2, 65536, .inl (fun _ => 0))), (q_7, .inl (cA_8, 400000, .inl (fun _ => 0)))] H := hP
  have hD : va_D A [(h0, .inr (12, fs_6)), (q_1, .inl (cA_2, 65536, .inl (fun _ => 0))), (q_7, .inl (cA_8, 400000, .inl (fun _ => 0)))] := hD
  refine W.widen (k := 3) (n := 531072) (Nat.le_of_ble_eq_true rfl) (Nat.le_of_ble_eq_true rfl) ?_
  refine va_putF (D := (dC, dI)) (ci := 12) (v := .ref q_7) (ty := (.array .byte)) (C := R_Mod) (T := T_Mod) (N := 76) hx hb hT in_Mod ty_Mod tyo_Mod nm_Mod hown hK hP hD hS 0 rfl rfl 12 (by decide) (hT _ vt_184) (fun _ h9 => h9) rfl hin rfl (by decide +kernel) rfl rfl (by rw [hz.1]; decide) d_Mod_init_75 (fun H locs hP hD hS => ?_)
  obtain ⟨fs_9, hfs_9⟩ : ∃ z, z = List.set fs_6 12 (.ref q_7) := ⟨_, rfl⟩
  have hP : va_P (dC, dI) classes [(h0, .inr (12, fs_9)), (q_1, .inl (cA_2, 65536, .inl (fun _ => 0))), (q_7, .inl (cA_8, 400000, .inl (fun _ => 0)))] H := by rw [hfs_9]; exact hP
  have hD : va_D A [(h0, .inr (12, fs_9)), (q_1, .inl (cA_2, 65536, .inl (fun _ => 0))), (q_7, .inl (cA_8, 400000, .inl (fun _ => 0)))] := by rw [hfs_9]; exact hD
  have htp : fs_9[0]? = some (.ref q_1) := by rw [hfs_9, List.getElem?_set_ne (by decide)]; exact htp
  have hz : Mz fs_9 := by rw [hfs_9]; exact hz.set (by decide)
  have hP := hP.sub (ws' := [(h0, .inr (12, fs_9)), (q_1, .inl (cA_2, 65536, .inl (fun _ => 0)))]) [0, 1] rfl
  have hD := hD.sub (ws' := [(h0, .inr (12, fs_9)), (q_1, .inl (cA_2, 65536, .inl (fun _ => 0)))]) [0, 1] (by decide) rfl
  have hK := hK.sub (tys' := [(cA_2, .byte)]) [0] rfl
  refine lv_aload_n hx hb d_Mod_init_78 rfl (lv_at hl 0 rfl) ?_
  refine lv_ldc (v := 400000) hx hb hown (hT _ vt_183) d_Mod_init_79 ?_
  refine va_newa (atype := .int) (ty := .int) (a0 := (400000, .inl (fun _ => 0))) hx hb (hT _ vt_3) rfl hK hP hD hS hA (fun _ => rfl) (by decide) (by decide) (by decide) (Nat.le_of_ble_eq_true rfl) (Nat.le_of_ble_eq_true rfl) d_Mod_init_81 (fun q_10 cA_11 H hK hP hD hS => ?_)
  have hK : va_K (dC, dI) classes [(cA_2, .byte), (cA_11, .int)] s := hK
  have hP : va_P (dC, dI) classes [(h0, .inr (12, fs_9)), (q_1, .inl (cA_2, 65536, .inl (fun _ => 0))), (q_10, .inl (cA_11, 400000, .inl (fun _ => 0)))] H := hP
  have hD : va_D A [(h0, .inr (12, fs_9)), (q_1, .inl (cA_2, 65536, .inl (fun _ => 0))), (q_10, .inl (cA_11, 400000, .inl (fun _ => 0)))] := hD
  refine W.widen (k := 4) (n := 931072) (Nat.le_of_ble_eq_true rfl) (Nat.le_of_ble_eq_true rfl) ?_
  refine va_putF (D := (dC, dI)) (ci := 12) (v := .ref q_10) (ty := (.array .int)) (C := R_Mod) (T := T_Mod) (N := 76) hx hb hT in_Mod ty_Mod tyo_Mod nm_Mod hown hK hP hD hS 0 rfl rfl 13 (by decide) (hT _ vt_185) (fun _ h9 => h9) rfl hin rfl (by decide +kernel) rfl rfl (by rw [hz.1]; decide) d_Mod_init_83 (fun H locs hP hD hS => ?_)
  obtain ⟨fs_12, hfs_12⟩ : ∃ z, z = List.set fs_9 13 (.ref q_10) := ⟨_, rfl⟩
  have hP : va_P (dC, dI) classes [(h0, .inr (12, fs_12)), (q_1, .inl (cA_2, 65536, .inl (fun _ => 0))), (q_10, .inl (cA_11, 400000, .inl (fun _ => 0)))] H := by rw [hfs_12]; exact hP
  have hD : va_D A [(h0, .inr (12, fs_12)), (q_1, .inl (cA_2, 65536, .inl (fun _ => 0))), (q_10, .inl (cA_11, 400000, .inl (fun _ => 0)))] := by rw [hfs_12]; exact hD
  have htp : fs_12[0]? = some (.ref q_1) := by rw [hfs_12, List.getElem?_set_ne (by decide)]; exact htp
  have hz : Mz fs_12 := by rw [hfs_12]; exact hz.set (by decide)
  have hP := hP.sub (ws' := [(h0, .inr (12, fs_12)), (q_1, .inl (cA_2, 65536, .inl (fun _ => 0)))]) [0, 1] rfl
  have hD := hD.sub (ws' := [(h0, .inr (12, fs_12)), (q_1, .inl (cA_2, 65536, .inl (fun _ => 0)))]) [0, 1] (by decide) rfl
  have hK := hK.sub (tys' := [(cA_2, .byte)]) [0] rfl
  refine lv_aload_n hx hb d_Mod_init_86 rfl (lv_at hl 0 rfl) ?_
  refine lv_ldc (v := 400000) hx hb hown (hT _ vt_183) d_Mod_init_87 ?_
  refine va_newa (atype := .int) (ty := .int) (a0 := (400000, .inl (fun _ => 0))) hx hb (hT _ vt_3) rfl hK hP hD hS hA (fun _ => rfl) (by decide) (by decide) (by decide) (Nat.le_of_ble_eq_true rfl) (Nat.le_of_ble_eq_true rfl) d_Mod_init_89 (fun q_13 cA_14 H hK hP hD hS => ?_)
  have hK : va_K (dC, dI) classes [(cA_2, .byte), (cA_14, .int)] s := hK
  have hP : va_P (dC, dI) classes [(h0, .inr (12, fs_12)), (q_1, .inl (cA_2, 65536, .inl (fun _ => 0))), (q_13, .inl (cA_14, 400000, .inl (fun _ => 0)))] H := hP
  have hD : va_D A [(h0, .inr (12, fs_12)), (q_1, .inl (cA_2, 65536, .inl (fun _ => 0))), (q_13, .inl (cA_14, 400000, .inl (fun _ => 0)))] := hD
  refine W.widen (k := 5) (n := 1331072) (Nat.le_of_ble_eq_true rfl) (Nat.le_of_ble_eq_true rfl) ?_
  refine va_putF (D := (dC, dI)) (ci := 12) (v := .ref q_13) (ty := (.array .int)) (C := R_Mod) (T := T_Mod) (N := 76) hx hb hT in_Mod ty_Mod tyo_Mod nm_Mod hown hK hP hD hS 0 rfl rfl 14 (by decide) (hT _ vt_186) (fun _ h9 => h9) rfl hin rfl (by decide +kernel) rfl rfl (by rw [hz.1]; decide) d_Mod_init_91 (fun H locs hP hD hS => ?_)
  obtain ⟨fs_15, hfs_15⟩ : ∃ z, z = List.set fs_12 14 (.ref q_13) := ⟨_, rfl⟩
  have hP : va_P (dC, dI) classes [(h0, .inr (12, fs_15)), (q_1, .inl (cA_2, 65536, .inl (fun _ => 0))), (q_13, .inl (cA_14, 400000, .inl (fun _ => 0)))] H := by rw [hfs_15]; exact hP
  have hD : va_D A [(h0, .inr (12, fs_15)), (q_1, .inl (cA_2, 65536, .inl (fun _ => 0))), (q_13, .inl (cA_14, 400000, .inl (fun _ => 0)))] := by rw [hfs_15]; exact hD
  have htp : fs_15[0]? = some (.ref q_1) := by rw [hfs_15, List.getElem?_set_ne (by decide)]; exact htp
  have hz : Mz fs_15 := by rw [hfs_15]; exact hz.set (by decide)
  have hP := hP.sub (ws' := [(h0, .inr (12, fs_15)), (q_1, .inl (cA_2, 65536, .inl (fun _ => 0)))]) [0, 1] rfl
  have hD := hD.sub (ws' := [(h0, .inr (12, fs_15)), (q_1, .inl (cA_2, 65536, .inl (fun _ => 0)))]) [0, 1] (by decide) rfl
  have hK := hK.sub (tys' := [(cA_2, .byte)]) [0] rfl
  refine lv_aload_n hx hb d_Mod_init_94 rfl (lv_at hl 0 rfl) ?_
  refine lv_ldc (v := 400000) hx hb hown (hT _ vt_183) d_Mod_init_95 ?_
  refine va_newa (atype := .int) (ty := .int) (a0 := (400000, .inl (fun _ => 0))) hx hb (hT _ vt_3) rfl hK hP hD hS hA (fun _ => rfl) (by decide) (by decide) (by decide) (Nat.le_of_ble_eq_true rfl) (Nat.le_of_ble_eq_true rfl) d_Mod_init_97 (fun q_16 cA_17 H hK hP hD hS => ?_)
  have hK : va_K (dC, dI) classes [(cA_2, .byte), (cA_17, .int)] s := hK
  have hP : va_P (dC, dI) classes [(h0, .inr (12, fs_15)), (q_1, .inl (cA_2, 65536, .inl (fun _ => 0))), (q_16, .inl (cA_17, 400000, .inl (fun _ => 0)))] H := hP
  have hD : va_D A [(h0, .inr (12, fs_15)), (q_1, .inl (cA_2, 65536, .inl (fun _ => 0))), (q_16, .inl (cA_17, 400000, .inl (fun _ => 0)))] := hD
  refine W.widen (k := 6) (n := 1731072) (Nat.le_of_ble_eq_true rfl) (Nat.le_of_ble_eq_true rfl) ?_
  refine va_putF (D := (dC, dI)) (ci := 12) (v := .ref q_16) (ty := (.array .int)) (C := R_Mod) (T := T_Mod) (N := 76) hx hb hT in_Mod ty_Mod tyo_Mod nm_Mod hown hK hP hD hS 0 rfl rfl 15 (by decide) (hT _ vt_187) (fun _ h9 => h9) rfl hin rfl (by decide +kernel) rfl rfl (by rw [hz.1]; decide) d_Mod_init_99 (fun H locs hP hD hS => ?_)
  obtain ⟨fs_18, hfs_18⟩ : ∃ z, z = List.set fs_15 15 (.ref q_16) := ⟨_, rfl⟩
  have hP : va_P (dC, dI) classes [(h0, .inr (12, fs_18)), (q_1, .inl (cA_2, 65536, .inl (fun _ => 0))), (q_16, .inl (cA_17, 400000, .inl (fun _ => 0)))] H := by rw [hfs_18]; exact hP
  have hD : va_D A [(h0, .inr (12, fs_18)), (q_1, .inl (cA_2, 65536, .inl (fun _ => 0))), (q_16, .inl (cA_17, 400000, .inl (fun _ => 0)))] := by rw [hfs_18]; exact hD
  have htp : fs_18[0]? = some (.ref q_1) := by rw [hfs_18, List.getElem?_set_ne (by decide)]; exact htp
  have hz : Mz fs_18 := by rw [hfs_18]; exact hz.set (by decide)
  have hP := hP.sub (ws' := [(h0, .inr (12, fs_18)), (q_1, .inl (cA_2, 65536, .inl (fun _ => 0)))]) [0, 1] rfl
  have hD := hD.sub (ws' := [(h0, .inr (12, fs_18)), (q_1, .inl (cA_2, 65536, .inl (fun _ => 0)))]) [0, 1] (by decide) rfl
  have hK := hK.sub (tys' := [(cA_2, .byte)]) [0] rfl
  refine lv_aload_n hx hb d_Mod_init_102 rfl (lv_at hl 0 rfl) ?_
  refine lv_ldc (v := 400000) hx hb hown (hT _ vt_183) d_Mod_init_103 ?_
  refine va_newa (atype := .int) (ty := .int) (a0 := (400000, .inl (fun _ => 0))) hx hb (hT _ vt_3) rfl hK hP hD hS hA (fun _ => rfl) (by decide) (by decide) (by decide) (Nat.le_of_ble_eq_true rfl) (Nat.le_of_ble_eq_true rfl) d_Mod_init_105 (fun q_19 cA_20 H hK hP hD hS => ?_)
  have hK : va_K (dC, dI) classes [(cA_2, .byte), (cA_20, .int)] s := hK
  have hP : va_P (dC, dI) classes [(h0, .inr (12, fs_18)), (q_1, .inl (cA_2, 65536, .inl (fun _ => 0))), (q_19, .inl (cA_20, 400000, .inl (fun _ => 0)))] H := hP
  have hD : va_D A [(h0, .inr (12, fs_18)), (q_1, .inl (cA_2, 65536, .inl (fun _ => 0))), (q_19, .inl (cA_20, 400000, .inl (fun _ => 0)))] := hD
  refine W.widen (k := 7) (n := 2131072) (Nat.le_of_ble_eq_true rfl) (Nat.le_of_ble_eq_true rfl) ?_
  refine va_putF (D := (dC, dI)) (ci := 12) (v := .ref q_19) (ty := (.array .int)) (C := R_Mod) (T := T_Mod) (N := 76) hx hb hT in_Mod ty_Mod tyo_Mod nm_Mod hown hK hP hD hS 0 rfl rfl 16 (by decide) (hT _ vt_188) (fun _ h9 => h9) rfl hin rfl (by decide +kernel) rfl rfl (by rw [hz.1]; decide) d_Mod_init_107 (fun H locs hP hD hS => ?_)
  obtain ⟨fs_21, hfs_21⟩ : ∃ z, z = List.set fs_18 16 (.ref q_19) := ⟨_, rfl⟩
  have hP : va_P (dC, dI) classes [(h0, .inr (12, fs_21)), (q_1, .inl (cA_2, 65536, .inl (fun _ => 0))), (q_19, .inl (cA_20, 400000, .inl (fun _ => 0)))] H := by rw [hfs_21]; exact hP
  have hD : va_D A [(h0, .inr (12, fs_21)), (q_1, .inl (cA_2, 65536, .inl (fun _ => 0))), (q_19, .inl (cA_20, 400000, .inl (fun _ => 0)))] := by rw [hfs_21]; exact hD
  have htp : fs_21[0]? = some (.ref q_1) := by rw [hfs_21, List.getElem?_set_ne (by decide)]; exact htp
  have hz : Mz fs_21 := by rw [hfs_21]; exact hz.set (by decide)
  have hP := hP.sub (ws' := [(h0, .inr (12, fs_21)), (q_1, .inl (cA_2, 65536, .inl (fun _ => 0)))]) [0, 1] rfl
  have hD := hD.sub (ws' := [(h0, .inr (12, fs_21)), (q_1, .inl (cA_2, 65536, .inl (fun _ => 0)))]) [0, 1] (by decide) rfl
  have hK := hK.sub (tys' := [(cA_2, .byte)]) [0] rfl
  refine lv_aload_n hx hb d_Mod_init_110 rfl (lv_at hl 0 rfl) ?_
  refine lv_ldc (v := 400000) hx hb hown (hT _ vt_183) d_Mod_init_111 ?_
  refine va_newa (atype := .int) (ty := .int) (a0 := (400000, .inl (fun _ => 0))) hx hb (hT _ vt_3) rfl hK hP hD hS hA (fun _ => rfl) (by decide) (by decide) (by decide) (Nat.le_of_ble_eq_true rfl) (Nat.le_of_ble_eq_true rfl) d_Mod_init_113 (fun q_22 cA_23 H hK hP hD hS => ?_)
  have hK : va_K (dC, dI) classes [(cA_2, .byte), (cA_23, .int)] s := hK
  have hP : va_P (dC, dI) classes [(h0, .inr (12, fs_21)), (q_1, .inl (cA_2, 65536, .inl (fun _ => 0))), (q_22, .inl (cA_23, 400000, .inl (fun _ => 0)))] H := hP
  have hD : va_D A [(h0, .inr (12, fs_21)), (q_1, .inl (cA_2, 65536, .inl (fun _ => 0))), (q_22, .inl (cA_23, 400000, .inl (fun _ => 0)))] := hD
  refine W.widen (k := 8) (n := 2531072) (Nat.le_of_ble_eq_true rfl) (Nat.le_of_ble_eq_true rfl) ?_
  refine va_putF (D := (dC, dI)) (ci := 12) (v := .ref q_22) (ty := (.array .int)) (C := R_Mod) (T := T_Mod) (N := 76) hx hb hT in_Mod ty_Mod tyo_Mod nm_Mod hown hK hP hD hS 0 rfl rfl 17 (by decide) (hT _ vt_189) (fun _ h9 => h9) rfl hin rfl (by decide +kernel) rfl rfl (by rw [hz.1]; decide) d_Mod_init_115 (fun H locs hP hD hS => ?_)
  obtain ⟨fs_24, hfs_24⟩ : ∃ z, z = List.set fs_21 17 (.ref q_22) := ⟨_, rfl⟩
  have hP : va_P (dC, dI) classes [(h0, .inr (12, fs_24)), (q_1, .inl (cA_2, 65536, .inl (fun _ => 0))), (q_22, .inl (cA_23, 400000, .inl (fun _ => 0)))] H := by rw [hfs_24]; exact hP
  have hD : va_D A [(h0, .inr (12, fs_24)), (q_1, .inl (cA_2, 65536, .inl (fun _ => 0))), (q_22, .inl (cA_23, 400000, .inl (fun _ => 0)))] := by rw [hfs_24]; exact hD
  have htp : fs_24[0]? = some (.ref q_1) := by rw [hfs_24, List.getElem?_set_ne (by decide)]; exact htp
  have hz : Mz fs_24 := by rw [hfs_24]; exact hz.set (by decide)
  have hP := hP.sub (ws' := [(h0, .inr (12, fs_24)), (q_1, .inl (cA_2, 65536, .inl (fun _ => 0)))]) [0, 1] rfl
  have hD := hD.sub (ws' := [(h0, .inr (12, fs_24)), (q_1, .inl (cA_2, 65536, .inl (fun _ => 0)))]) [0, 1] (by decide) rfl
  have hK := hK.sub (tys' := [(cA_2, .byte)]) [0] rfl
  refine lv_aload_n hx hb d_Mod_init_118 rfl (lv_at hl 0 rfl) ?_
  refine lv_sipush (v := 32000) hx hb d_Mod_init_119 (by decide) ?_
  refine va_put (D := (dC, dI)) (ci := 12) (v := .int 32000) (ty := .int) (C := R_Mod) (T := T_Mod) (N := 76) hx hb hT in_Mod ty_Mod tyo_Mod nm_Mod hown hK hP hD hS 0 rfl rfl 18 (by decide) (hT _ vt_190) (fun _ h9 => h9) rfl (by decide +kernel) rfl rfl (by rw [hz.1]; decide) d_Mod_init_122 (fun H locs hP hD hS => ?_)
  obtain ⟨fs_25, hfs_25⟩ : ∃ z, z = List.set fs_24 18 (.int 32000) := ⟨_, rfl⟩
  have hP : va_P (dC, dI) classes [(h0, .inr (12, fs_25)), (q_1, .inl (cA_2, 65536, .inl (fun _ => 0)))] H := by rw [hfs_25]; exact hP
  have hD : va_D A [(h0, .inr (12, fs_25)), (q_1, .inl (cA_2, 65536, .inl (fun _ => 0)))] := by rw [hfs_25]; exact hD
  have htp : fs_25[0]? = some (.ref q_1) := by rw [hfs_25, List.getElem?_set_ne (by decide)]; exact htp
  have hz : Mz fs_25 := by rw [hfs_25]; exact hz.set (by decide)
  refine lv_aload_n hx hb d_Mod_init_125 rfl (lv_at hl 0 rfl) ?_
  refine lv_sipush (v := 8000) hx hb d_Mod_init_126 (by decide) ?_
  refine va_newa (atype := .int) (ty := .int) (a0 := (8000, .inl (fun _ => 0))) hx hb (hT _ vt_3) rfl hK hP hD hS hA (fun _ => rfl) (by decide) (by decide) (by decide) (Nat.le_of_ble_eq_true rfl) (Nat.le_of_ble_eq_true rfl) d_Mod_init_129 (fun q_26 cA_27 H hK hP hD hS => ?_)
  have hK : va_K (dC, dI) classes [(cA_2, .byte), (cA_27, .int)] s := hK
  have hP : va_P (dC, dI) classes [(h0, .inr (12, fs_25)), (q_1, .inl (cA_2, 65536, .inl (fun _ => 0))), (q_26, .inl (cA_27, 8000, .inl (fun _ => 0)))] H := hP
  have hD : va_D A [(h0, .inr (12, fs_25)), (q_1, .inl (cA_2, 65536, .inl (fun _ => 0))), (q_26, .inl (cA_27, 8000, .inl (fun _ => 0)))] := hD
  refine W.widen (k := 9) (n := 2539072) (Nat.le_of_ble_eq_true rfl) (Nat.le_of_ble_eq_true rfl) ?_
  refine va_putF (D := (dC, dI)) (ci := 12) (v := .ref q_26) (ty := (.array .int)) (C := R_Mod) (T := T_Mod) (N := 76) hx hb hT in_Mod ty_Mod tyo_Mod nm_Mod hown hK hP hD hS 0 rfl rfl 19 (by decide) (hT _ vt_191) (fun _ h9 => h9) rfl hin rfl (by decide +kernel) rfl rfl (by rw [hz.1]; decide) d_Mod_init_131 (fun H locs hP hD hS => ?_)
  obtain ⟨fs_28, hfs_28⟩ : ∃ z, z = List.set fs_25 19 (.ref q_26) := ⟨_, rfl⟩
  have hP : va_P (dC, dI) classes [(h0, .inr (12, fs_28)), (q_1, .inl (cA_2, 65536, .inl (fun _ => 0))), (q_26, .inl (cA_27, 8000, .inl (fun _ => 0)))] H := by rw [hfs_28]; exact hP
  have hD : va_D A [(h0, .inr (12, fs_28)), (q_1, .inl (cA_2, 65536, .inl (fun _ => 0))), (q_26, .inl (cA_27, 8000, .inl (fun _ => 0)))] := by rw [hfs_28]; exact hD
  have htp : fs_28[0]? = some (.ref q_1) := by rw [hfs_28, List.getElem?_set_ne (by decide)]; exact htp
  have hz : Mz fs_28 := by rw [hfs_28]; exact hz.set (by decide)
  have hP := hP.sub (ws' := [(h0, .inr (12, fs_28)), (q_1, .inl (cA_2, 65536, .inl (fun _ => 0)))]) [0, 1] rfl
  have hD := hD.sub (ws' := [(h0, .inr (12, fs_28)), (q_1, .inl (cA_2, 65536, .inl (fun _ => 0)))]) [0, 1] (by decide) rfl
  have hK := hK.sub (tys' := [(cA_2, .byte)]) [0] rfl
  refine lv_aload_n hx hb d_Mod_init_134 rfl (lv_at hl 0 rfl) ?_
  refine lv_iconst (v := 0) hx hb d_Mod_init_135 (by decide) ?_
  refine va_put (D := (dC, dI)) (ci := 12) (v := .int 0) (ty := .int) (C := R_Mod) (T := T_Mod) (N := 76) hx hb hT in_Mod ty_Mod tyo_Mod nm_Mod hown hK hP hD hS 0 rfl rfl 20 (by decide) (hT _ vt_192) (fun _ h9 => h9) rfl (by decide +kernel) rfl rfl (by rw [hz.1]; decide) d_Mod_init_136 (fun H locs hP hD hS => ?_)
  have hP : va_P (dC, dI) classes [(h0, .inr (12, fs_28)), (q_1, .inl (cA_2, 65536, .inl (fun _ => 0)))] H := by rw [← hz.set0 (k := 20) (by decide)]; exact hP
  have hD : va_D A [(h0, .inr (12, fs_28)), (q_1, .inl (cA_2, 65536, .inl (fun _ => 0)))] := by rw [← hz.set0 (k := 20) (by decide)]; exact hD
  refine lv_aload_n hx hb d_Mod_init_139 rfl (lv_at hl 0 rfl) ?_
  refine lv_iconst (v := 0) hx hb d_Mod_init_140 (by decide) ?_
  refine va_put (D := (dC, dI)) (ci := 12) (v := .int 0) (ty := .int) (C := R_Mod) (T := T_Mod) (N := 76) hx hb hT in_Mod ty_Mod tyo_Mod nm_Mod hown hK hP hD hS 0 rfl rfl 21 (by decide) (hT _ vt_193) (fun _ h9 => h9) rfl (by decide +kernel) rfl rfl (by rw [hz.1]; decide) d_Mod_init_141 (fun H locs hP hD hS => ?_)
  have hP : va_P (dC, dI) classes [(h0, .inr (12, fs_28)), (q_1, .inl (cA_2, 65536, .inl (fun _ => 0)))] H := by rw [← hz.set0 (k := 21) (by decide)]; exact hP
  have hD : va_D A [(h0, .inr (12, fs_28)), (q_1, .inl (cA_2, 65536, .inl (fun _ => 0)))] := by rw [← hz.set0 (k := 21) (by decide)]; exact hD
  refine lv_aload_n hx hb d_Mod_init_144 rfl (lv_at hl 0 rfl) ?_
  refine lv_iconst (v := 0) hx hb d_Mod_init_145 (by decide) ?_
  refine va_put (D := (dC, dI)) (ci := 12) (v := .int 0) (ty := .int) (C := R_Mod) (T := T_Mod) (N := 76) hx hb hT in_Mod ty_Mod tyo_Mod nm_Mod hown hK hP hD hS 0 rfl rfl 22 (by decide) (hT _ vt_194) (fun _ h9 => h9) rfl (by decide +kernel) rfl rfl (by rw [hz.1]; decide) d_Mod_init_146 (fun H locs hP hD hS => ?_)
  have hP : va_P (dC, dI) classes [(h0, .inr (12, fs_28)), (q_1, .inl (cA_2, 65536, .inl (fun _ => 0)))] H := by rw [← hz.set0 (k := 22) (by decide)]; exact hP
  have hD : va_D A [(h0, .inr (12, fs_28)), (q_1, .inl (cA_2, 65536, .inl (fun _ => 0)))] := by rw [← hz.set0 (k := 22) (by decide)]; exact hD
  refine lv_aload_n hx hb d_Mod_init_149 rfl (lv_at hl 0 rfl) ?_
  refine lv_iconst (v := 0) hx hb d_Mod_init_150 (by decide) ?_
  refine va_put (D := (dC, dI)) (ci := 12) (v := .int 0) (ty := .int) (C := R_Mod) (T := T_Mod) (N := 76) hx hb hT in_Mod ty_Mod tyo_Mod nm_Mod hown hK hP hD hS 0 rfl rfl 23 (by decide) (hT _ vt_195) (fun _ h9 => h9) rfl (by decide +kernel) rfl rfl (by rw [hz.1]; decide) d_Mod_init_151 (fun H locs hP hD hS => ?_)
  have hP : va_P (dC, dI) classes [(h0, .inr (12, fs_28)), (q_1, .inl (cA_2, 65536, .inl (fun _ => 0)))] H := by rw [← hz.set0 (k := 23) (by decide)]; exact hP
  have hD : va_D A [(h0, .inr (12, fs_28)), (q_1, .inl (cA_2, 65536, .inl (fun _ => 0)))] := by rw [← hz.set0 (k := 23) (by decide)]; exact hD
  refine lv_aload_n hx hb d_Mod_init_154 rfl (lv_at hl 0 rfl) ?_
  refine lv_sipush (v := 9400) hx hb d_Mod_init_155 (by decide) ?_
  refine va_newa (atype := .byte) (ty := .byte) (a0 := (9400, .inl (fun _ => 0))) hx hb (hT _ vt_170) rfl hK hP hD hS hA (fun _ => rfl) (by decide) (by decide) (by decide) (Nat.le_of_ble_eq_true rfl) (Nat.le_of_ble_eq_true rfl) d_Mod_init_158 (fun q_29 cA_30 H hK hP hD hS => ?_)
  have hK : va_K (dC, dI) classes [(cA_2, .byte), (cA_30, .byte)] s := hK
  have hP : va_P (dC, dI) classes [(h0, .inr (12, fs_28)), (q_1, .inl (cA_2, 65536, .inl (fun _ => 0))), (q_29, .inl (cA_30, 9400, .inl (fun _ => 0)))] H := hP
  have hD : va_D A [(h0, .inr (12, fs_28)), (q_1, .inl (cA_2, 65536, .inl (fun _ => 0))), (q_29, .inl (cA_30, 9400, .inl (fun _ => 0)))] := hD
  refine W.widen (k := 10) (n := 2548472) (Nat.le_of_ble_eq_true rfl) (Nat.le_of_ble_eq_true rfl) ?_
  refine va_putF (D := (dC, dI)) (ci := 12) (v := .ref q_29) (ty := (.array .byte)) (C := R_Mod) (T := T_Mod) (N := 76) hx hb hT in_Mod ty_Mod tyo_Mod nm_Mod hown hK hP hD hS 0 rfl rfl 24 (by decide) (hT _ vt_196) (fun _ h9 => h9) rfl hin rfl (by decide +kernel) rfl rfl (by rw [hz.1]; decide) d_Mod_init_160 (fun H locs hP hD hS => ?_)
  obtain ⟨fs_31, hfs_31⟩ : ∃ z, z = List.set fs_28 24 (.ref q_29) := ⟨_, rfl⟩
  have hP : va_P (dC, dI) classes [(h0, .inr (12, fs_31)), (q_1, .inl (cA_2, 65536, .inl (fun _ => 0))), (q_29, .inl (cA_30, 9400, .inl (fun _ => 0)))] H := by rw [hfs_31]; exact hP
  have hD : va_D A [(h0, .inr (12, fs_31)), (q_1, .inl (cA_2, 65536, .inl (fun _ => 0))), (q_29, .inl (cA_30, 9400, .inl (fun _ => 0)))] := by rw [hfs_31]; exact hD
  have htp : fs_31[0]? = some (.ref q_1) := by rw [hfs_31, List.getElem?_set_ne (by decide)]; exact htp
  have hz : Mz fs_31 := by rw [hfs_31]; exact hz.set (by decide)
  have hP := hP.sub (ws' := [(h0, .inr (12, fs_31)), (q_1, .inl (cA_2, 65536, .inl (fun _ => 0)))]) [0, 1] rfl
  have hD := hD.sub (ws' := [(h0, .inr (12, fs_31)), (q_1, .inl (cA_2, 65536, .inl (fun _ => 0)))]) [0, 1] (by decide) rfl
  have hK := hK.sub (tys' := [(cA_2, .byte)]) [0] rfl
  refine lv_aload_n hx hb d_Mod_init_163 rfl (lv_at hl 0 rfl) ?_
  refine lv_sipush (v := 301) hx hb d_Mod_init_164 (by decide) ?_
  refine va_newa (atype := .int) (ty := .int) (a0 := (301, .inl (fun _ => 0))) hx hb (hT _ vt_3) rfl hK hP hD hS hA (fun _ => rfl) (by decide) (by decide) (by decide) (Nat.le_of_ble_eq_true rfl) (Nat.le_of_ble_eq_true rfl) d_Mod_init_167 (fun q_32 cA_33 H hK hP hD hS => ?_)
  have hK : va_K (dC, dI) classes [(cA_2, .byte), (cA_33, .int)] s := hK
  have hP : va_P (dC, dI) classes [(h0, .inr (12, fs_31)), (q_1, .inl (cA_2, 65536, .inl (fun _ => 0))), (q_32, .inl (cA_33, 301, .inl (fun _ => 0)))] H := hP
  have hD : va_D A [(h0, .inr (12, fs_31)), (q_1, .inl (cA_2, 65536, .inl (fun _ => 0))), (q_32, .inl (cA_33, 301, .inl (fun _ => 0)))] := hD
  refine W.widen (k := 11) (n := 2548773) (Nat.le_of_ble_eq_true rfl) (Nat.le_of_ble_eq_true rfl) ?_
  refine va_putF (D := (dC, dI)) (ci := 12) (v := .ref q_32) (ty := (.array .int)) (C := R_Mod) (T := T_Mod) (N := 76) hx hb hT in_Mod ty_Mod tyo_Mod nm_Mod hown hK hP hD hS 0 rfl rfl 25 (by decide) (hT _ vt_197) (fun _ h9 => h9) rfl hin rfl (by decide +kernel) rfl rfl (by rw [hz.1]; decide) d_Mod_init_169 (fun H locs hP hD hS => ?_)
  obtain ⟨fs_34, hfs_34⟩ : ∃ z, z = List.set fs_31 25 (.ref q_32) := ⟨_, rfl⟩
  have hP : va_P (dC, dI) classes [(h0, .inr (12, fs_34)), (q_1, .inl (cA_2, 65536, .inl (fun _ => 0))), (q_32, .inl (cA_33, 301, .inl (fun _ => 0)))] H := by rw [hfs_34]; exact hP
  have hD : va_D A [(h0, .inr (12, fs_34)), (q_1, .inl (cA_2, 65536, .inl (fun _ => 0))), (q_32, .inl (cA_33, 301, .inl (fun _ => 0)))] := by rw [hfs_34]; exact hD
  have htp : fs_34[0]? = some (.ref q_1) := by rw [hfs_34, List.getElem?_set_ne (by decide)]; exact htp
  have hz : Mz fs_34 := by rw [hfs_34]; exact hz.set (by decide)
  have hP := hP.sub (ws' := [(h0, .inr (12, fs_34)), (q_1, .inl (cA_2, 65536, .inl (fun _ => 0)))]) [0, 1] rfl
  have hD := hD.sub (ws' := [(h0, .inr (12, fs_34)), (q_1, .inl (cA_2, 65536, .inl (fun _ => 0)))]) [0, 1] (by decide) rfl
  have hK := hK.sub (tys' := [(cA_2, .byte)]) [0] rfl
  refine lv_aload_n hx hb d_Mod_init_172 rfl (lv_at hl 0 rfl) ?_
  refine lv_sipush (v := 301) hx hb d_Mod_init_173 (by decide) ?_
  refine va_newa (atype := .int) (ty := .int) (a0 := (301, .inl (fun _ => 0))) hx hb (hT _ vt_3) rfl hK hP hD hS hA (fun _ => rfl) (by decide) (by decide) (by decide) (Nat.le_of_ble_eq_true rfl) (Nat.le_of_ble_eq_true rfl) d_Mod_init_176 (fun q_35 cA_36 H hK hP hD hS => ?_)
  have hK : va_K (dC, dI) classes [(cA_2, .byte), (cA_36, .int)] s := hK
  have hP : va_P (dC, dI) classes [(h0, .inr (12, fs_34)), (q_1, .inl (cA_2, 65536, .inl (fun _ => 0))), (q_35, .inl (cA_36, 301, .inl (fun _ => 0)))] H := hP
  have hD : va_D A [(h0, .inr (12, fs_34)), (q_1, .inl (cA_2, 65536, .inl (fun _ => 0))), (q_35, .inl (cA_36, 301, .inl (fun _ => 0)))] := hD
  refine W.widen (k := 12) (n := 2549074) (Nat.le_of_ble_eq_true rfl) (Nat.le_of_ble_eq_true rfl) ?_
  refine va_putF (D := (dC, dI)) (ci := 12) (v := .ref q_35) (ty := (.array .int)) (C := R_Mod) (T := T_Mod) (N := 76) hx hb hT in_Mod ty_Mod tyo_Mod nm_Mod hown hK hP hD hS 0 rfl rfl 26 (by decide) (hT _ vt_198) (fun _ h9 => h9) rfl hin rfl (by decide +kernel) rfl rfl (by rw [hz.1]; decide) d_Mod_init_178 (fun H locs hP hD hS => ?_)
  obtain ⟨fs_37, hfs_37⟩ : ∃ z, z = List.set fs_34 26 (.ref q_35) := ⟨_, rfl⟩
  have hP : va_P (dC, dI) classes [(h0, .inr (12, fs_37)), (q_1, .inl (cA_2, 65536, .inl (fun _ => 0))), (q_35, .inl (cA_36, 301, .inl (fun _ => 0)))] H := by rw [hfs_37]; exact hP
  have hD : va_D A [(h0, .inr (12, fs_37)), (q_1, .inl (cA_2, 65536, .inl (fun _ => 0))), (q_35, .inl (cA_36, 301, .inl (fun _ => 0)))] := by rw [hfs_37]; exact hD
  have htp : fs_37[0]? = some (.ref q_1) := by rw [hfs_37, List.getElem?_set_ne (by decide)]; exact htp
  have hz : Mz fs_37 := by rw [hfs_37]; exact hz.set (by decide)
  have hP := hP.sub (ws' := [(h0, .inr (12, fs_37)), (q_1, .inl (cA_2, 65536, .inl (fun _ => 0)))]) [0, 1] rfl
  have hD := hD.sub (ws' := [(h0, .inr (12, fs_37)), (q_1, .inl (cA_2, 65536, .inl (fun _ => 0)))]) [0, 1] (by decide) rfl
  have hK := hK.sub (tys' := [(cA_2, .byte)]) [0] rfl
  refine lv_aload_n hx hb d_Mod_init_181 rfl (lv_at hl 0 rfl) ?_
  refine lv_iconst (v := 0) hx hb d_Mod_init_182 (by decide) ?_
  refine va_put (D := (dC, dI)) (ci := 12) (v := .int 0) (ty := .int) (C := R_Mod) (T := T_Mod) (N := 76) hx hb hT in_Mod ty_Mod tyo_Mod nm_Mod hown hK hP hD hS 0 rfl rfl 27 (by decide) (hT _ vt_199) (fun _ h9 => h9) rfl (by decide +kernel) rfl rfl (by rw [hz.1]; decide) d_Mod_init_183 (fun H locs hP hD hS => ?_)
  have hP : va_P (dC, dI) classes [(h0, .inr (12, fs_37)), (q_1, .inl (cA_2, 65536, .inl (fun _ => 0)))] H := by rw [← hz.set0 (k := 27) (by decide)]; exact hP
  have hD : va_D A [(h0, .inr (12, fs_37)), (q_1, .inl (cA_2, 65536, .inl (fun _ => 0)))] := by rw [← hz.set0 (k := 27) (by decide)]; exact hD
  refine lv_aload_n hx hb d_Mod_init_186 rfl (lv_at hl 0 rfl) ?_
  refine lv_iconst (v := 0) hx hb d_Mod_init_187 (by decide) ?_
  refine va_put (D := (dC, dI)) (ci := 12) (v := .int 0) (ty := .int) (C := R_Mod) (T := T_Mod) (N := 76) hx hb hT in_Mod ty_Mod tyo_Mod nm_Mod hown hK hP hD hS 0 rfl rfl 28 (by decide) (hT _ vt_200) (fun _ h9 => h9) rfl (by decide +kernel) rfl rfl (by rw [hz.1]; decide) d_Mod_init_188 (fun H locs hP hD hS => ?_)
  have hP : va_P (dC, dI) classes [(h0, .inr (12, fs_37)), (q_1, .inl (cA_2, 65536, .inl (fun _ => 0)))] H := by rw [← hz.set0 (k := 28) (by decide)]; exact hP
  have hD : va_D A [(h0, .inr (12, fs_37)), (q_1, .inl (cA_2, 65536, .inl (fun _ => 0)))] := by rw [← hz.set0 (k := 28) (by decide)]; exact hD
  refine lv_aload_n hx hb d_Mod_init_191 rfl (lv_at hl 0 rfl) ?_
  refine lv_sipush (v := 301) hx hb d_Mod_init_192 (by decide) ?_
  refine va_newa (atype := .int) (ty := .int) (a0 := (301, .inl (fun _ => 0))) hx hb (hT _ vt_3) rfl hK hP hD hS hA (fun _ => rfl) (by decide) (by decide) (by decide) (Nat.le_of_ble_eq_true rfl) (Nat.le_of_ble_eq_true rfl) d_Mod_init_195 (fun q_38 cA_39 H hK hP hD hS => ?_)
  have hK : va_K (dC, dI) classes [(cA_2, .byte), (cA_39, .int)] s := hK
  have hP : va_P (dC, dI) classes [(h0, .inr (12, fs_37)), (q_1, .inl (cA_2, 65536, .inl (fun _ => 0))), (q_38, .inl (cA_39, 301, .inl (fun _ => 0)))] H := hP
  have hD : va_D A [(h0, .inr (12, fs_37)), (q_1, .inl (cA_2, 65536, .inl (fun _ => 0))), (q_38, .inl (cA_39, 301, .inl (fun _ => 0)))] := hD
  refine W.widen (k := 13) (n := 2549375) (Nat.le_of_ble_eq_true rfl) (Nat.le_of_ble_eq_true rfl) ?_
  refine va_putF (D := (dC, dI)) (ci := 12) (v := .ref q_38) (ty := (.array .int)) (C := R_Mod) (T := T_Mod) (N := 76) hx hb hT in_Mod ty_Mod tyo_Mod nm_Mod hown hK hP hD hS 0 rfl rfl 29 (by decide) (hT _ vt_201) (fun _ h9 => h9) rfl hin rfl (by decide +kernel) rfl rfl (by rw [hz.1]; decide) d_Mod_init_197 (fun H locs hP hD hS => ?_)
  obtain ⟨fs_40, hfs_40⟩ : ∃ z, z = List.set fs_37 29 (.ref q_38) := ⟨_, rfl⟩
  have hP : va_P (dC, dI) classes [(h0, .inr (12, fs_40)), (q_1, .inl (cA_2, 65536, .inl (fun _ => 0))), (q_38, .inl (cA_39, 301, .inl (fun _ => 0)))] H := by rw [hfs_40]; exact hP
  have hD : va_D A [(h0, .inr (12, fs_40)), (q_1, .inl (cA_2, 65536, .inl (fun _ => 0))), (q_38, .inl (cA_39, 301, .inl (fun _ => 0)))] := by rw [hfs_40]; exact hD
  have htp : fs_40[0]? = some (.ref q_1) := by rw [hfs_40, List.getElem?_set_ne (by decide)]; exact htp
  have hz : Mz fs_40 := by rw [hfs_40]; exact hz.set (by decide)
  have hP := hP.sub (ws' := [(h0, .inr (12, fs_40)), (q_1, .inl (cA_2, 65536, .inl (fun _ => 0)))]) [0, 1] rfl
  have hD := hD.sub (ws' := [(h0, .inr (12, fs_40)), (q_1, .inl (cA_2, 65536, .inl (fun _ => 0)))]) [0, 1] (by decide) rfl
  have hK := hK.sub (tys' := [(cA_2, .byte)]) [0] rfl
  refine lv_aload_n hx hb d_Mod_init_200 rfl (lv_at hl 0 rfl) ?_
  refine lv_sipush (v := 301) hx hb d_Mod_init_201 (by decide) ?_
  refine va_newa (atype := .int) (ty := .int) (a0 := (301, .inl (fun _ => 0))) hx hb (hT _ vt_3) rfl hK hP hD hS hA (fun _ => rfl) (by decide) (by decide) (by decide) (Nat.le_of_ble_eq_true rfl) (Nat.le_of_ble_eq_true rfl) d_Mod_init_204 (fun q_41 cA_42 H hK hP hD hS => ?_)
  have hK : va_K (dC, dI) classes [(cA_2, .byte), (cA_42, .int)] s := hK
  have hP : va_P (dC, dI) classes [(h0, .inr (12, fs_40)), (q_1, .inl (cA_2, 65536, .inl (fun _ => 0))), (q_41, .inl (cA_42, 301, .inl (fun _ => 0)))] H := hP
  have hD : va_D A [(h0, .inr (12, fs_40)), (q_1, .inl (cA_2, 65536, .inl (fun _ => 0))), (q_41, .inl (cA_42, 301, .inl (fun _ => 0)))] := hD
  refine W.widen (k := 14) (n := 2549676) (Nat.le_of_ble_eq_true rfl) (Nat.le_of_ble_eq_true rfl) ?_
  refine va_putF (D := (dC, dI)) (ci := 12) (v := .ref q_41) (ty := (.array .int)) (C := R_Mod) (T := T_Mod) (N := 76) hx hb hT in_Mod ty_Mod tyo_Mod nm_Mod hown hK hP hD hS 0 rfl rfl 30 (by decide) (hT _ vt_202) (fun _ h9 => h9) rfl hin rfl (by decide +kernel) rfl rfl (by rw [hz.1]; decide) d_Mod_init_206 (fun H locs hP hD hS => ?_)
  obtain ⟨fs_43, hfs_43⟩ : ∃ z, z = List.set fs_40 30 (.ref q_41) := ⟨_, rfl⟩
  have hP : va_P (dC, dI) classes [(h0, .inr (12, fs_43)), (q_1, .inl (cA_2, 65536, .inl (fun _ => 0))), (q_41, .inl (cA_42, 301, .inl (fun _ => 0)))] H := by rw [hfs_43]; exact hP
  have hD : va_D A [(h0, .inr (12, fs_43)), (q_1, .inl (cA_2, 65536, .inl (fun _ => 0))), (q_41, .inl (cA_42, 301, .inl (fun _ => 0)))] := by rw [hfs_43]; exact hD
  have htp : fs_43[0]? = some (.ref q_1) := by rw [hfs_43, List.getElem?_set_ne (by decide)]; exact htp
  have hz : Mz fs_43 := by rw [hfs_43]; exact hz.set (by decide)
  have hP := hP.sub (ws' := [(h0, .inr (12, fs_43)), (q_1, .inl (cA_2, 65536, .inl (fun _ => 0)))]) [0, 1] rfl
  have hD := hD.sub (ws' := [(h0, .inr (12, fs_43)), (q_1, .inl (cA_2, 65536, .inl (fun _ => 0)))]) [0, 1] (by decide) rfl
  have hK := hK.sub (tys' := [(cA_2, .byte)]) [0] rfl
  refine lv_aload_n hx hb d_Mod_init_209 rfl (lv_at hl 0 rfl) ?_
  refine lv_sipush (v := 301) hx hb d_Mod_init_210 (by decide) ?_
  refine va_newa (atype := .int) (ty := .int) (a0 := (301, .inl (fun _ => 0))) hx hb (hT _ vt_3) rfl hK hP hD hS hA (fun _ => rfl) (by decide) (by decide) (by decide) (Nat.le_of_ble_eq_true rfl) (Nat.le_of_ble_eq_true rfl) d_Mod_init_213 (fun q_44 cA_45 H hK hP hD hS => ?_)
  have hK : va_K (dC, dI) classes [(cA_2, .byte), (cA_45, .int)] s := hK
  have hP : va_P (dC, dI) classes [(h0, .inr (12, fs_43)), (q_1, .inl (cA_2, 65536, .inl (fun _ => 0))), (q_44, .inl (cA_45, 301, .inl (fun _ => 0)))] H := hP
  have hD : va_D A [(h0, .inr (12, fs_43)), (q_1, .inl (cA_2, 65536, .inl (fun _ => 0))), (q_44, .inl (cA_45, 301, .inl (fun _ => 0)))] := hD
  refine W.widen (k := 15) (n := 2549977) (Nat.le_of_ble_eq_true rfl) (Nat.le_of_ble_eq_true rfl) ?_
  refine va_putF (D := (dC, dI)) (ci := 12) (v := .ref q_44) (ty := (.array .int)) (C := R_Mod) (T := T_Mod) (N := 76) hx hb hT in_Mod ty_Mod tyo_Mod nm_Mod hown hK hP hD hS 0 rfl rfl 31 (by decide) (hT _ vt_203) (fun _ h9 => h9) rfl hin rfl (by decide +kernel) rfl rfl (by rw [hz.1]; decide) d_Mod_init_215 (fun H locs hP hD hS => ?_)
  obtain ⟨fs_46, hfs_46⟩ : ∃ z, z = List.set fs_43 31 (.ref q_44) := ⟨_, rfl⟩
  have hP : va_P (dC, dI) classes [(h0, .inr (12, fs_46)), (q_1, .inl (cA_2, 65536, .inl (fun _ => 0))), (q_44, .inl (cA_45, 301, .inl (fun _ => 0)))] H := by rw [hfs_46]; exact hP
  have hD : va_D A [(h0, .inr (12, fs_46)), (q_1, .inl (cA_2, 65536, .inl (fun _ => 0))), (q_44, .inl (cA_45, 301, .inl (fun _ => 0)))] := by rw [hfs_46]; exact hD
  have htp : fs_46[0]? = some (.ref q_1) := by rw [hfs_46, List.getElem?_set_ne (by decide)]; exact htp
  have hz : Mz fs_46 := by rw [hfs_46]; exact hz.set (by decide)
  have hP := hP.sub (ws' := [(h0, .inr (12, fs_46)), (q_1, .inl (cA_2, 65536, .inl (fun _ => 0)))]) [0, 1] rfl
  have hD := hD.sub (ws' := [(h0, .inr (12, fs_46)), (q_1, .inl (cA_2, 65536, .inl (fun _ => 0)))]) [0, 1] (by decide) rfl
  have hK := hK.sub (tys' := [(cA_2, .byte)]) [0] rfl
  refine lv_aload_n hx hb d_Mod_init_218 rfl (lv_at hl 0 rfl) ?_
  refine lv_sipush (v := 301) hx hb d_Mod_init_219 (by decide) ?_
  refine va_newa (atype := .int) (ty := .int) (a0 := (301, .inl (fun _ => 0))) hx hb (hT _ vt_3) rfl hK hP hD hS hA (fun _ => rfl) (by decide) (by decide) (by decide) (Nat.le_of_ble_eq_true rfl) (Nat.le_of_ble_eq_true rfl) d_Mod_init_222 (fun q_47 cA_48 H hK hP hD hS => ?_)
  have hK : va_K (dC, dI) classes [(cA_2, .byte), (cA_48, .int)] s := hK
  have hP : va_P (dC, dI) classes [(h0, .inr (12, fs_46)), (q_1, .inl (cA_2, 65536, .inl (fun _ => 0))), (q_47, .inl (cA_48, 301, .inl (fun _ => 0)))] H := hP
  have hD : va_D A [(h0, .inr (12, fs_46)), (q_1, .inl (cA_2, 65536, .inl (fun _ => 0))), (q_47, .inl (cA_48, 301, .inl (fun _ => 0)))] := hD
  refine W.widen (k := 16) (n := 2550278) (Nat.le_of_ble_eq_true rfl) (Nat.le_of_ble_eq_true rfl) ?_
  refine va_putF (D := (dC, dI)) (ci := 12) (v := .ref q_47) (ty := (.array .int)) (C := R_Mod) (T := T_Mod) (N := 76) hx hb hT in_Mod ty_Mod tyo_Mod nm_Mod hown hK hP hD hS 0 rfl rfl 32 (by decide) (hT _ vt_204) (fun _ h9 => h9) rfl hin rfl (by decide +kernel) rfl rfl (by rw [hz.1]; decide) d_Mod_init_224 (fun H locs hP hD hS => ?_)
  obtain ⟨fs_49, hfs_49⟩ : ∃ z, z = List.set fs_46 32 (.ref q_47) := ⟨_, rfl⟩
  have hP : va_P (dC, dI) classes [(h0, .inr (12, fs_49)), (q_1, .inl (cA_2, 65536, .inl (fun _ => 0))), (q_47, .inl (cA_48, 301, .inl (fun _ => 0)))] H := by rw [hfs_49]; exact hP
  have hD : va_D A [(h0, .inr (12, fs_49)), (q_1, .inl (cA_2, 65536, .inl (fun _ => 0))), (q_47, .inl (cA_48, 301, .inl (fun _ => 0)))] := by rw [hfs_49]; exact hD
  have htp : fs_49[0]? = some (.ref q_1) := by rw [hfs_49, List.getElem?_set_ne (by decide)]; exact htp
  have hz : Mz fs_49 := by rw [hfs_49]; exact hz.set (by decide)
  have hP := hP.sub (ws' := [(h0, .inr (12, fs_49)), (q_1, .inl (cA_2, 65536, .inl (fun _ => 0)))]) [0, 1] rfl
  have hD := hD.sub (ws' := [(h0, .inr (12, fs_49)), (q_1, .inl (cA_2, 65536, .inl (fun _ => 0)))]) [0, 1] (by decide) rfl
  have hK := hK.sub (tys' := [(cA_2, .byte)]) [0] rfl
  refine lv_aload_n hx hb d_Mod_init_227 rfl (lv_at hl 0 rfl) ?_
  refine lv_sipush (v := 301) hx hb d_Mod_init_228 (by decide) ?_
  refine va_newa (atype := .int) (ty := .int) (a0 := (301, .inl (fun _ => 0))) hx hb (hT _ vt_3) rfl hK hP hD hS hA (fun _ => rfl) (by decide) (by decide) (by decide) (Nat.le_of_ble_eq_true rfl) (Nat.le_of_ble_eq_true rfl) d_Mod_init_231 (fun q_50 cA_51 H hK hP hD hS => ?_)
  have hK : va_K (dC, dI) classes [(cA_2, .byte), (cA_51, .int)] s := hK
  have hP : va_P (dC, dI) classes [(h0, .inr (12, fs_49)), (q_1, .inl (cA_2, 65536, .inl (fun _ => 0))), (q_50, .inl (cA_51, 301, .inl (fun _ => 0)))] H := hP
  have hD : va_D A [(h0, .inr (12, fs_49)), (q_1, .inl (cA_2, 65536, .inl (fun _ => 0))), (q_50, .inl (cA_51, 301, .inl (fun _ => 0)))] := hD
  refine W.widen (k := 17) (n := 2550579) (Nat.le_of_ble_eq_true rfl) (Nat.le_of_ble_eq_true rfl) ?_
  refine va_putF (D := (dC, dI)) (ci := 12) (v := .ref q_50) (ty := (.array .int)) (C := R_Mod) (T := T_Mod) (N := 76) hx hb hT in_Mod ty_Mod tyo_Mod nm_Mod hown hK hP hD hS 0 rfl rfl 33 (by decide) (hT _ vt_205) (fun _ h9 => h9) rfl hin rfl (by decide +kernel) rfl rfl (by rw [hz.1]; decide) d_Mod_init_233 (fun H locs hP hD hS => ?_)
  obtain ⟨fs_52, hfs_52⟩ : ∃ z, z = List.set fs_49 33 (.ref q_50) := ⟨_, rfl⟩
  have hP : va_P (dC, dI) classes [(h0, .inr (12, fs_52)), (q_1, .inl (cA_2, 65536, .inl (fun _ => 0))), (q_50, .inl (cA_51, 301, .inl (fun _ => 0)))] H := by rw [hfs_52]; exact hP
  have hD : va_D A [(h0, .inr (12, fs_52)), (q_1, .inl (cA_2, 65536, .inl (fun _ => 0))), (q_50, .inl (cA_51, 301, .inl (fun _ => 0)))] := by rw [hfs_52]; exact hD
  have htp : fs_52[0]? = some (.ref q_1) := by rw [hfs_52, List.getElem?_set_ne (by decide)]; exact htp
  have hz : Mz fs_52 := by rw [hfs_52]; exact hz.set (by decide)
  have hP := hP.sub (ws' := [(h0, .inr (12, fs_52)), (q_1, .inl (cA_2, 65536, .inl (fun _ => 0)))]) [0, 1] rfl
  have hD := hD.sub (ws' := [(h0, .inr (12, fs_52)), (q_1, .inl (cA_2, 65536, .inl (fun _ => 0)))]) [0, 1] (by decide) rfl
  have hK := hK.sub (tys' := [(cA_2, .byte)]) [0] rfl
  refine lv_aload_n hx hb d_Mod_init_236 rfl (lv_at hl 0 rfl) ?_
  refine lv_sipush (v := 301) hx hb d_Mod_init_237 (by decide) ?_
  refine va_newa (atype := .int) (ty := .int) (a0 := (301, .inl (fun _ => 0))) hx hb (hT _ vt_3) rfl hK hP hD hS hA (fun _ => rfl) (by decide) (by decide) (by decide) (Nat.le_of_ble_eq_true rfl) (Nat.le_of_ble_eq_true rfl) d_Mod_init_240 (fun q_53 cA_54 H hK hP hD hS => ?_)
  have hK : va_K (dC, dI) classes [(cA_2, .byte), (cA_54, .int)] s := hK
  have hP : va_P (dC, dI) classes [(h0, .inr (12, fs_52)), (q_1, .inl (cA_2, 65536, .inl (fun _ => 0))), (q_53, .inl (cA_54, 301, .inl (fun _ => 0)))] H := hP
  have hD : va_D A [(h0, .inr (12, fs_52)), (q_1, .inl (cA_2, 65536, .inl (fun _ => 0))), (q_53, .inl (cA_54, 301, .inl (fun _ => 0)))] := hD
  refine W.widen (k := 18) (n := 2550880) (Nat.le_of_ble_eq_true rfl) (Nat.le_of_ble_eq_true rfl) ?_
  refine va_putF (D := (dC, dI)) (ci := 12) (v := .ref q_53) (ty := (.array .int)) (C := R_Mod) (T := T_Mod) (N := 76) hx hb hT in_Mod ty_Mod tyo_Mod nm_Mod hown hK hP hD hS 0 rfl rfl 34 (by decide) (hT _ vt_206) (fun _ h9 => h9) rfl hin rfl (by decide +kernel) rfl rfl (by rw [hz.1]; decide) d_Mod_init_242 (fun H locs hP hD hS => ?_)
  obtain ⟨fs_55, hfs_55⟩ : ∃ z, z = List.set fs_52 34 (.ref q_53) := ⟨_, rfl⟩
  have hP : va_P (dC, dI) classes [(h0, .inr (12, fs_55)), (q_1, .inl (cA_2, 65536, .inl (fun _ => 0))), (q_53, .inl (cA_54, 301, .inl (fun _ => 0)))] H := by rw [hfs_55]; exact hP
  have hD : va_D A [(h0, .inr (12, fs_55)), (q_1, .inl (cA_2, 65536, .inl (fun _ => 0))), (q_53, .inl (cA_54, 301, .inl (fun _ => 0)))] := by rw [hfs_55]; exact hD
  have htp : fs_55[0]? = some (.ref q_1) := by rw [hfs_55, List.getElem?_set_ne (by decide)]; exact htp
  have hz : Mz fs_55 := by rw [hfs_55]; exact hz.set (by decide)
  have hP := hP.sub (ws' := [(h0, .inr (12, fs_55)), (q_1, .inl (cA_2, 65536, .inl (fun _ => 0)))]) [0, 1] rfl
  have hD := hD.sub (ws' := [(h0, .inr (12, fs_55)), (q_1, .inl (cA_2, 65536, .inl (fun _ => 0)))]) [0, 1] (by decide) rfl
  have hK := hK.sub (tys' := [(cA_2, .byte)]) [0] rfl
  refine lv_aload_n hx hb d_Mod_init_245 rfl (lv_at hl 0 rfl) ?_
  refine lv_sipush (v := 301) hx hb d_Mod_init_246 (by decide) ?_
  refine va_newa (atype := .int) (ty := .int) (a0 := (301, .inl (fun _ => 0))) hx hb (hT _ vt_3) rfl hK hP hD hS hA (fun _ => rfl) (by decide) (by decide) (by decide) (Nat.le_of_ble_eq_true rfl) (Nat.le_of_ble_eq_true rfl) d_Mod_init_249 (fun q_56 cA_57 H hK hP hD hS => ?_)
  have hK : va_K (dC, dI) classes [(cA_2, .byte), (cA_57, .int)] s := hK
  have hP : va_P (dC, dI) classes [(h0, .inr (12, fs_55)), (q_1, .inl (cA_2, 65536, .inl (fun _ => 0))), (q_56, .inl (cA_57, 301, .inl (fun _ => 0)))] H := hP
  have hD : va_D A [(h0, .inr (12, fs_55)), (q_1, .inl (cA_2, 65536, .inl (fun _ => 0))), (q_56, .inl (cA_57, 301, .inl (fun _ => 0)))] := hD
  refine W.widen (k := 19) (n := 2551181) (Nat.le_of_ble_eq_true rfl) (Nat.le_of_ble_eq_true rfl) ?_
  refine va_putF (D := (dC, dI)) (ci := 12) (v := .ref q_56) (ty := (.array .int)) (C := R_Mod) (T := T_Mod) (N := 76) hx hb hT in_Mod ty_Mod tyo_Mod nm_Mod hown hK hP hD hS 0 rfl rfl 35 (by decide) (hT _ vt_207) (fun _ h9 => h9) rfl hin rfl (by decide +kernel) rfl rfl (by rw [hz.1]; decide) d_Mod_init_251 (fun H locs hP hD hS => ?_)
  obtain ⟨fs_58, hfs_58⟩ : ∃ z, z = List.set fs_55 35 (.ref q_56) := ⟨_, rfl⟩
  have hP : va_P (dC, dI) classes [(h0, .inr (12, fs_58)), (q_1, .inl (cA_2, 65536, .inl (fun _ => 0))), (q_56, .inl (cA_57, 301, .inl (fun _ => 0)))] H := by rw [hfs_58]; exact hP
  have hD : va_D A [(h0, .inr (12, fs_58)), (q_1, .inl (cA_2, 65536, .inl (fun _ => 0))), (q_56, .inl (cA_57, 301, .inl (fun _ => 0)))] := by rw [hfs_58]; exact hD
  have htp : fs_58[0]? = some (.ref q_1) := by rw [hfs_58, List.getElem?_set_ne (by decide)]; exact htp
  have hz : Mz fs_58 := by rw [hfs_58]; exact hz.set (by decide)
  have hP := hP.sub (ws' := [(h0, .inr (12, fs_58)), (q_1, .inl (cA_2, 65536, .inl (fun _ => 0)))]) [0, 1] rfl
  have hD := hD.sub (ws' := [(h0, .inr (12, fs_58)), (q_1, .inl (cA_2, 65536, .inl (fun _ => 0)))]) [0, 1] (by decide) rfl
  have hK := hK.sub (tys' := [(cA_2, .byte)]) [0] rfl
  refine lv_aload_n hx hb d_Mod_init_254 rfl (lv_at hl 0 rfl) ?_
  refine lv_sipush (v := 301) hx hb d_Mod_init_255 (by decide) ?_
  refine va_newa (atype := .int) (ty := .int) (a0 := (301, .inl (fun _ => 0))) hx hb (hT _ vt_3) rfl hK hP hD hS hA (fun _ => rfl) (by decide) (by decide) (by decide) (Nat.le_of_ble_eq_true rfl) (Nat.le_of_ble_eq_true rfl) d_Mod_init_258 (fun q_59 cA_60 H hK hP hD hS => ?_)
  have hK : va_K (dC, dI) classes [(cA_2, .byte), (cA_60, .int)] s := hK
  have hP : va_P (dC, dI) classes [(h0, .inr (12, fs_58)), (q_1, .inl (cA_2, 65536, .inl (fun _ => 0))), (q_59, .inl (cA_60, 301, .inl (fun _ => 0)))] H := hP
  have hD : va_D A [(h0, .inr (12, fs_58)), (q_1, .inl (cA_2, 65536, .inl (fun _ => 0))), (q_59, .inl (cA_60, 301, .inl (fun _ => 0)))] := hD
  refine W.widen (k := 20) (n := 2551482) (Nat.le_of_ble_eq_true rfl) (Nat.le_of_ble_eq_true rfl) ?_
  refine va_putF (D := (dC, dI)) (ci := 12) (v := .ref q_59) (ty := (.array .int)) (C := R_Mod) (T := T_Mod) (N := 76) hx hb hT in_Mod ty_Mod tyo_Mod nm_Mod hown hK hP hD hS 0 rfl rfl 36 (by decide) (hT _ vt_208) (fun _ h9 => h9) rfl hin rfl (by decide +kernel) rfl rfl (by rw [hz.1]; decide) d_Mod_init_260 (fun H locs hP hD hS => ?_)
  obtain ⟨fs_61, hfs_61⟩ : ∃ z, z = List.set fs_58 36 (.ref q_59) := ⟨_, rfl⟩
  have hP : va_P (dC, dI) classes [(h0, .inr (12, fs_61)), (q_1, .inl (cA_2, 65536, .inl (fun _ => 0))), (q_59, .inl (cA_60, 301, .inl (fun _ => 0)))] H := by rw [hfs_61]; exact hP
  have hD : va_D A [(h0, .inr (12, fs_61)), (q_1, .inl (cA_2, 65536, .inl (fun _ => 0))), (q_59, .inl (cA_60, 301, .inl (fun _ => 0)))] := by rw [hfs_61]; exact hD
  have htp : fs_61[0]? = some (.ref q_1) := by rw [hfs_61, List.getElem?_set_ne (by decide)]; exact htp
  have hz : Mz fs_61 := by rw [hfs_61]; exact hz.set (by decide)
  have hP := hP.sub (ws' := [(h0, .inr (12, fs_61)), (q_1, .inl (cA_2, 65536, .inl (fun _ => 0)))]) [0, 1] rfl
  have hD := hD.sub (ws' := [(h0, .inr (12, fs_61)), (q_1, .inl (cA_2, 65536, .inl (fun _ => 0)))]) [0, 1] (by decide) rfl
  have hK := hK.sub (tys' := [(cA_2, .byte)]) [0] rfl
  refine lv_aload_n hx hb d_Mod_init_263 rfl (lv_at hl 0 rfl) ?_
  refine lv_sipush (v := 301) hx hb d_Mod_init_264 (by decide) ?_
  refine va_newa (atype := .int) (ty := .int) (a0 := (301, .inl (fun _ => 0))) hx hb (hT _ vt_3) rfl hK hP hD hS hA (fun _ => rfl) (by decide) (by decide) (by decide) (Nat.le_of_ble_eq_true rfl) (Nat.le_of_ble_eq_true rfl) d_Mod_init_267 (fun q_62 cA_63 H hK hP hD hS => ?_)
  have hK : va_K (dC, dI) classes [(cA_2, .byte), (cA_63, .int)] s := hK
  have hP : va_P (dC, dI) classes [(h0, .inr (12, fs_61)), (q_1, .inl (cA_2, 65536, .inl (fun _ => 0))), (q_62, .inl (cA_63, 301, .inl (fun _ => 0)))] H := hP
  have hD : va_D A [(h0, .inr (12, fs_61)), (q_1, .inl (cA_2, 65536, .inl (fun _ => 0))), (q_62, .inl (cA_63, 301, .inl (fun _ => 0)))] := hD
  refine W.widen (k := 21) (n := 2551783) (Nat.le_of_ble_eq_true rfl) (Nat.le_of_ble_eq_true rfl) ?_
  refine va_putF (D := (dC, dI)) (ci := 12) (v := .ref q_62) (ty := (.array .int)) (C := R_Mod) (T := T_Mod) (N := 76) hx hb hT in_Mod ty_Mod tyo_Mod nm_Mod hown hK hP hD hS 0 rfl rfl 37 (by decide) (hT _ vt_209) (fun _ h9 => h9) rfl hin rfl (by decide +kernel) rfl rfl (by rw [hz.1]; decide) d_Mod_init_269 (fun H locs hP hD hS => ?_)
  obtain ⟨fs_64, hfs_64⟩ : ∃ z, z = List.set fs_61 37 (.ref q_62) := ⟨_, rfl⟩
  have hP : va_P (dC, dI) classes [(h0, .inr (12, fs_64)), (q_1, .inl (cA_2, 65536, .inl (fun _ => 0))), (q_62, .inl (cA_63, 301, .inl (fun _ => 0)))] H := by rw [hfs_64]; exact hP
  have hD : va_D A [(h0, .inr (12, fs_64)), (q_1, .inl (cA_2, 65536, .inl (fun _ => 0))), (q_62, .inl (cA_63, 301, .inl (fun _ => 0)))] := by rw [hfs_64]; exact hD
  have htp : fs_64[0]? = some (.ref q_1) := by rw [hfs_64, List.getElem?_set_ne (by decide)]; exact htp
  have hz : Mz fs_64 := by rw [hfs_64]; exact hz.set (by decide)
  have hP := hP.sub (ws' := [(h0, .inr (12, fs_64)), (q_1, .inl (cA_2, 65536, .inl (fun _ => 0)))]) [0, 1] rfl
  have hD := hD.sub (ws' := [(h0, .inr (12, fs_64)), (q_1, .inl (cA_2, 65536, .inl (fun _ => 0)))]) [0, 1] (by decide) rfl
  have hK := hK.sub (tys' := [(cA_2, .byte)]) [0] rfl
  refine lv_aload_n hx hb d_Mod_init_272 rfl (lv_at hl 0 rfl) ?_
  refine lv_sipush (v := 301) hx hb d_Mod_init_273 (by decide) ?_
  refine va_newa (atype := .int) (ty := .int) (a0 := (301, .inl (fun _ => 0))) hx hb (hT _ vt_3) rfl hK hP hD hS hA (fun _ => rfl) (by decide) (by decide) (by decide) (Nat.le_of_ble_eq_true rfl) (Nat.le_of_ble_eq_true rfl) d_Mod_init_276 (fun q_65 cA_66 H hK hP hD hS => ?_)
  have hK : va_K (dC, dI) classes [(cA_2, .byte), (cA_66, .int)] s := hK
  have hP : va_P (dC, dI) classes [(h0, .inr (12, fs_64)), (q_1, .inl (cA_2, 65536, .inl (fun _ => 0))), (q_65, .inl (cA_66, 301, .inl (fun _ => 0)))] H := hP
  have hD : va_D A [(h0, .inr (12, fs_64)), (q_1, .inl (cA_2, 65536, .inl (fun _ => 0))), (q_65, .inl (cA_66, 301, .inl (fun _ => 0)))] := hD
  refine W.widen (k := 22) (n := 2552084) (Nat.le_of_ble_eq_true rfl) (Nat.le_of_ble_eq_true rfl) ?_
  refine va_putF (D := (dC, dI)) (ci := 12) (v := .ref q_65) (ty := (.array .int)) (C := R_Mod) (T := T_Mod) (N := 76) hx hb hT in_Mod ty_Mod tyo_Mod nm_Mod hown hK hP hD hS 0 rfl rfl 38 (by decide) (hT _ vt_210) (fun _ h9 => h9) rfl hin rfl (by decide +kernel) rfl rfl (by rw [hz.1]; decide) d_Mod_init_278 (fun H locs hP hD hS => ?_)
  obtain ⟨fs_67, hfs_67⟩ : ∃ z, z = List.set fs_64 38 (.ref q_65) := ⟨_, rfl⟩
  have hP : va_P (dC, dI) classes [(h0, .inr (12, fs_67)), (q_1, .inl (cA_2, 65536, .inl (fun _ => 0))), (q_65, .inl (cA_66, 301, .inl (fun _ => 0)))] H := by rw [hfs_67]; exact hP
  have hD : va_D A [(h0, .inr (12, fs_67)), (q_1, .inl (cA_2, 65536, .inl (fun _ => 0))), (q_65, .inl (cA_66, 301, .inl (fun _ => 0)))] := by rw [hfs_67]; exact hD
  have htp : fs_67[0]? = some (.ref q_1) := by rw [hfs_67, List.getElem?_set_ne (by decide)]; exact htp
  have hz : Mz fs_67 := by rw [hfs_67]; exact hz.set (by decide)
  have hP := hP.sub (ws' := [(h0, .inr (12, fs_67)), (q_1, .inl (cA_2, 65536, .inl (fun _ => 0)))]) [0, 1] rfl
  have hD := hD.sub (ws' := [(h0, .inr (12, fs_67)), (q_1, .inl (cA_2, 65536, .inl (fun _ => 0)))]) [0, 1] (by decide) rfl
  have hK := hK.sub (tys' := [(cA_2, .byte)]) [0] rfl
  refine lv_aload_n hx hb d_Mod_init_281 rfl (lv_at hl 0 rfl) ?_
  refine lv_sipush (v := 301) hx hb d_Mod_init_282 (by decide) ?_
  refine va_newa (atype := .int) (ty := .int) (a0 := (301, .inl (fun _ => 0))) hx hb (hT _ vt_3) rfl hK hP hD hS hA (fun _ => rfl) (by decide) (by decide) (by decide) (Nat.le_of_ble_eq_true rfl) (Nat.le_of_ble_eq_true rfl) d_Mod_init_285 (fun q_68 cA_69 H hK hP hD hS => ?_)
  have hK : va_K (dC, dI) classes [(cA_2, .byte), (cA_69, .int)] s := hK
  have hP : va_P (dC, dI) classes [(h0, .inr (12, fs_67)), (q_1, .inl (cA_2, 65536, .inl (fun _ => 0))), (q_68, .inl (cA_69, 301, .inl (fun _ => 0)))] H := hP
  have hD : va_D A [(h0, .inr (12, fs_67)), (q_1, .inl (cA_2, 65536, .inl (fun _ => 0))), (q_68, .inl (cA_69, 301, .inl (fun _ => 0)))] := hD
  refine W.widen (k := 23) (n := 2552385) (Nat.le_of_ble_eq_true rfl) (Nat.le_of_ble_eq_true rfl) ?_
  refine va_putF (D := (dC, dI)) (ci := 12) (v := .ref q_68) (ty := (.array .int)) (C := R_Mod) (T := T_Mod) (N := 76) hx hb hT in_Mod ty_Mod tyo_Mod nm_Mod hown hK hP hD hS 0 rfl rfl 39 (by decide) (hT _ vt_211) (fun _ h9 => h9) rfl hin rfl (by decide +kernel) rfl rfl (by rw [hz.1]; decide) d_Mod_init_287 (fun H locs hP hD hS => ?_)
  obtain ⟨fs_70, hfs_70⟩ : ∃ z, z = List.set fs_67 39 (.ref q_68) := ⟨_, rfl⟩
  have hP : va_P (dC, dI) classes [(h0, .inr (12, fs_70)), (q_1, .inl (cA_2, 65536, .inl (fun _ => 0))), (q_68, .inl (cA_69, 301, .inl (fun _ => 0)))] H := by rw [hfs_70]; exact hP
  have hD : va_D A [(h0, .inr (12, fs_70)), (q_1, .inl (cA_2, 65536, .inl (fun _ => 0))), (q_68, .inl (cA_69, 301, .inl (fun _ => 0)))] := by rw [hfs_70]; exact hD
  have htp : fs_70[0]? = some (.ref q_1) := by rw [hfs_70, List.getElem?_set_ne (by decide)]; exact htp
  have hz : Mz fs_70 := by rw [hfs_70]; exact hz.set (by decide)
  have hP := hP.sub (ws' := [(h0, .inr (12, fs_70)), (q_1, .inl (cA_2, 65536, .inl (fun _ => 0)))]) [0, 1] rfl
  have hD := hD.sub (ws' := [(h0, .inr (12, fs_70)), (q_1, .inl (cA_2, 65536, .inl (fun _ => 0)))]) [0, 1] (by decide) rfl
  have hK := hK.sub (tys' := [(cA_2, .byte)]) [0] rfl
  refine lv_aload_n hx hb d_Mod_init_290 rfl (lv_at hl 0 rfl) ?_
  refine lv_sipush (v := 301) hx hb d_Mod_init_291 (by decide) ?_
  refine va_newa (atype := .int) (ty := .int) (a0 := (301, .inl (fun _ => 0))) hx hb (hT _ vt_3) rfl hK hP hD hS hA (fun _ => rfl) (by decide) (by decide) (by decide) (Nat.le_of_ble_eq_true rfl) (Nat.le_of_ble_eq_true rfl) d_Mod_init_294 (fun q_71 cA_72 H hK hP hD hS => ?_)
  have hK : va_K (dC, dI) classes [(cA_2, .byte), (cA_72, .int)] s := hK
  have hP : va_P (dC, dI) classes [(h0, .inr (12, fs_70)), (q_1, .inl (cA_2, 65536, .inl (fun _ => 0))), (q_71, .inl (cA_72, 301, .inl (fun _ => 0)))] H := hP
  have hD : va_D A [(h0, .inr (12, fs_70)), (q_1, .inl (cA_2, 65536, .inl (fun _ => 0))), (q_71, .inl (cA_72, 301, .inl (fun _ => 0)))] := hD
  refine W.widen (k := 24) (n := 2552686) (Nat.le_of_ble_eq_true rfl) (Nat.le_of_ble_eq_true rfl) ?_
  refine va_putF (D := (dC, dI)) (ci := 12) (v := .ref q_71) (ty := (.array .int)) (C := R_Mod) (T := T_Mod) (N := 76) hx hb hT in_Mod ty_Mod tyo_Mod nm_Mod hown hK hP hD hS 0 rfl rfl 40 (by decide) (hT _ vt_212) (fun _ h9 => h9) rfl hin rfl (by decide +kernel) rfl rfl (by rw [hz.1]; decide) d_Mod_init_296 (fun H locs hP hD hS => ?_)
  obtain ⟨fs_73, hfs_73⟩ : ∃ z, z = List.set fs_70 40 (.ref q_71) := ⟨_, rfl⟩
  have hP : va_P (dC, dI) classes [(h0, .inr (12, fs_73)), (q_1, .inl (cA_2, 65536, .inl (fun _ => 0))), (q_71, .inl (cA_72, 301, .inl (fun _ => 0)))] H := by rw [hfs_73]; exact hP
  have hD : va_D A [(h0, .inr (12, fs_73)), (q_1, .inl (cA_2, 65536, .inl (fun _ => 0))), (q_71, .inl (cA_72, 301, .inl (fun _ => 0)))] := by rw [hfs_73]; exact hD
  have htp : fs_73[0]? = some (.ref q_1) := by rw [hfs_73, List.getElem?_set_ne (by decide)]; exact htp
  have hz : Mz fs_73 := by rw [hfs_73]; exact hz.set (by decide)
  have hP := hP.sub (ws' := [(h0, .inr (12, fs_73)), (q_1, .inl (cA_2, 65536, .inl (fun _ => 0)))]) [0, 1] rfl
  have hD := hD.sub (ws' := [(h0, .inr (12, fs_73)), (q_1, .inl (cA_2, 65536, .inl (fun _ => 0)))]) [0, 1] (by decide) rfl
  have hK := hK.sub (tys' := [(cA_2, .byte)]) [0] rfl
  refine lv_aload_n hx hb d_Mod_init_299 rfl (lv_at hl 0 rfl) ?_
  refine lv_sipush (v := 301) hx hb d_Mod_init_300 (by decide) ?_
  refine va_newa (atype := .boolean) (ty := .boolean) (a0 := (301, .inl (fun _ => 0))) hx hb (hT _ vt_213) rfl hK hP hD hS hA (fun _ => rfl) (by decide) (by decide) (by decide) (Nat.le_of_ble_eq_true rfl) (Nat.le_of_ble_eq_true rfl) d_Mod_init_303 (fun q_74 cA_75 H hK hP hD hS => ?_)
  have hK : va_K (dC, dI) classes [(cA_2, .byte), (cA_75, .boolean)] s := hK
  have hP : va_P (dC, dI) classes [(h0, .inr (12, fs_73)), (q_1, .inl (cA_2, 65536, .inl (fun _ => 0))), (q_74, .inl (cA_75, 301, .inl (fun _ => 0)))] H := hP
  have hD : va_D A [(h0, .inr (12, fs_73)), (q_1, .inl (cA_2, 65536, .inl (fun _ => 0))), (q_74, .inl (cA_75, 301, .inl (fun _ => 0)))] := hD
  refine W.widen (k := 25) (n := 2552987) (Nat.le_of_ble_eq_true rfl) (Nat.le_of_ble_eq_true rfl) ?_
  refine va_putF (D := (dC, dI)) (ci := 12) (v := .ref q_74) (ty := (.array .boolean)) (C := R_Mod) (T := T_Mod) (N := 76) hx hb hT in_Mod ty_Mod tyo_Mod nm_Mod hown hK hP hD hS 0 rfl rfl 41 (by decide) (hT _ vt_214) (fun _ h9 => h9) rfl hin rfl (by decide +kernel) rfl rfl (by rw [hz.1]; decide) d_Mod_init_305 (fun H locs hP hD hS => ?_)
  obtain ⟨fs_76, hfs_76⟩ : ∃ z, z = List.set fs_73 41 (.ref q_74) := ⟨_, rfl⟩
  have hP : va_P (dC, dI) classes [(h0, .inr (12, fs_76)), (q_1, .inl (cA_2, 65536, .inl (fun _ => 0))), (q_74, .inl (cA_75, 301, .inl (fun _ => 0)))] H := by rw [hfs_76]; exact hP
  have hD : va_D A [(h0, .inr (12, fs_76)), (q_1, .inl (cA_2, 65536, .inl (fun _ => 0))), (q_74, .inl (cA_75, 301, .inl (fun _ => 0)))] := by rw [hfs_76]; exact hD
  have htp : fs_76[0]? = some (.ref q_1) := by rw [hfs_76, List.getElem?_set_ne (by decide)]; exact htp
  have hz : Mz fs_76 := by rw [hfs_76]; exact hz.set (by decide)
  have hP := hP.sub (ws' := [(h0, .inr (12, fs_76)), (q_1, .inl (cA_2, 65536, .inl (fun _ => 0)))]) [0, 1] rfl
  have hD := hD.sub (ws' := [(h0, .inr (12, fs_76)), (q_1, .inl (cA_2, 65536, .inl (fun _ => 0)))]) [0, 1] (by decide) rfl
  have hK := hK.sub (tys' := [(cA_2, .byte)]) [0] rfl
  refine lv_aload_n hx hb d_Mod_init_308 rfl (lv_at hl 0 rfl) ?_
  refine lv_iconst (v := 0) hx hb d_Mod_init_309 (by decide) ?_
  refine va_put (D := (dC, dI)) (ci := 12) (v := .int 0) (ty := .int) (C := R_Mod) (T := T_Mod) (N := 76) hx hb hT in_Mod ty_Mod tyo_Mod nm_Mod hown hK hP hD hS 0 rfl rfl 42 (by decide) (hT _ vt_215) (fun _ h9 => h9) rfl (by decide +kernel) rfl rfl (by rw [hz.1]; decide) d_Mod_init_310 (fun H locs hP hD hS => ?_)
  have hP : va_P (dC, dI) classes [(h0, .inr (12, fs_76)), (q_1, .inl (cA_2, 65536, .inl (fun _ => 0)))] H := by rw [← hz.set0 (k := 42) (by decide)]; exact hP
  have hD : va_D A [(h0, .inr (12, fs_76)), (q_1, .inl (cA_2, 65536, .inl (fun _ => 0)))] := by rw [← hz.set0 (k := 42) (by decide)]; exact hD
  refine lv_aload_n hx hb d_Mod_init_313 rfl (lv_at hl 0 rfl) ?_
  refine lv_iconst (v := 0) hx hb d_Mod_init_314 (by decide) ?_
  refine va_put (D := (dC, dI)) (ci := 12) (v := .int 0) (ty := .int) (C := R_Mod) (T := T_Mod) (N := 76) hx hb hT in_Mod ty_Mod tyo_Mod nm_Mod hown hK hP hD hS 0 rfl rfl 43 (by decide) (hT _ vt_216) (fun _ h9 => h9) rfl (by decide +kernel) rfl rfl (by rw [hz.1]; decide) d_Mod_init_315 (fun H locs hP hD hS => ?_)
  have hP : va_P (dC, dI) classes [(h0, .inr (12, fs_76)), (q_1, .inl (cA_2, 65536, .inl (fun _ => 0)))] H := by rw [← hz.set0 (k := 43) (by decide)]; exact hP
  have hD : va_D A [(h0, .inr (12, fs_76)), (q_1, .inl (cA_2, 65536, .inl (fun _ => 0)))] := by rw [← hz.set0 (k := 43) (by decide)]; exact hD
  refine lv_aload_n hx hb d_Mod_init_318 rfl (lv_at hl 0 rfl) ?_
  refine lv_sipush (v := 3400) hx hb d_Mod_init_319 (by decide) ?_
  refine va_newa (atype := .int) (ty := .int) (a0 := (3400, .inl (fun _ => 0))) hx hb (hT _ vt_3) rfl hK hP hD hS hA (fun _ => rfl) (by decide) (by decide) (by decide) (Nat.le_of_ble_eq_true rfl) (Nat.le_of_ble_eq_true rfl) d_Mod_init_322 (fun q_77 cA_78 H hK hP hD hS => ?_)
  have hK : va_K (dC, dI) classes [(cA_2, .byte), (cA_78, .int)] s := hK
  have hP : va_P (dC, dI) classes [(h0, .inr (12, fs_76)), (q_1, .inl (cA_2, 65536, .inl (fun _ => 0))), (q_77, .inl (cA_78, 3400, .inl (fun _ => 0)))] H := hP
  have hD : va_D A [(h0, .inr (12, fs_76)), (q_1, .inl (cA_2, 65536, .inl (fun _ => 0))), (q_77, .inl (cA_78, 3400, .inl (fun _ => 0)))] := hD
  refine W.widen (k := 26) (n := 2556387) (Nat.le_of_ble_eq_true rfl) (Nat.le_of_ble_eq_true rfl) ?_
  refine va_putF (D := (dC, dI)) (ci := 12) (v := .ref q_77) (ty := (.array .int)) (C := R_Mod) (T := T_Mod) (N := 76) hx hb hT in_Mod ty_Mod tyo_Mod nm_Mod hown hK hP hD hS 0 rfl rfl 44 (by decide) (hT _ vt_217) (fun _ h9 => h9) rfl hin rfl (by decide +kernel) rfl rfl (by rw [hz.1]; decide) d_Mod_init_324 (fun H locs hP hD hS => ?_)
  obtain ⟨fs_79, hfs_79⟩ : ∃ z, z = List.set fs_76 44 (.ref q_77) := ⟨_, rfl⟩
  have hP : va_P (dC, dI) classes [(h0, .inr (12, fs_79)), (q_1, .inl (cA_2, 65536, .inl (fun _ => 0))), (q_77, .inl (cA_78, 3400, .inl (fun _ => 0)))] H := by rw [hfs_79]; exact hP
  have hD : va_D A [(h0, .inr (12, fs_79)), (q_1, .inl (cA_2, 65536, .inl (fun _ => 0))), (q_77, .inl (cA_78, 3400, .inl (fun _ => 0)))] := by rw [hfs_79]; exact hD
  have htp : fs_79[0]? = some (.ref q_1) := by rw [hfs_79, List.getElem?_set_ne (by decide)]; exact htp
  have hz : Mz fs_79 := by rw [hfs_79]; exact hz.set (by decide)
  have hP := hP.sub (ws' := [(h0, .inr (12, fs_79)), (q_1, .inl (cA_2, 65536, .inl (fun _ => 0)))]) [0, 1] rfl
  have hD := hD.sub (ws' := [(h0, .inr (12, fs_79)), (q_1, .inl (cA_2, 65536, .inl (fun _ => 0)))]) [0, 1] (by decide) rfl
  have hK := hK.sub (tys' := [(cA_2, .byte)]) [0] rfl
  refine lv_aload_n hx hb d_Mod_init_327 rfl (lv_at hl 0 rfl) ?_
  refine lv_sipush (v := 3400) hx hb d_Mod_init_328 (by decide) ?_
  refine va_newa (atype := .int) (ty := .int) (a0 := (3400, .inl (fun _ => 0))) hx hb (hT _ vt_3) rfl hK hP hD hS hA (fun _ => rfl) (by decide) (by decide) (by decide) (Nat.le_of_ble_eq_true rfl) (Nat.le_of_ble_eq_true rfl) d_Mod_init_331 (fun q_80 cA_81 H hK hP hD hS => ?_)
  have hK : va_K (dC, dI) classes [(cA_2, .byte), (cA_81, .int)] s := hK
  have hP : va_P (dC, dI) classes [(h0, .inr (12, fs_79)), (q_1, .inl (cA_2, 65536, .inl (fun _ => 0))), (q_80, .inl (cA_81, 3400, .inl (fun _ => 0)))] H := hP
  have hD : va_D A [(h0, .inr (12, fs_79)), (q_1, .inl (cA_2, 65536, .inl (fun _ => 0))), (q_80, .inl (cA_81, 3400, .inl (fun _ => 0)))] := hD
  refine W.widen (k := 27) (n := 2559787) (Nat.le_of_ble_eq_true rfl) (Nat.le_of_ble_eq_true rfl) ?_
  refine va_putF (D := (dC, dI)) (ci := 12) (v := .ref q_80) (ty := (.array .int)) (C := R_Mod) (T := T_Mod) (N := 76) hx hb hT in_Mod ty_Mod tyo_Mod nm_Mod hown hK hP hD hS 0 rfl rfl 45 (by decide) (hT _ vt_218) (fun _ h9 => h9) rfl hin rfl (by decide +kernel) rfl rfl (by rw [hz.1]; decide) d_Mod_init_333 (fun H locs hP hD hS => ?_)
  obtain ⟨fs_82, hfs_82⟩ : ∃ z, z = List.set fs_79 45 (.ref q_80) := ⟨_, rfl⟩
  have hP : va_P (dC, dI) classes [(h0, .inr (12, fs_82)), (q_1, .inl (cA_2, 65536, .inl (fun _ => 0))), (q_80, .inl (cA_81, 3400, .inl (fun _ => 0)))] H := by rw [hfs_82]; exact hP
  have hD : va_D A [(h0, .inr (12, fs_82)), (q_1, .inl (cA_2, 65536, .inl (fun _ => 0))), (q_80, .inl (cA_81, 3400, .inl (fun _ => 0)))] := by rw [hfs_82]; exact hD
  have htp : fs_82[0]? = some (.ref q_1) := by rw [hfs_82, List.getElem?_set_ne (by decide)]; exact htp
  have hz : Mz fs_82 := by rw [hfs_82]; exact hz.set (by decide)
  have hP := hP.sub (ws' := [(h0, .inr (12, fs_82)), (q_1, .inl (cA_2, 65536, .inl (fun _ => 0)))]) [0, 1] rfl
  have hD := hD.sub (ws' := [(h0, .inr (12, fs_82)), (q_1, .inl (cA_2, 65536, .inl (fun _ => 0)))]) [0, 1] (by decide) rfl
  have hK := hK.sub (tys' := [(cA_2, .byte)]) [0] rfl
  refine lv_aload_n hx hb d_Mod_init_336 rfl (lv_at hl 0 rfl) ?_
  refine lv_iconst (v := 0) hx hb d_Mod_init_337 (by decide) ?_
  refine va_put (D := (dC, dI)) (ci := 12) (v := .int 0) (ty := .int) (C := R_Mod) (T := T_Mod) (N := 76) hx hb hT in_Mod ty_Mod tyo_Mod nm_Mod hown hK hP hD hS 0 rfl rfl 46 (by decide) (hT _ vt_219) (fun _ h9 => h9) rfl (by decide +kernel) rfl rfl (by rw [hz.1]; decide) d_Mod_init_338 (fun H locs hP hD hS => ?_)
  have hP : va_P (dC, dI) classes [(h0, .inr (12, fs_82)), (q_1, .inl (cA_2, 65536, .inl (fun _ => 0)))] H := by rw [← hz.set0 (k := 46) (by decide)]; exact hP
  have hD : va_D A [(h0, .inr (12, fs_82)), (q_1, .inl (cA_2, 65536, .inl (fun _ => 0)))] := by rw [← hz.set0 (k := 46) (by decide)]; exact hD
  refine lv_aload_n hx hb d_Mod_init_341 rfl (lv_at hl 0 rfl) ?_
  refine lv_sipush (v := 3400) hx hb d_Mod_init_342 (by decide) ?_
  refine va_newa (atype := .int) (ty := .int) (a0 := (3400, .inl (fun _ => 0))) hx hb (hT _ vt_3) rfl hK hP hD hS hA (fun _ => rfl) (by decide) (by decide) (by decide) (Nat.le_of_ble_eq_true rfl) (Nat.le_of_ble_eq_true rfl) d_Mod_init_345 (fun q_83 cA_84 H hK hP hD hS => ?_)
  have hK : va_K (dC, dI) classes [(cA_2, .byte), (cA_84, .int)] s := hK
  have hP : va_P (dC, dI) classes [(h0, .inr (12, fs_82)), (q_1, .inl (cA_2, 65536, .inl (fun _ => 0))), (q_83, .inl (cA_84, 3400, .inl (fun _ => 0)))] H := hP
  have hD : va_D A [(h0, .inr (12, fs_82)), (q_1, .inl (cA_2, 65536, .inl (fun _ => 0))), (q_83, .inl (cA_84, 3400, .inl (fun _ => 0)))] := hD
  refine W.widen (k := 28) (n := 2563187) (Nat.le_of_ble_eq_true rfl) (Nat.le_of_ble_eq_true rfl) ?_
  refine va_putF (D := (dC, dI)) (ci := 12) (v := .ref q_83) (ty := (.array .int)) (C := R_Mod) (T := T_Mod) (N := 76) hx hb hT in_Mod ty_Mod tyo_Mod nm_Mod hown hK hP hD hS 0 rfl rfl 47 (by decide) (hT _ vt_220) (fun _ h9 => h9) rfl hin rfl (by decide +kernel) rfl rfl (by rw [hz.1]; decide) d_Mod_init_347 (fun H locs hP hD hS => ?_)
  obtain ⟨fs_85, hfs_85⟩ : ∃ z, z = List.set fs_82 47 (.ref q_83) := ⟨_, rfl⟩
  have hP : va_P (dC, dI) classes [(h0, .inr (12, fs_85)), (q_1, .inl (cA_2, 65536, .inl (fun _ => 0))), (q_83, .inl (cA_84, 3400, .inl (fun _ => 0)))] H := by rw [hfs_85]; exact hP
  have hD : va_D A [(h0, .inr (12, fs_85)), (q_1, .inl (cA_2, 65536, .inl (fun _ => 0))), (q_83, .inl (cA_84, 3400, .inl (fun _ => 0)))] := by rw [hfs_85]; exact hD
  have htp : fs_85[0]? = some (.ref q_1) := by rw [hfs_85, List.getElem?_set_ne (by decide)]; exact htp
  have hz : Mz fs_85 := by rw [hfs_85]; exact hz.set (by decide)
  have hP := hP.sub (ws' := [(h0, .inr (12, fs_85)), (q_1, .inl (cA_2, 65536, .inl (fun _ => 0)))]) [0, 1] rfl
  have hD := hD.sub (ws' := [(h0, .inr (12, fs_85)), (q_1, .inl (cA_2, 65536, .inl (fun _ => 0)))]) [0, 1] (by decide) rfl
  have hK := hK.sub (tys' := [(cA_2, .byte)]) [0] rfl
  refine lv_aload_n hx hb d_Mod_init_350 rfl (lv_at hl 0 rfl) ?_
  refine lv_sipush (v := 3100) hx hb d_Mod_init_351 (by decide) ?_
  refine va_newa (atype := .int) (ty := .int) (a0 := (3100, .inl (fun _ => 0))) hx hb (hT _ vt_3) rfl hK hP hD hS hA (fun _ => rfl) (by decide) (by decide) (by decide) (Nat.le_of_ble_eq_true rfl) (Nat.le_of_ble_eq_true rfl) d_Mod_init_354 (fun q_86 cA_87 H hK hP hD hS => ?_)
  have hK : va_K (dC, dI) classes [(cA_2, .byte), (cA_87, .int)] s := hK
  have hP : va_P (dC, dI) classes [(h0, .inr (12, fs_85)), (q_1, .inl (cA_2, 65536, .inl (fun _ => 0))), (q_86, .inl (cA_87, 3100, .inl (fun _ => 0)))] H := hP
  have hD : va_D A [(h0, .inr (12, fs_85)), (q_1, .inl (cA_2, 65536, .inl (fun _ => 0))), (q_86, .inl (cA_87, 3100, .inl (fun _ => 0)))] := hD
  refine W.widen (k := 29) (n := 2566287) (Nat.le_of_ble_eq_true rfl) (Nat.le_of_ble_eq_true rfl) ?_
  refine va_putF (D := (dC, dI)) (ci := 12) (v := .ref q_86) (ty := (.array .int)) (C := R_Mod) (T := T_Mod) (N := 76) hx hb hT in_Mod ty_Mod tyo_Mod nm_Mod hown hK hP hD hS 0 rfl rfl 48 (by decide) (hT _ vt_221) (fun _ h9 => h9) rfl hin rfl (by decide +kernel) rfl rfl (by rw [hz.1]; decide) d_Mod_init_356 (fun H locs hP hD hS => ?_)
  obtain ⟨fs_88, hfs_88⟩ : ∃ z, z = List.set fs_85 48 (.ref q_86) := ⟨_, rfl⟩
  have hP : va_P (dC, dI) classes [(h0, .inr (12, fs_88)), (q_1, .inl (cA_2, 65536, .inl (fun _ => 0))), (q_86, .inl (cA_87, 3100, .inl (fun _ => 0)))] H := by rw [hfs_88]; exact hP
  have hD : va_D A [(h0, .inr (12, fs_88)), (q_1, .inl (cA_2, 65536, .inl (fun _ => 0))), (q_86, .inl (cA_87, 3100, .inl (fun _ => 0)))] := by rw [hfs_88]; exact hD
  have htp : fs_88[0]? = some (.ref q_1) := by rw [hfs_88, List.getElem?_set_ne (by decide)]; exact htp
  have hz : Mz fs_88 := by rw [hfs_88]; exact hz.set (by decide)
  have hP := hP.sub (ws' := [(h0, .inr (12, fs_88)), (q_1, .inl (cA_2, 65536, .inl (fun _ => 0)))]) [0, 1] rfl
  have hD := hD.sub (ws' := [(h0, .inr (12, fs_88)), (q_1, .inl (cA_2, 65536, .inl (fun _ => 0)))]) [0, 1] (by decide) rfl
  have hK := hK.sub (tys' := [(cA_2, .byte)]) [0] rfl
  refine lv_aload_n hx hb d_Mod_init_359 rfl (lv_at hl 0 rfl) ?_
  refine lv_sipush (v := 3100) hx hb d_Mod_init_360 (by decide) ?_
  refine va_newa (atype := .int) (ty := .int) (a0 := (3100, .inl (fun _ => 0))) hx hb (hT _ vt_3) rfl hK hP hD hS hA (fun _ => rfl) (by decide) (by decide) (by decide) (Nat.le_of_ble_eq_true rfl) (Nat.le_of_ble_eq_true rfl) d_Mod_init_363 (fun q_89 cA_90 H hK hP hD hS => ?_)
  have hK : va_K (dC, dI) classes [(cA_2, .byte), (cA_90, .int)] s := hK
  have hP : va_P (dC, dI) classes [(h0, .inr (12, fs_88)), (q_1, .inl (cA_2, 65536, .inl (fun _ => 0))), (q_89, .inl (cA_90, 3100, .inl (fun _ => 0)))] H := hP
  have hD : va_D A [(h0, .inr (12, fs_88)), (q_1, .inl (cA_2, 65536, .inl (fun _ => 0))), (q_89, .inl (cA_90, 3100, .inl (fun _ => 0)))] := hD
  refine W.widen (k := 30) (n := 2569387) (Nat.le_of_ble_eq_true rfl) (Nat.le_of_ble_eq_true rfl) ?_
  refine va_putF (D := (dC, dI)) (ci := 12) (v := .ref q_89) (ty := (.array .int)) (C := R_Mod) (T := T_Mod) (N := 76) hx hb hT in_Mod ty_Mod tyo_Mod nm_Mod hown hK hP hD hS 0 rfl rfl 49 (by decide) (hT _ vt_222) (fun _ h9 => h9) rfl hin rfl (by decide +kernel) rfl rfl (by rw [hz.1]; decide) d_Mod_init_365 (fun H locs hP hD hS => ?_)
  obtain ⟨fs_91, hfs_91⟩ : ∃ z, z = List.set fs_88 49 (.ref q_89) := ⟨_, rfl⟩
  have hP : va_P (dC, dI) classes [(h0, .inr (12, fs_91)), (q_1, .inl (cA_2, 65536, .inl (fun _ => 0))), (q_89, .inl (cA_90, 3100, .inl (fun _ => 0)))] H := by rw [hfs_91]; exact hP
  have hD : va_D A [(h0, .inr (12, fs_91)), (q_1, .inl (cA_2, 65536, .inl (fun _ => 0))), (q_89, .inl (cA_90, 3100, .inl (fun _ => 0)))] := by rw [hfs_91]; exact hD
  have htp : fs_91[0]? = some (.ref q_1) := by rw [hfs_91, List.getElem?_set_ne (by decide)]; exact htp
  have hz : Mz fs_91 := by rw [hfs_91]; exact hz.set (by decide)
  have hP := hP.sub (ws' := [(h0, .inr (12, fs_91)), (q_1, .inl (cA_2, 65536, .inl (fun _ => 0)))]) [0, 1] rfl
  have hD := hD.sub (ws' := [(h0, .inr (12, fs_91)), (q_1, .inl (cA_2, 65536, .inl (fun _ => 0)))]) [0, 1] (by decide) rfl
  have hK := hK.sub (tys' := [(cA_2, .byte)]) [0] rfl
  refine lv_aload_n hx hb d_Mod_init_368 rfl (lv_at hl 0 rfl) ?_
  refine lv_sipush (v := 3400) hx hb d_Mod_init_369 (by decide) ?_
  refine va_newa (atype := .int) (ty := .int) (a0 := (3400, .inl (fun _ => 0))) hx hb (hT _ vt_3) rfl hK hP hD hS hA (fun _ => rfl) (by decide) (by decide) (by decide) (Nat.le_of_ble_eq_true rfl) (Nat.le_of_ble_eq_true rfl) d_Mod_init_372 (fun q_92 cA_93 H hK hP hD hS => ?_)
  have hK : va_K (dC, dI) classes [(cA_2, .byte), (cA_93, .int)] s := hK
  have hP : va_P (dC, dI) classes [(h0, .inr (12, fs_91)), (q_1, .inl (cA_2, 65536, .inl (fun _ => 0))), (q_92, .inl (cA_93, 3400, .inl (fun _ => 0)))] H := hP
  have hD : va_D A [(h0, .inr (12, fs_91)), (q_1, .inl (cA_2, 65536, .inl (fun _ => 0))), (q_92, .inl (cA_93, 3400, .inl (fun _ => 0)))] := hD
  refine W.widen (k := 31) (n := 2572787) (Nat.le_of_ble_eq_true rfl) (Nat.le_of_ble_eq_true rfl) ?_
  refine va_putF (D := (dC, dI)) (ci := 12) (v := .ref q_92) (ty := (.array .int)) (C := R_Mod) (T := T_Mod) (N := 76) hx hb hT in_Mod ty_Mod tyo_Mod nm_Mod hown hK hP hD hS 0 rfl rfl 50 (by decide) (hT _ vt_223) (fun _ h9 => h9) rfl hin rfl (by decide +kernel) rfl rfl (by rw [hz.1]; decide) d_Mod_init_374 (fun H locs hP hD hS => ?_)
  obtain ⟨fs_94, hfs_94⟩ : ∃ z, z = List.set fs_91 50 (.ref q_92) := ⟨_, rfl⟩
  have hP : va_P (dC, dI) classes [(h0, .inr (12, fs_94)), (q_1, .inl (cA_2, 65536, .inl (fun _ => 0))), (q_92, .inl (cA_93, 3400, .inl (fun _ => 0)))] H := by rw [hfs_94]; exact hP
  have hD : va_D A [(h0, .inr (12, fs_94)), (q_1, .inl (cA_2, 65536, .inl (fun _ => 0))), (q_92, .inl (cA_93, 3400, .inl (fun _ => 0)))] := by rw [hfs_94]; exact hD
  have htp : fs_94[0]? = some (.ref q_1) := by rw [hfs_94, List.getElem?_set_ne (by decide)]; exact htp
  have hz : Mz fs_94 := by rw [hfs_94]; exact hz.set (by decide)
  have hP := hP.sub (ws' := [(h0, .inr (12, fs_94)), (q_1, .inl (cA_2, 65536, .inl (fun _ => 0)))]) [0, 1] rfl
  have hD := hD.sub (ws' := [(h0, .inr (12, fs_94)), (q_1, .inl (cA_2, 65536, .inl (fun _ => 0)))]) [0, 1] (by decide) rfl
  have hK := hK.sub (tys' := [(cA_2, .byte)]) [0] rfl
  refine lv_aload_n hx hb d_Mod_init_377 rfl (lv_at hl 0 rfl) ?_
  refine lv_sipush (v := 3400) hx hb d_Mod_init_378 (by decide) ?_
  refine va_newa (atype := .int) (ty := .int) (a0 := (3400, .inl (fun _ => 0))) hx hb (hT _ vt_3) rfl hK hP hD hS hA (fun _ => rfl) (by decide) (by decide) (by decide) (Nat.le_of_ble_eq_true rfl) (Nat.le_of_ble_eq_true rfl) d_Mod_init_381 (fun q_95 cA_96 H hK hP hD hS => ?_)
  have hK : va_K (dC, dI) classes [(cA_2, .byte), (cA_96, .int)] s := hK
  have hP : va_P (dC, dI) classes [(h0, .inr (12, fs_94)), (q_1, .inl (cA_2, 65536, .inl (fun _ => 0))), (q_95, .inl (cA_96, 3400, .inl (fun _ => 0)))] H := hP
  have hD : va_D A [(h0, .inr (12, fs_94)), (q_1, .inl (cA_2, 65536, .inl (fun _ => 0))), (q_95, .inl (cA_96, 3400, .inl (fun _ => 0)))] := hD
  refine W.widen (k := 32) (n := 2576187) (Nat.le_of_ble_eq_true rfl) (Nat.le_of_ble_eq_true rfl) ?_
  refine va_putF (D := (dC, dI)) (ci := 12) (v := .ref q_95) (ty := (.array .int)) (C := R_Mod) (T := T_Mod) (N := 76) hx hb hT in_Mod ty_Mod tyo_Mod nm_Mod hown hK hP hD hS 0 rfl rfl 51 (by decide) (hT _ vt_224) (fun _ h9 => h9) rfl hin rfl (by decide +kernel) rfl rfl (by rw [hz.1]; decide) d_Mod_init_383 (fun H locs hP hD hS => ?_)
  obtain ⟨fs_97, hfs_97⟩ : ∃ z, z = List.set fs_94 51 (.ref q_95) := ⟨_, rfl⟩
  have hP : va_P (dC, dI) classes [(h0, .inr (12, fs_97)), (q_1, .inl (cA_2, 65536, .inl (fun _ => 0))), (q_95, .inl (cA_96, 3400, .inl (fun _ => 0)))] H := by rw [hfs_97]; exact hP
  have hD : va_D A [(h0, .inr (12, fs_97)), (q_1, .inl (cA_2, 65536, .inl (fun _ => 0))), (q_95, .inl (cA_96, 3400, .inl (fun _ => 0)))] := by rw [hfs_97]; exact hD
  have htp : fs_97[0]? = some (.ref q_1) := by rw [hfs_97, List.getElem?_set_ne (by decide)]; exact htp
  have hz : Mz fs_97 := by rw [hfs_97]; exact hz.set (by decide)
  have hP := hP.sub (ws' := [(h0, .inr (12, fs_97)), (q_1, .inl (cA_2, 65536, .inl (fun _ => 0)))]) [0, 1] rfl
  have hD := hD.sub (ws' := [(h0, .inr (12, fs_97)), (q_1, .inl (cA_2, 65536, .inl (fun _ => 0)))]) [0, 1] (by decide) rfl
  have hK := hK.sub (tys' := [(cA_2, .byte)]) [0] rfl
  refine lv_aload_n hx hb d_Mod_init_386 rfl (lv_at hl 0 rfl) ?_
  refine lv_iconst (v := 0) hx hb d_Mod_init_387 (by decide) ?_
  refine va_put (D := (dC, dI)) (ci := 12) (v := .int 0) (ty := .int) (C := R_Mod) (T := T_Mod) (N := 76) hx hb hT in_Mod ty_Mod tyo_Mod nm_Mod hown hK hP hD hS 0 rfl rfl 52 (by decide) (hT _ vt_225) (fun _ h9 => h9) rfl (by decide +kernel) rfl rfl (by rw [hz.1]; decide) d_Mod_init_388 (fun H locs hP hD hS => ?_)
  have hP : va_P (dC, dI) classes [(h0, .inr (12, fs_97)), (q_1, .inl (cA_2, 65536, .inl (fun _ => 0)))] H := by rw [← hz.set0 (k := 52) (by decide)]; exact hP
  have hD : va_D A [(h0, .inr (12, fs_97)), (q_1, .inl (cA_2, 65536, .inl (fun _ => 0)))] := by rw [← hz.set0 (k := 52) (by decide)]; exact hD
  refine lv_aload_n hx hb d_Mod_init_391 rfl (lv_at hl 0 rfl) ?_
  refine lv_iconst (v := 0) hx hb d_Mod_init_392 (by decide) ?_
  refine va_put (D := (dC, dI)) (ci := 12) (v := .int 0) (ty := .int) (C := R_Mod) (T := T_Mod) (N := 76) hx hb hT in_Mod ty_Mod tyo_Mod nm_Mod hown hK hP hD hS 0 rfl rfl 53 (by decide) (hT _ vt_226) (fun _ h9 => h9) rfl (by decide +kernel) rfl rfl (by rw [hz.1]; decide) d_Mod_init_393 (fun H locs hP hD hS => ?_)
  have hP : va_P (dC, dI) classes [(h0, .inr (12, fs_97)), (q_1, .inl (cA_2, 65536, .inl (fun _ => 0)))] H := by rw [← hz.set0 (k := 53) (by decide)]; exact hP
  have hD : va_D A [(h0, .inr (12, fs_97)), (q_1, .inl (cA_2, 65536, .inl (fun _ => 0)))] := by rw [← hz.set0 (k := 53) (by decide)]; exact hD
  refine lv_aload_n hx hb d_Mod_init_396 rfl (lv_at hl 0 rfl) ?_
  refine lv_iconst (v := 0) hx hb d_Mod_init_397 (by decide) ?_
  refine va_put (D := (dC, dI)) (ci := 12) (v := .int 0) (ty := .int) (C := R_Mod) (T := T_Mod) (N := 76) hx hb hT in_Mod ty_Mod tyo_Mod nm_Mod hown hK hP hD hS 0 rfl rfl 54 (by decide) (hT _ vt_227) (fun _ h9 => h9) rfl (by decide +kernel) rfl rfl (by rw [hz.1]; decide) d_Mod_init_398 (fun H locs hP hD hS => ?_)
  have hP : va_P (dC, dI) classes [(h0, .inr (12, fs_97)), (q_1, .inl (cA_2, 65536, .inl (fun _ => 0)))] H := by rw [← hz.set0 (k := 54) (by decide)]; exact hP
  have hD : va_D A [(h0, .inr (12, fs_97)), (q_1, .inl (cA_2, 65536, .inl (fun _ => 0)))] := by rw [← hz.set0 (k := 54) (by decide)]; exact hD
  refine lv_aload_n hx hb d_Mod_init_401 rfl (lv_at hl 0 rfl) ?_
  refine lv_iconst (v := 0) hx hb d_Mod_init_402 (by decide) ?_
  refine va_put (D := (dC, dI)) (ci := 12) (v := .int 0) (ty := .int) (C := R_Mod) (T := T_Mod) (N := 76) hx hb hT in_Mod ty_Mod tyo_Mod nm_Mod hown hK hP hD hS 0 rfl rfl 55 (by decide) (hT _ vt_228) (fun _ h9 => h9) rfl (by decide +kernel) rfl rfl (by rw [hz.1]; decide) d_Mod_init_403 (fun H locs hP hD hS => ?_)
  have hP : va_P (dC, dI) classes [(h0, .inr (12, fs_97)), (q_1, .inl (cA_2, 65536, .inl (fun _ => 0)))] H := by rw [← hz.set0 (k := 55) (by decide)]; exact hP
  have hD : va_D A [(h0, .inr (12, fs_97)), (q_1, .inl (cA_2, 65536, .inl (fun _ => 0)))] := by rw [← hz.set0 (k := 55) (by decide)]; exact hD
  refine lv_aload_n hx hb d_Mod_init_406 rfl (lv_at hl 0 rfl) ?_
  refine lv_ldc (v := 66000) hx hb hown (hT _ vt_229) d_Mod_init_407 ?_
  refine va_newa (atype := .int) (ty := .int) (a0 := (66000, .inl (fun _ => 0))) hx hb (hT _ vt_3) rfl hK hP hD hS hA (fun _ => rfl) (by decide) (by decide) (by decide) (Nat.le_of_ble_eq_true rfl) (Nat.le_of_ble_eq_true rfl) d_Mod_init_409 (fun q_98 cA_99 H hK hP hD hS => ?_)
  have hK : va_K (dC, dI) classes [(cA_2, .byte), (cA_99, .int)] s := hK
  have hP : va_P (dC, dI) classes [(h0, .inr (12, fs_97)), (q_1, .inl (cA_2, 65536, .inl (fun _ => 0))), (q_98, .inl (cA_99, 66000, .inl (fun _ => 0)))] H := hP
  have hD : va_D A [(h0, .inr (12, fs_97)), (q_1, .inl (cA_2, 65536, .inl (fun _ => 0))), (q_98, .inl (cA_99, 66000, .inl (fun _ => 0)))] := hD
  refine W.widen (k := 33) (n := 2642187) (Nat.le_of_ble_eq_true rfl) (Nat.le_of_ble_eq_true rfl) ?_
  refine va_putF (D := (dC, dI)) (ci := 12) (v := .ref q_98) (ty := (.array .int)) (C := R_Mod) (T := T_Mod) (N := 76) hx hb hT in_Mod ty_Mod tyo_Mod nm_Mod hown hK hP hD hS 0 rfl rfl 56 (by decide) (hT _ vt_230) (fun _ h9 => h9) rfl hin rfl (by decide +kernel) rfl rfl (by rw [hz.1]; decide) d_Mod_init_411 (fun H locs hP hD hS => ?_)
  obtain ⟨fs_100, hfs_100⟩ : ∃ z, z = List.set fs_97 56 (.ref q_98) := ⟨_, rfl⟩
  have hP : va_P (dC, dI) classes [(h0, .inr (12, fs_100)), (q_1, .inl (cA_2, 65536, .inl (fun _ => 0))), (q_98, .inl (cA_99, 66000, .inl (fun _ => 0)))] H := by rw [hfs_100]; exact hP
  have hD : va_D A [(h0, .inr (12, fs_100)), (q_1, .inl (cA_2, 65536, .inl (fun _ => 0))), (q_98, .inl (cA_99, 66000, .inl (fun _ => 0)))] := by rw [hfs_100]; exact hD
  have htp : fs_100[0]? = some (.ref q_1) := by rw [hfs_100, List.getElem?_set_ne (by decide)]; exact htp
  have hz : Mz fs_100 := by rw [hfs_100]; exact hz.set (by decide)
  have hP := hP.sub (ws' := [(h0, .inr (12, fs_100)), (q_1, .inl (cA_2, 65536, .inl (fun _ => 0)))]) [0, 1] rfl
  have hD := hD.sub (ws' := [(h0, .inr (12, fs_100)), (q_1, .inl (cA_2, 65536, .inl (fun _ => 0)))]) [0, 1] (by decide) rfl
  have hK := hK.sub (tys' := [(cA_2, .byte)]) [0] rfl
  refine lv_aload_n hx hb d_Mod_init_414 rfl (lv_at hl 0 rfl) ?_
  refine lv_iconst (v := 0) hx hb d_Mod_init_415 (by decide) ?_
  refine va_put (D := (dC, dI)) (ci := 12) (v := .int 0) (ty := .int) (C := R_Mod) (T := T_Mod) (N := 76) hx hb hT in_Mod ty_Mod tyo_Mod nm_Mod hown hK hP hD hS 0 rfl rfl 57 (by decide) (hT _ vt_231) (fun _ h9 => h9) rfl (by decide +kernel) rfl rfl (by rw [hz.1]; decide) d_Mod_init_416 (fun H locs hP hD hS => ?_)
  have hP : va_P (dC, dI) classes [(h0, .inr (12, fs_100)), (q_1, .inl (cA_2, 65536, .inl (fun _ => 0)))] H := by rw [← hz.set0 (k := 57) (by decide)]; exact hP
  have hD : va_D A [(h0, .inr (12, fs_100)), (q_1, .inl (cA_2, 65536, .inl (fun _ => 0)))] := by rw [← hz.set0 (k := 57) (by decide)]; exact hD
  refine lv_aload_n hx hb d_Mod_init_419 rfl (lv_at hl 0 rfl) ?_
  refine lv_iconst (v := 0) hx hb d_Mod_init_420 (by decide) ?_
  refine va_put (D := (dC, dI)) (ci := 12) (v := .int 0) (ty := .int) (C := R_Mod) (T := T_Mod) (N := 76) hx hb hT in_Mod ty_Mod tyo_Mod nm_Mod hown hK hP hD hS 0 rfl rfl 58 (by decide) (hT _ vt_232) (fun _ h9 => h9) rfl (by decide +kernel) rfl rfl (by rw [hz.1]; decide) d_Mod_init_421 (fun H locs hP hD hS => ?_)
  have hP : va_P (dC, dI) classes [(h0, .inr (12, fs_100)), (q_1, .inl (cA_2, 65536, .inl (fun _ => 0)))] H := by rw [← hz.set0 (k := 58) (by decide)]; exact hP
  have hD : va_D A [(h0, .inr (12, fs_100)), (q_1, .inl (cA_2, 65536, .inl (fun _ => 0)))] := by rw [← hz.set0 (k := 58) (by decide)]; exact hD
  refine lv_aload_n hx hb d_Mod_init_424 rfl (lv_at hl 0 rfl) ?_
  refine lv_iconst (v := 0) hx hb d_Mod_init_425 (by decide) ?_
  refine va_put (D := (dC, dI)) (ci := 12) (v := .int 0) (ty := .int) (C := R_Mod) (T := T_Mod) (N := 76) hx hb hT in_Mod ty_Mod tyo_Mod nm_Mod hown hK hP hD hS 0 rfl rfl 59 (by decide) (hT _ vt_233) (fun _ h9 => h9) rfl (by decide +kernel) rfl rfl (by rw [hz.1]; decide) d_Mod_init_426 (fun H locs hP hD hS => ?_)
  have hP : va_P (dC, dI) classes [(h0, .inr (12, fs_100)), (q_1, .inl (cA_2, 65536, .inl (fun _ => 0)))] H := by rw [← hz.set0 (k := 59) (by decide)]; exact hP
  have hD : va_D A [(h0, .inr (12, fs_100)), (q_1, .inl (cA_2, 65536, .inl (fun _ => 0)))] := by rw [← hz.set0 (k := 59) (by decide)]; exact hD
  refine lv_aload_n hx hb d_Mod_init_429 rfl (lv_at hl 0 rfl) ?_
  refine lv_iconst (v := 0) hx hb d_Mod_init_430 (by decide) ?_
  refine va_put (D := (dC, dI)) (ci := 12) (v := .int 0) (ty := .int) (C := R_Mod) (T := T_Mod) (N := 76) hx hb hT in_Mod ty_Mod tyo_Mod nm_Mod hown hK hP hD hS 0 rfl rfl 60 (by decide) (hT _ vt_234) (fun _ h9 => h9) rfl (by decide +kernel) rfl rfl (by rw [hz.1]; decide) d_Mod_init_431 (fun H locs hP hD hS => ?_)
  have hP : va_P (dC, dI) classes [(h0, .inr (12, fs_100)), (q_1, .inl (cA_2, 65536, .inl (fun _ => 0)))] H := by rw [← hz.set0 (k := 60) (by decide)]; exact hP
  have hD : va_D A [(h0, .inr (12, fs_100)), (q_1, .inl (cA_2, 65536, .inl (fun _ => 0)))] := by rw [← hz.set0 (k := 60) (by decide)]; exact hD
  refine lv_aload_n hx hb d_Mod_init_434 rfl (lv_at hl 0 rfl) ?_
  refine lv_iconst (v := 0) hx hb d_Mod_init_435 (by decide) ?_
  refine va_put (D := (dC, dI)) (ci := 12) (v := .int 0) (ty := .int) (C := R_Mod) (T := T_Mod) (N := 76) hx hb hT in_Mod ty_Mod tyo_Mod nm_Mod hown hK hP hD hS 0 rfl rfl 61 (by decide) (hT _ vt_235) (fun _ h9 => h9) rfl (by decide +kernel) rfl rfl (by rw [hz.1]; decide) d_Mod_init_436 (fun H locs hP hD hS => ?_)
  have hP : va_P (dC, dI) classes [(h0, .inr (12, fs_100)), (q_1, .inl (cA_2, 65536, .inl (fun _ => 0)))] H := by rw [← hz.set0 (k := 61) (by decide)]; exact hP
  have hD : va_D A [(h0, .inr (12, fs_100)), (q_1, .inl (cA_2, 65536, .inl (fun _ => 0)))] := by rw [← hz.set0 (k := 61) (by decide)]; exact hD
  refine lv_aload_n hx hb d_Mod_init_439 rfl (lv_at hl 0 rfl) ?_
  refine lv_sipush (v := 5000) hx hb d_Mod_init_440 (by decide) ?_
  refine va_newa (atype := .int) (ty := .int) (a0 := (5000, .inl (fun _ => 0))) hx hb (hT _ vt_3) rfl hK hP hD hS hA (fun _ => rfl) (by decide) (by decide) (by decide) (Nat.le_of_ble_eq_true rfl) (Nat.le_of_ble_eq_true rfl) d_Mod_init_443 (fun q_101 cA_102 H hK hP hD hS => ?_)
  have hK : va_K (dC, dI) classes [(cA_2, .byte), (cA_102, .int)] s := hK
  have hP : va_P (dC, dI) classes [(h0, .inr (12, fs_100)), (q_1, .inl (cA_2, 65536, .inl (fun _ => 0))), (q_101, .inl (cA_102, 5000, .inl (fun _ => 0)))] H := hP
  have hD : va_D A [(h0, .inr (12, fs_100)), (q_1, .inl (cA_2, 65536, .inl (fun _ => 0))), (q_101, .inl (cA_102, 5000, .inl (fun _ => 0)))] := hD
  refine W.widen (k := 34) (n := 2647187) (Nat.le_of_ble_eq_true rfl) (Nat.le_of_ble_eq_true rfl) ?_
  refine va_putF (D := (dC, dI)) (ci := 12) (v := .ref q_101) (ty := (.array .int)) (C := R_Mod) (T := T_Mod) (N := 76) hx hb hT in_Mod ty_Mod tyo_Mod nm_Mod hown hK hP hD hS 0 rfl rfl 62 (by decide) (hT _ vt_236) (fun _ h9 => h9) rfl hin rfl (by decide +kernel) rfl rfl (by rw [hz.1]; decide) d_Mod_init_445 (fun H locs hP hD hS => ?_)
  obtain ⟨fs_103, hfs_103⟩ : ∃ z, z = List.set fs_100 62 (.ref q_101) := ⟨_, rfl⟩
  have hP : va_P (dC, dI) classes [(h0, .inr (12, fs_103)), (q_1, .inl (cA_2, 65536, .inl (fun _ => 0))), (q_101, .inl (cA_102, 5000, .inl (fun _ => 0)))] H := by rw [hfs_103]; exact hP
  have hD : va_D A [(h0, .inr (12, fs_103)), (q_1, .inl (cA_2, 65536, .inl (fun _ => 0))), (q_101, .inl (cA_102, 5000, .inl (fun _ => 0)))] := by rw [hfs_103]; exact hD
  have htp : fs_103[0]? = some (.ref q_1) := by rw [hfs_103, List.getElem?_set_ne (by decide)]; exact htp
  have hz : Mz fs_103 := by rw [hfs_103]; exact hz.set (by decide)
  have hP := hP.sub (ws' := [(h0, .inr (12, fs_103)), (q_1, .inl (cA_2, 65536, .inl (fun _ => 0)))]) [0, 1] rfl
  have hD := hD.sub (ws' := [(h0, .inr (12, fs_103)), (q_1, .inl (cA_2, 65536, .inl (fun _ => 0)))]) [0, 1] (by decide) rfl
  have hK := hK.sub (tys' := [(cA_2, .byte)]) [0] rfl
  refine lv_aload_n hx hb d_Mod_init_448 rfl (lv_at hl 0 rfl) ?_
  refine lv_sipush (v := 301) hx hb d_Mod_init_449 (by decide) ?_
  refine va_newa (atype := .int) (ty := .int) (a0 := (301, .inl (fun _ => 0))) hx hb (hT _ vt_3) rfl hK hP hD hS hA (fun _ => rfl) (by decide) (by decide) (by decide) (Nat.le_of_ble_eq_true rfl) (Nat.le_of_ble_eq_true rfl) d_Mod_init_452 (fun q_104 cA_105 H hK hP hD hS => ?_)
  have hK : va_K (dC, dI) classes [(cA_2, .byte), (cA_105, .int)] s := hK
  have hP : va_P (dC, dI) classes [(h0, .inr (12, fs_103)), (q_1, .inl (cA_2, 65536, .inl (fun _ => 0))), (q_104, .inl (cA_105, 301, .inl (fun _ => 0)))] H := hP
  have hD : va_D A [(h0, .inr (12, fs_103)), (q_1, .inl (cA_2, 65536, .inl (fun _ => 0))), (q_104, .inl (cA_105, 301, .inl (fun _ => 0)))] := hD
  refine W.widen (k := 35) (n := 2647488) (Nat.le_of_ble_eq_true rfl) (Nat.le_of_ble_eq_true rfl) ?_
  refine va_putF (D := (dC, dI)) (ci := 12) (v := .ref q_104) (ty := (.array .int)) (C := R_Mod) (T := T_Mod) (N := 76) hx hb hT in_Mod ty_Mod tyo_Mod nm_Mod hown hK hP hD hS 0 rfl rfl 63 (by decide) (hT _ vt_237) (fun _ h9 => h9) rfl hin rfl (by decide +kernel) rfl rfl (by rw [hz.1]; decide) d_Mod_init_454 (fun H locs hP hD hS => ?_)
  obtain ⟨fs_106, hfs_106⟩ : ∃ z, z = List.set fs_103 63 (.ref q_104) := ⟨_, rfl⟩
  have hP : va_P (dC, dI) classes [(h0, .inr (12, fs_106)), (q_1, .inl (cA_2, 65536, .inl (fun _ => 0))), (q_104, .inl (cA_105, 301, .inl (fun _ => 0)))] H := by rw [hfs_106]; exact hP
  have hD : va_D A [(h0, .inr (12, fs_106)), (q_1, .inl (cA_2, 65536, .inl (fun _ => 0))), (q_104, .inl (cA_105, 301, .inl (fun _ => 0)))] := by rw [hfs_106]; exact hD
  have htp : fs_106[0]? = some (.ref q_1) := by rw [hfs_106, List.getElem?_set_ne (by decide)]; exact htp
  have hz : Mz fs_106 := by rw [hfs_106]; exact hz.set (by decide)
  have hP := hP.sub (ws' := [(h0, .inr (12, fs_106)), (q_1, .inl (cA_2, 65536, .inl (fun _ => 0)))]) [0, 1] rfl
  have hD := hD.sub (ws' := [(h0, .inr (12, fs_106)), (q_1, .inl (cA_2, 65536, .inl (fun _ => 0)))]) [0, 1] (by decide) rfl
  have hK := hK.sub (tys' := [(cA_2, .byte)]) [0] rfl
  refine lv_aload_n hx hb d_Mod_init_457 rfl (lv_at hl 0 rfl) ?_
  refine lv_sipush (v := 301) hx hb d_Mod_init_458 (by decide) ?_
  refine va_newa (atype := .int) (ty := .int) (a0 := (301, .inl (fun _ => 0))) hx hb (hT _ vt_3) rfl hK hP hD hS hA (fun _ => rfl) (by decide) (by decide) (by decide) (Nat.le_of_ble_eq_true rfl) (Nat.le_of_ble_eq_true rfl) d_Mod_init_461 (fun q_107 cA_108 H hK hP hD hS => ?_)
  have hK : va_K (dC, dI) classes [(cA_2, .byte), (cA_108, .int)] s := hK
  have hP : va_P (dC, dI) classes [(h0, .inr (12, fs_106)), (q_1, .inl (cA_2, 65536, .inl (fun _ => 0))), (q_107, .inl (cA_108, 301, .inl (fun _ => 0)))] H := hP
  have hD : va_D A [(h0, .inr (12, fs_106)), (q_1, .inl (cA_2, 65536, .inl (fun _ => 0))), (q_107, .inl (cA_108, 301, .inl (fun _ => 0)))] := hD
  refine W.widen (k := 36) (n := 2647789) (Nat.le_of_ble_eq_true rfl) (Nat.le_of_ble_eq_true rfl) ?_
  refine va_putF (D := (dC, dI)) (ci := 12) (v := .ref q_107) (ty := (.array .int)) (C := R_Mod) (T := T_Mod) (N := 76) hx hb hT in_Mod ty_Mod tyo_Mod nm_Mod hown hK hP hD hS 0 rfl rfl 64 (by decide) (hT _ vt_238) (fun _ h9 => h9) rfl hin rfl (by decide +kernel) rfl rfl (by rw [hz.1]; decide) d_Mod_init_463 (fun H locs hP hD hS => ?_)
  obtain ⟨fs_109, hfs_109⟩ : ∃ z, z = List.set fs_106 64 (.ref q_107) := ⟨_, rfl⟩
  have hP : va_P (dC, dI) classes [(h0, .inr (12, fs_109)), (q_1, .inl (cA_2, 65536, .inl (fun _ => 0))), (q_107, .inl (cA_108, 301, .inl (fun _ => 0)))] H := by rw [hfs_109]; exact hP
  have hD : va_D A [(h0, .inr (12, fs_109)), (q_1, .inl (cA_2, 65536, .inl (fun _ => 0))), (q_107, .inl (cA_108, 301, .inl (fun _ => 0)))] := by rw [hfs_109]; exact hD
  have htp : fs_109[0]? = some (.ref q_1) := by rw [hfs_109, List.getElem?_set_ne (by decide)]; exact htp
  have hz : Mz fs_109 := by rw [hfs_109]; exact hz.set (by decide)
  have hP := hP.sub (ws' := [(h0, .inr (12, fs_109)), (q_1, .inl (cA_2, 65536, .inl (fun _ => 0)))]) [0, 1] rfl
  have hD := hD.sub (ws' := [(h0, .inr (12, fs_109)), (q_1, .inl (cA_2, 65536, .inl (fun _ => 0)))]) [0, 1] (by decide) rfl
  have hK := hK.sub (tys' := [(cA_2, .byte)]) [0] rfl
  refine lv_aload_n hx hb d_Mod_init_466 rfl (lv_at hl 0 rfl) ?_
  refine lv_sipush (v := 301) hx hb d_Mod_init_467 (by decide) ?_
  refine va_newa (atype := .int) (ty := .int) (a0 := (301, .inl (fun _ => 0))) hx hb (hT _ vt_3) rfl hK hP hD hS hA (fun _ => rfl) (by decide) (by decide) (by decide) (Nat.le_of_ble_eq_true rfl) (Nat.le_of_ble_eq_true rfl) d_Mod_init_470 (fun q_110 cA_111 H hK hP hD hS => ?_)
  have hK : va_K (dC, dI) classes [(cA_2, .byte), (cA_111, .int)] s := hK
  have hP : va_P (dC, dI) classes [(h0, .inr (12, fs_109)), (q_1, .inl (cA_2, 65536, .inl (fun _ => 0))), (q_110, .inl (cA_111, 301, .inl (fun _ => 0)))] H := hP
  have hD : va_D A [(h0, .inr (12, fs_109)), (q_1, .inl (cA_2, 65536, .inl (fun _ => 0))), (q_110, .inl (cA_111, 301, .inl (fun _ => 0)))] := hD
  refine W.widen (k := 37) (n := 2648090) (Nat.le_of_ble_eq_true rfl) (Nat.le_of_ble_eq_true rfl) ?_
  refine va_putF (D := (dC, dI)) (ci := 12) (v := .ref q_110) (ty := (.array .int)) (C := R_Mod) (T := T_Mod) (N := 76) hx hb hT in_Mod ty_Mod tyo_Mod nm_Mod hown hK hP hD hS 0 rfl rfl 65 (by decide) (hT _ vt_239) (fun _ h9 => h9) rfl hin rfl (by decide +kernel) rfl rfl (by rw [hz.1]; decide) d_Mod_init_472 (fun H locs hP hD hS => ?_)
  obtain ⟨fs_112, hfs_112⟩ : ∃ z, z = List.set fs_109 65 (.ref q_110) := ⟨_, rfl⟩
  have hP : va_P (dC, dI) classes [(h0, .inr (12, fs_112)), (q_1, .inl (cA_2, 65536, .inl (fun _ => 0))), (q_110, .inl (cA_111, 301, .inl (fun _ => 0)))] H := by rw [hfs_112]; exact hP
  have hD : va_D A [(h0, .inr (12, fs_112)), (q_1, .inl (cA_2, 65536, .inl (fun _ => 0))), (q_110, .inl (cA_111, 301, .inl (fun _ => 0)))] := by rw [hfs_112]; exact hD
  have htp : fs_112[0]? = some (.ref q_1) := by rw [hfs_112, List.getElem?_set_ne (by decide)]; exact htp
  have hz : Mz fs_112 := by rw [hfs_112]; exact hz.set (by decide)
  have hP := hP.sub (ws' := [(h0, .inr (12, fs_112)), (q_1, .inl (cA_2, 65536, .inl (fun _ => 0)))]) [0, 1] rfl
  have hD := hD.sub (ws' := [(h0, .inr (12, fs_112)), (q_1, .inl (cA_2, 65536, .inl (fun _ => 0)))]) [0, 1] (by decide) rfl
  have hK := hK.sub (tys' := [(cA_2, .byte)]) [0] rfl
  refine lv_aload_n hx hb d_Mod_init_475 rfl (lv_at hl 0 rfl) ?_
  refine lv_sipush (v := 301) hx hb d_Mod_init_476 (by decide) ?_
  refine va_newa (atype := .int) (ty := .int) (a0 := (301, .inl (fun _ => 0))) hx hb (hT _ vt_3) rfl hK hP hD hS hA (fun _ => rfl) (by decide) (by decide) (by decide) (Nat.le_of_ble_eq_true rfl) (Nat.le_of_ble_eq_true rfl) d_Mod_init_479 (fun q_113 cA_114 H hK hP hD hS => ?_)
  have hK : va_K (dC, dI) classes [(cA_2, .byte), (cA_114, .int)] s := hK
  have hP : va_P (dC, dI) classes [(h0, .inr (12, fs_112)), (q_1, .inl (cA_2, 65536, .inl (fun _ => 0))), (q_113, .inl (cA_114, 301, .inl (fun _ => 0)))] H := hP
  have hD : va_D A [(h0, .inr (12, fs_112)), (q_1, .inl (cA_2, 65536, .inl (fun _ => 0))), (q_113, .inl (cA_114, 301, .inl (fun _ => 0)))] := hD
  refine W.widen (k := 38) (n := 2648391) (Nat.le_of_ble_eq_true rfl) (Nat.le_of_ble_eq_true rfl) ?_
  refine va_putF (D := (dC, dI)) (ci := 12) (v := .ref q_113) (ty := (.array .int)) (C := R_Mod) (T := T_Mod) (N := 76) hx hb hT in_Mod ty_Mod tyo_Mod nm_Mod hown hK hP hD hS 0 rfl rfl 66 (by decide) (hT _ vt_240) (fun _ h9 => h9) rfl hin rfl (by decide +kernel) rfl rfl (by rw [hz.1]; decide) d_Mod_init_481 (fun H locs hP hD hS => ?_)
  obtain ⟨fs_115, hfs_115⟩ : ∃ z, z = List.set fs_112 66 (.ref q_113) := ⟨_, rfl⟩
  have hP : va_P (dC, dI) classes [(h0, .inr (12, fs_115)), (q_1, .inl (cA_2, 65536, .inl (fun _ => 0))), (q_113, .inl (cA_114, 301, .inl (fun _ => 0)))] H := by rw [hfs_115]; exact hP
  have hD : va_D A [(h0, .inr (12, fs_115)), (q_1, .inl (cA_2, 65536, .inl (fun _ => 0))), (q_113, .inl (cA_114, 301, .inl (fun _ => 0)))] := by rw [hfs_115]; exact hD
  have htp : fs_115[0]? = some (.ref q_1) := by rw [hfs_115, List.getElem?_set_ne (by decide)]; exact htp
  have hz : Mz fs_115 := by rw [hfs_115]; exact hz.set (by decide)
  have hP := hP.sub (ws' := [(h0, .inr (12, fs_115)), (q_1, .inl (cA_2, 65536, .inl (fun _ => 0)))]) [0, 1] rfl
  have hD := hD.sub (ws' := [(h0, .inr (12, fs_115)), (q_1, .inl (cA_2, 65536, .inl (fun _ => 0)))]) [0, 1] (by decide) rfl
  have hK := hK.sub (tys' := [(cA_2, .byte)]) [0] rfl
  refine lv_aload_n hx hb d_Mod_init_484 rfl (lv_at hl 0 rfl) ?_
  refine lv_sipush (v := 4000) hx hb d_Mod_init_485 (by decide) ?_
  refine va_newa (atype := .int) (ty := .int) (a0 := (4000, .inl (fun _ => 0))) hx hb (hT _ vt_3) rfl hK hP hD hS hA (fun _ => rfl) (by decide) (by decide) (by decide) (Nat.le_of_ble_eq_true rfl) (Nat.le_of_ble_eq_true rfl) d_Mod_init_488 (fun q_116 cA_117 H hK hP hD hS => ?_)
  have hK : va_K (dC, dI) classes [(cA_2, .byte), (cA_117, .int)] s := hK
  have hP : va_P (dC, dI) classes [(h0, .inr (12, fs_115)), (q_1, .inl (cA_2, 65536, .inl (fun _ => 0))), (q_116, .inl (cA_117, 4000, .inl (fun _ => 0)))] H := hP
  have hD : va_D A [(h0, .inr (12, fs_115)), (q_1, .inl (cA_2, 65536, .inl (fun _ => 0))), (q_116, .inl (cA_117, 4000, .inl (fun _ => 0)))] := hD
  refine W.widen (k := 39) (n := 2652391) (Nat.le_of_ble_eq_true rfl) (Nat.le_of_ble_eq_true rfl) ?_
  refine va_putF (D := (dC, dI)) (ci := 12) (v := .ref q_116) (ty := (.array .int)) (C := R_Mod) (T := T_Mod) (N := 76) hx hb hT in_Mod ty_Mod tyo_Mod nm_Mod hown hK hP hD hS 0 rfl rfl 67 (by decide) (hT _ vt_241) (fun _ h9 => h9) rfl hin rfl (by decide +kernel) rfl rfl (by rw [hz.1]; decide) d_Mod_init_490 (fun H locs hP hD hS => ?_)
  obtain ⟨fs_118, hfs_118⟩ : ∃ z, z = List.set fs_115 67 (.ref q_116) := ⟨_, rfl⟩
  have hP : va_P (dC, dI) classes [(h0, .inr (12, fs_118)), (q_1, .inl (cA_2, 65536, .inl (fun _ => 0))), (q_116, .inl (cA_117, 4000, .inl (fun _ => 0)))] H := by rw [hfs_118]; exact hP
  have hD : va_D A [(h0, .inr (12, fs_118)), (q_1, .inl (cA_2, 65536, .inl (fun _ => 0))), (q_116, .inl (cA_117, 4000, .inl (fun _ => 0)))] := by rw [hfs_118]; exact hD
  have htp : fs_118[0]? = some (.ref q_1) := by rw [hfs_118, List.getElem?_set_ne (by decide)]; exact htp
  have hz : Mz fs_118 := by rw [hfs_118]; exact hz.set (by decide)
  have hP := hP.sub (ws' := [(h0, .inr (12, fs_118)), (q_1, .inl (cA_2, 65536, .inl (fun _ => 0)))]) [0, 1] rfl
  have hD := hD.sub (ws' := [(h0, .inr (12, fs_118)), (q_1, .inl (cA_2, 65536, .inl (fun _ => 0)))]) [0, 1] (by decide) rfl
  have hK := hK.sub (tys' := [(cA_2, .byte)]) [0] rfl
  refine lv_aload_n hx hb d_Mod_init_493 rfl (lv_at hl 0 rfl) ?_
  refine lv_sipush (v := 4000) hx hb d_Mod_init_494 (by decide) ?_
  refine va_newa (atype := .boolean) (ty := .boolean) (a0 := (4000, .inl (fun _ => 0))) hx hb (hT _ vt_213) rfl hK hP hD hS hA (fun _ => rfl) (by decide) (by decide) (by decide) (Nat.le_of_ble_eq_true rfl) (Nat.le_of_ble_eq_true rfl) d_Mod_init_497 (fun q_119 cA_120 H hK hP hD hS => ?_)
  have hK : va_K (dC, dI) classes [(cA_2, .byte), (cA_120, .boolean)] s := hK
  have hP : va_P (dC, dI) classes [(h0, .inr (12, fs_118)), (q_1, .inl (cA_2, 65536, .inl (fun _ => 0))), (q_119, .inl (cA_120, 4000, .inl (fun _ => 0)))] H := hP
  have hD : va_D A [(h0, .inr (12, fs_118)), (q_1, .inl (cA_2, 65536, .inl (fun _ => 0))), (q_119, .inl (cA_120, 4000, .inl (fun _ => 0)))] := hD
  refine W.widen (k := 40) (n := 2656391) (Nat.le_of_ble_eq_true rfl) (Nat.le_of_ble_eq_true rfl) ?_
  refine va_putF (D := (dC, dI)) (ci := 12) (v := .ref q_119) (ty := (.array .boolean)) (C := R_Mod) (T := T_Mod) (N := 76) hx hb hT in_Mod ty_Mod tyo_Mod nm_Mod hown hK hP hD hS 0 rfl rfl 68 (by decide) (hT _ vt_242) (fun _ h9 => h9) rfl hin rfl (by decide +kernel) rfl rfl (by rw [hz.1]; decide) d_Mod_init_499 (fun H locs hP hD hS => ?_)
  obtain ⟨fs_121, hfs_121⟩ : ∃ z, z = List.set fs_118 68 (.ref q_119) := ⟨_, rfl⟩
  have hP : va_P (dC, dI) classes [(h0, .inr (12, fs_121)), (q_1, .inl (cA_2, 65536, .inl (fun _ => 0))), (q_119, .inl (cA_120, 4000, .inl (fun _ => 0)))] H := by rw [hfs_121]; exact hP
  have hD : va_D A [(h0, .inr (12, fs_121)), (q_1, .inl (cA_2, 65536, .inl (fun _ => 0))), (q_119, .inl (cA_120, 4000, .inl (fun _ => 0)))] := by rw [hfs_121]; exact hD
  have htp : fs_121[0]? = some (.ref q_1) := by rw [hfs_121, List.getElem?_set_ne (by decide)]; exact htp
  have hz : Mz fs_121 := by rw [hfs_121]; exact hz.set (by decide)
  have hP := hP.sub (ws' := [(h0, .inr (12, fs_121)), (q_1, .inl (cA_2, 65536, .inl (fun _ => 0)))]) [0, 1] rfl
  have hD := hD.sub (ws' := [(h0, .inr (12, fs_121)), (q_1, .inl (cA_2, 65536, .inl (fun _ => 0)))]) [0, 1] (by decide) rfl
  have hK := hK.sub (tys' := [(cA_2, .byte)]) [0] rfl
  refine lv_aload_n hx hb d_Mod_init_502 rfl (lv_at hl 0 rfl) ?_
  refine lv_sipush (v := 4000) hx hb d_Mod_init_503 (by decide) ?_
  refine va_newa (atype := .boolean) (ty := .boolean) (a0 := (4000, .inl (fun _ => 0))) hx hb (hT _ vt_213) rfl hK hP hD hS hA (fun _ => rfl) (by decide) (by decide) (by decide) (Nat.le_of_ble_eq_true rfl) (Nat.le_of_ble_eq_true rfl) d_Mod_init_506 (fun q_122 cA_123 H hK hP hD hS => ?_)
  have hK : va_K (dC, dI) classes [(cA_2, .byte), (cA_123, .boolean)] s := hK
  have hP : va_P (dC, dI) classes [(h0, .inr (12, fs_121)), (q_1, .inl (cA_2, 65536, .inl (fun _ => 0))), (q_122, .inl (cA_123, 4000, .inl (fun _ => 0)))] H := hP
  have hD : va_D A [(h0, .inr (12, fs_121)), (q_1, .inl (cA_2, 65536, .inl (fun _ => 0))), (q_122, .inl (cA_123, 4000, .inl (fun _ => 0)))] := hD
  refine W.widen (k := 41) (n := 2660391) (Nat.le_of_ble_eq_true rfl) (Nat.le_of_ble_eq_true rfl) ?_
  refine va_putF (D := (dC, dI)) (ci := 12) (v := .ref q_122) (ty := (.array .boolean)) (C := R_Mod) (T := T_Mod) (N := 76) hx hb hT in_Mod ty_Mod tyo_Mod nm_Mod hown hK hP hD hS 0 rfl rfl 69 (by decide) (hT _ vt_243) (fun _ h9 => h9) rfl hin rfl (by decide +kernel) rfl rfl (by rw [hz.1]; decide) d_Mod_init_508 (fun H locs hP hD hS => ?_)
  obtain ⟨fs_124, hfs_124⟩ : ∃ z, z = List.set fs_121 69 (.ref q_122) := ⟨_, rfl⟩
  have hP : va_P (dC, dI) classes [(h0, .inr (12, fs_124)), (q_1, .inl (cA_2, 65536, .inl (fun _ => 0))), (q_122, .inl (cA_123, 4000, .inl (fun _ => 0)))] H := by rw [hfs_124]; exact hP
  have hD : va_D A [(h0, .inr (12, fs_124)), (q_1, .inl (cA_2, 65536, .inl (fun _ => 0))), (q_122, .inl (cA_123, 4000, .inl (fun _ => 0)))] := by rw [hfs_124]; exact hD
  have htp : fs_124[0]? = some (.ref q_1) := by rw [hfs_124, List.getElem?_set_ne (by decide)]; exact htp
  have hz : Mz fs_124 := by rw [hfs_124]; exact hz.set (by decide)
  have hP := hP.sub (ws' := [(h0, .inr (12, fs_124)), (q_1, .inl (cA_2, 65536, .inl (fun _ => 0)))]) [0, 1] rfl
  have hD := hD.sub (ws' := [(h0, .inr (12, fs_124)), (q_1, .inl (cA_2, 65536, .inl (fun _ => 0)))]) [0, 1] (by decide) rfl
  have hK := hK.sub (tys' := [(cA_2, .byte)]) [0] rfl
  refine lv_aload_n hx hb d_Mod_init_511 rfl (lv_at hl 0 rfl) ?_
  refine lv_iconst (v := 0) hx hb d_Mod_init_512 (by decide) ?_
  refine va_put (D := (dC, dI)) (ci := 12) (v := .int 0) (ty := .int) (C := R_Mod) (T := T_Mod) (N := 76) hx hb hT in_Mod ty_Mod tyo_Mod nm_Mod hown hK hP hD hS 0 rfl rfl 70 (by decide) (hT _ vt_244) (fun _ h9 => h9) rfl (by decide +kernel) rfl rfl (by rw [hz.1]; decide) d_Mod_init_513 (fun H locs hP hD hS => ?_)
  have hP : va_P (dC, dI) classes [(h0, .inr (12, fs_124)), (q_1, .inl (cA_2, 65536, .inl (fun _ => 0)))] H := by rw [← hz.set0 (k := 70) (by decide)]; exact hP
  have hD : va_D A [(h0, .inr (12, fs_124)), (q_1, .inl (cA_2, 65536, .inl (fun _ => 0)))] := by rw [← hz.set0 (k := 70) (by decide)]; exact hD
  refine lv_aload_n hx hb d_Mod_init_516 rfl (lv_at hl 0 rfl) ?_
  refine lv_sipush (v := 9000) hx hb d_Mod_init_517 (by decide) ?_
  refine va_newa (atype := .int) (ty := .int) (a0 := (9000, .inl (fun _ => 0))) hx hb (hT _ vt_3) rfl hK hP hD hS hA (fun _ => rfl) (by decide) (by decide) (by decide) (Nat.le_of_ble_eq_true rfl) (Nat.le_of_ble_eq_true rfl) d_Mod_init_520 (fun q_125 cA_126 H hK hP hD hS => ?_)
  have hK : va_K (dC, dI) classes [(cA_2, .byte), (cA_126, .int)] s := hK
  have hP : va_P (dC, dI) classes [(h0, .inr (12, fs_124)), (q_1, .inl (cA_2, 65536, .inl (fun _ => 0))), (q_125, .inl (cA_126, 9000, .inl (fun _ => 0)))] H := hP
  have hD : va_D A [(h0, .inr (12, fs_124)), (q_1, .inl (cA_2, 65536, .inl (fun _ => 0))), (q_125, .inl (cA_126, 9000, .inl (fun _ => 0)))] := hD
  refine W.widen (k := 42) (n := 2669391) (Nat.le_of_ble_eq_true rfl) (Nat.le_of_ble_eq_true rfl) ?_
  refine va_putF (D := (dC, dI)) (ci := 12) (v := .ref q_125) (ty := (.array .int)) (C := R_Mod) (T := T_Mod) (N := 76) hx hb hT in_Mod ty_Mod tyo_Mod nm_Mod hown hK hP hD hS 0 rfl rfl 71 (by decide) (hT _ vt_245) (fun _ h9 => h9) rfl hin rfl (by decide +kernel) rfl rfl (by rw [hz.1]; decide) d_Mod_init_522 (fun H locs hP hD hS => ?_)
  obtain ⟨fs_127, hfs_127⟩ : ∃ z, z = List.set fs_124 71 (.ref q_125) := ⟨_, rfl⟩
  have hP : va_P (dC, dI) classes [(h0, .inr (12, fs_127)), (q_1, .inl (cA_2, 65536, .inl (fun _ => 0))), (q_125, .inl (cA_126, 9000, .inl (fun _ => 0)))] H := by rw [hfs_127]; exact hP
  have hD : va_D A [(h0, .inr (12, fs_127)), (q_1, .inl (cA_2, 65536, .inl (fun _ => 0))), (q_125, .inl (cA_126, 9000, .inl (fun _ => 0)))] := by rw [hfs_127]; exact hD
  have htp : fs_127[0]? = some (.ref q_1) := by rw [hfs_127, List.getElem?_set_ne (by decide)]; exact htp
  have hz : Mz fs_127 := by rw [hfs_127]; exact hz.set (by decide)
  have hP := hP.sub (ws' := [(h0, .inr (12, fs_127)), (q_1, .inl (cA_2, 65536, .inl (fun _ => 0)))]) [0, 1] rfl
  have hD := hD.sub (ws' := [(h0, .inr (12, fs_127)), (q_1, .inl (cA_2, 65536, .inl (fun _ => 0)))]) [0, 1] (by decide) rfl
  have hK := hK.sub (tys' := [(cA_2, .byte)]) [0] rfl
  refine lv_aload_n hx hb d_Mod_init_525 rfl (lv_at hl 0 rfl) ?_
  refine lv_iconst (v := 0) hx hb d_Mod_init_526 (by decide) ?_
  refine va_put (D := (dC, dI)) (ci := 12) (v := .int 0) (ty := .int) (C := R_Mod) (T := T_Mod) (N := 76) hx hb hT in_Mod ty_Mod tyo_Mod nm_Mod hown hK hP hD hS 0 rfl rfl 72 (by decide) (hT _ vt_246) (fun _ h9 => h9) rfl (by decide +kernel) rfl rfl (by rw [hz.1]; decide) d_Mod_init_527 (fun H locs hP hD hS => ?_)
  have hP : va_P (dC, dI) classes [(h0, .inr (12, fs_127)), (q_1, .inl (cA_2, 65536, .inl (fun _ => 0)))] H := by rw [← hz.set0 (k := 72) (by decide)]; exact hP
  have hD : va_D A [(h0, .inr (12, fs_127)), (q_1, .inl (cA_2, 65536, .inl (fun _ => 0)))] := by rw [← hz.set0 (k := 72) (by decide)]; exact hD
  refine lv_aload_n hx hb d_Mod_init_530 rfl (lv_at hl 0 rfl) ?_
  refine lv_sipush (v := 301) hx hb d_Mod_init_531 (by decide) ?_
  refine va_newa (atype := .int) (ty := .int) (a0 := (301, .inl (fun _ => 0))) hx hb (hT _ vt_3) rfl hK hP hD hS hA (fun _ => rfl) (by decide) (by decide) (by decide) (Nat.le_of_ble_eq_true rfl) (Nat.le_of_ble_eq_true rfl) d_Mod_init_534 (fun q_128 cA_129 H hK hP hD hS => ?_)
  have hK : va_K (dC, dI) classes [(cA_2, .byte), (cA_129, .int)] s := hK
  have hP : va_P (dC, dI) classes [(h0, .inr (12, fs_127)), (q_1, .inl (cA_2, 65536, .inl (fun _ => 0))), (q_128, .inl (cA_129, 301, .inl (fun _ => 0)))] H := hP
  have hD : va_D A [(h0, .inr (12, fs_127)), (q_1, .inl (cA_2, 65536, .inl (fun _ => 0))), (q_128, .inl (cA_129, 301, .inl (fun _ => 0)))] := hD
  refine W.widen (k := 43) (n := 2669692) (Nat.le_of_ble_eq_true rfl) (Nat.le_of_ble_eq_true rfl) ?_
  refine va_putF (D := (dC, dI)) (ci := 12) (v := .ref q_128) (ty := (.array .int)) (C := R_Mod) (T := T_Mod) (N := 76) hx hb hT in_Mod ty_Mod tyo_Mod nm_Mod hown hK hP hD hS 0 rfl rfl 73 (by decide) (hT _ vt_247) (fun _ h9 => h9) rfl hin rfl (by decide +kernel) rfl rfl (by rw [hz.1]; decide) d_Mod_init_536 (fun H locs hP hD hS => ?_)
  obtain ⟨fs_130, hfs_130⟩ : ∃ z, z = List.set fs_127 73 (.ref q_128) := ⟨_, rfl⟩
  have hP : va_P (dC, dI) classes [(h0, .inr (12, fs_130)), (q_1, .inl (cA_2, 65536, .inl (fun _ => 0))), (q_128, .inl (cA_129, 301, .inl (fun _ => 0)))] H := by rw [hfs_130]; exact hP
  have hD : va_D A [(h0, .inr (12, fs_130)), (q_1, .inl (cA_2, 65536, .inl (fun _ => 0))), (q_128, .inl (cA_129, 301, .inl (fun _ => 0)))] := by rw [hfs_130]; exact hD
  have htp : fs_130[0]? = some (.ref q_1) := by rw [hfs_130, List.getElem?_set_ne (by decide)]; exact htp
  have hz : Mz fs_130 := by rw [hfs_130]; exact hz.set (by decide)
  have hP := hP.sub (ws' := [(h0, .inr (12, fs_130)), (q_1, .inl (cA_2, 65536, .inl (fun _ => 0)))]) [0, 1] rfl
  have hD := hD.sub (ws' := [(h0, .inr (12, fs_130)), (q_1, .inl (cA_2, 65536, .inl (fun _ => 0)))]) [0, 1] (by decide) rfl
  have hK := hK.sub (tys' := [(cA_2, .byte)]) [0] rfl
  refine lv_aload_n hx hb d_Mod_init_539 rfl (lv_at hl 0 rfl) ?_
  refine lv_sipush (v := 301) hx hb d_Mod_init_540 (by decide) ?_
  refine va_newa (atype := .int) (ty := .int) (a0 := (301, .inl (fun _ => 0))) hx hb (hT _ vt_3) rfl hK hP hD hS hA (fun _ => rfl) (by decide) (by decide) (by decide) (Nat.le_of_ble_eq_true rfl) (Nat.le_of_ble_eq_true rfl) d_Mod_init_543 (fun q_131 cA_132 H hK hP hD hS => ?_)
  have hK : va_K (dC, dI) classes [(cA_2, .byte), (cA_132, .int)] s := hK
  have hP : va_P (dC, dI) classes [(h0, .inr (12, fs_130)), (q_1, .inl (cA_2, 65536, .inl (fun _ => 0))), (q_131, .inl (cA_132, 301, .inl (fun _ => 0)))] H := hP
  have hD : va_D A [(h0, .inr (12, fs_130)), (q_1, .inl (cA_2, 65536, .inl (fun _ => 0))), (q_131, .inl (cA_132, 301, .inl (fun _ => 0)))] := hD
  refine W.widen (k := 44) (n := 2669993) (Nat.le_of_ble_eq_true rfl) (Nat.le_of_ble_eq_true rfl) ?_
  refine va_putF (D := (dC, dI)) (ci := 12) (v := .ref q_131) (ty := (.array .int)) (C := R_Mod) (T := T_Mod) (N := 76) hx hb hT in_Mod ty_Mod tyo_Mod nm_Mod hown hK hP hD hS 0 rfl rfl 74 (by decide) (hT _ vt_248) (fun _ h9 => h9) rfl hin rfl (by decide +kernel) rfl rfl (by rw [hz.1]; decide) d_Mod_init_545 (fun H locs hP hD hS => ?_)
  obtain ⟨fs_133, hfs_133⟩ : ∃ z, z = List.set fs_130 74 (.ref q_131) := ⟨_, rfl⟩
  have hP : va_P (dC, dI) classes [(h0, .inr (12, fs_133)), (q_1, .inl (cA_2, 65536, .inl (fun _ => 0))), (q_131, .inl (cA_132, 301, .inl (fun _ => 0)))] H := by rw [hfs_133]; exact hP
  have hD : va_D A [(h0, .inr (12, fs_133)), (q_1, .inl (cA_2, 65536, .inl (fun _ => 0))), (q_131, .inl (cA_132, 301, .inl (fun _ => 0)))] := by rw [hfs_133]; exact hD
  have htp : fs_133[0]? = some (.ref q_1) := by rw [hfs_133, List.getElem?_set_ne (by decide)]; exact htp
  have hz : Mz fs_133 := by rw [hfs_133]; exact hz.set (by decide)
  have hP := hP.sub (ws' := [(h0, .inr (12, fs_133)), (q_1, .inl (cA_2, 65536, .inl (fun _ => 0)))]) [0, 1] rfl
  have hD := hD.sub (ws' := [(h0, .inr (12, fs_133)), (q_1, .inl (cA_2, 65536, .inl (fun _ => 0)))]) [0, 1] (by decide) rfl
  have hK := hK.sub (tys' := [(cA_2, .byte)]) [0] rfl
  refine lv_aload_n hx hb d_Mod_init_548 rfl (lv_at hl 0 rfl) ?_
  refine lv_iconst (v := 0) hx hb d_Mod_init_549 (by decide) ?_
  refine va_put (D := (dC, dI)) (ci := 12) (v := .int 0) (ty := .int) (C := R_Mod) (T := T_Mod) (N := 76) hx hb hT in_Mod ty_Mod tyo_Mod nm_Mod hown hK hP hD hS 0 rfl rfl 75 (by decide) (hT _ vt_249) (fun _ h9 => h9) rfl (by decide +kernel) rfl rfl (by rw [hz.1]; decide) d_Mod_init_550 (fun H locs hP hD hS => ?_)
  have hP : va_P (dC, dI) classes [(h0, .inr (12, fs_133)), (q_1, .inl (cA_2, 65536, .inl (fun _ => 0)))] H := by rw [← hz.set0 (k := 75) (by decide)]; exact hP
  have hD : va_D A [(h0, .inr (12, fs_133)), (q_1, .inl (cA_2, 65536, .inl (fun _ => 0)))] := by rw [← hz.set0 (k := 75) (by decide)]; exact hD
  refine W.widen (k := 44) (n := 2669993) (Nat.le_of_ble_eq_true rfl) (Nat.le_of_ble_eq_true rfl) ?_
  have hP9 := hP.sub (ws' := [(h0, .inr (12, fs_133)), (q_1, .inl (cA_2, 65536, .inl (fun _ => 0)))]) [0, 1] rfl
  have hD9 := hD.sub (ws' := [(h0, .inr (12, fs_133)), (q_1, .inl (cA_2, 65536, .inl (fun _ => 0)))]) [0, 1] (by decide) rfl
  have hK9 := hK.sub (tys' := [(cA_2, .byte)]) [0] rfl
  exact W.vret hx hb hr (fun t ht hW => ⟨⟨(), rfl, trivial, fs_133, q_1, cA_2, by rw [ht]; exact hP9, va_K.moved hW.alike hK9, hD9, hz, htp⟩, hS.F ht⟩) hS.2.2 d_Mod_init_553
