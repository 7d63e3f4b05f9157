set_option maxHeartbeats 20000000 in
set_option maxRecDepth 100000 in
/-- FamilyKernelModel() -/
theorem c_Mod_init (l : Launch) (dC : Nat → ClassId) (dI : Nat → Nat → Nat) (sz : Nat) (h0 : Nat) (cI cB cZ : ClassId) : Met l y_Mod_init w_Mod_init ({ frames := 20, cells := 44, slots := 2669993, locals := 600 }) (Pw dC dI [.ref h0] sz [(h0, .inr (12, [.null, .null, .int 0, .int 0, .int 0, .int 0, .int 0, .int 0, .int 0, .int 0, .int 0, .int 0, .null, .null, .null, .null, .null, .null, .int 0, .null, .int 0, .int 0, .int 0, .int 0, .null, .null, .null, .int 0, .int 0, .null, .null, .null, .null, .null, .null, .null, .null, .null, .null, .null, .null, .null, .int 0, .int 0, .null, .null, .int 0, .null, .null, .null, .null, .null, .int 0, .int 0, .int 0, .int 0, .null, .int 0, .int 0, .int 0, .int 0, .int 0, .null, .null, .null, .null, .null, .null, .null, .null, .int 0, .null, .int 0, .null, .null, .int 0]))] [(cI, .int), (cB, .byte), (cZ, .boolean)]) (va_Qv (fun _ : Unit => True) (fun _ t => ∃ (q1 q2 q3 q4 q5 q6 q7 q8 q9 q10 q11 q12 q13 q14 q15 q16 q17 q18 q19 q20 q21 q22 q23 q24 q25 q26 q27 q28 q29 q30 q31 q32 q33 q34 q35 q36 q37 q38 q39 q40 q41 q42 q43 q44 : Nat), va_P (dC, dI) classes [(h0, .inr (12, [.ref q1, .ref q2, .int 0, .int 0, .int 0, .int 0, .int 0, .int 0, .int 0, .int 0, .int 0, .int 0, .ref q3, .ref q4, .ref q5, .ref q6, .ref q7, .ref q8, .int 32000, .ref q9, .int 0, .int 0, .int 0, .int 0, .ref q10, .ref q11, .ref q12, .int 0, .int 0, .ref q13, .ref q14, .ref q15, .ref q16, .ref q17, .ref q18, .ref q19, .ref q20, .ref q21, .ref q22, .ref q23, .ref q24, .ref q25, .int 0, .int 0, .ref q26, .ref q27, .int 0, .ref q28, .ref q29, .ref q30, .ref q31, .ref q32, .int 0, .int 0, .int 0, .int 0, .ref q33, .int 0, .int 0, .int 0, .int 0, .int 0, .ref q34, .ref q35, .ref q36, .ref q37, .ref q38, .ref q39, .ref q40, .ref q41, .int 0, .ref q42, .int 0, .ref q43, .ref q44, .int 0])), (q1, .inl (cB, 65536, .inl (fun _ => 0))), (q2, .inl (cB, 65536, .inl (fun _ => 0))), (q3, .inl (cB, 400000, .inl (fun _ => 0))), (q4, .inl (cI, 400000, .inl (fun _ => 0))), (q5, .inl (cI, 400000, .inl (fun _ => 0))), (q6, .inl (cI, 400000, .inl (fun _ => 0))), (q7, .inl (cI, 400000, .inl (fun _ => 0))), (q8, .inl (cI, 400000, .inl (fun _ => 0))), (q9, .inl (cI, 8000, .inl (fun _ => 0))), (q10, .inl (cB, 9400, .inl (fun _ => 0))), (q11, .inl (cI, 301, .inl (fun _ => 0))), (q12, .inl (cI, 301, .inl (fun _ => 0))), (q13, .inl (cI, 301, .inl (fun _ => 0))), (q14, .inl (cI, 301, .inl (fun _ => 0))), (q15, .inl (cI, 301, .inl (fun _ => 0))), (q16, .inl (cI, 301, .inl (fun _ => 0))), (q17, .inl (cI, 301, .inl (fun _ => 0))), (q18, .inl (cI, 301, .inl (fun _ => 0))), (q19, .inl (cI, 301, .inl (fun _ => 0))), (q20, .inl (cI, 301, .inl (fun _ => 0))), (q21, .inl (cI, 301, .inl (fun _ => 0))), (q22, .inl (cI, 301, .inl (fun _ => 0))), (q23, .inl (cI, 301, .inl (fun _ => 0))), (q24, .inl (cI, 301, .inl (fun _ => 0))), (q25, .inl (cZ, 301, .inl (fun _ => 0))), (q26, .inl (cI, 3400, .inl (fun _ => 0))), (q27, .inl (cI, 3400, .inl (fun _ => 0))), (q28, .inl (cI, 3400, .inl (fun _ => 0))), (q29, .inl (cI, 3100, .inl (fun _ => 0))), (q30, .inl (cI, 3100, .inl (fun _ => 0))), (q31, .inl (cI, 3400, .inl (fun _ => 0))), (q32, .inl (cI, 3400, .inl (fun _ => 0))), (q33, .inl (cI, 66000, .inl (fun _ => 0))), (q34, .inl (cI, 5000, .inl (fun _ => 0))), (q35, .inl (cI, 301, .inl (fun _ => 0))), (q36, .inl (cI, 301, .inl (fun _ => 0))), (q37, .inl (cI, 301, .inl (fun _ => 0))), (q38, .inl (cI, 301, .inl (fun _ => 0))), (q39, .inl (cI, 4000, .inl (fun _ => 0))), (q40, .inl (cZ, 4000, .inl (fun _ => 0))), (q41, .inl (cZ, 4000, .inl (fun _ => 0))), (q42, .inl (cI, 9000, .inl (fun _ => 0))), (q43, .inl (cI, 301, .inl (fun _ => 0))), (q44, .inl (cI, 301, .inl (fun _ => 0)))] t.heap ∧ va_K (dC, dI) classes [(cI, .int), (cB, .byte), (cZ, .boolean)] t ∧ va_D (va_A [(h0, .inr (12, [.null, .null, .int 0, .int 0, .int 0, .int 0, .int 0, .int 0, .int 0, .int 0, .int 0, .int 0, .null, .null, .null, .null, .null, .null, .int 0, .null, .int 0, .int 0, .int 0, .int 0, .null, .null, .null, .int 0, .int 0, .null, .null, .null, .null, .null, .null, .null, .null, .null, .null, .null, .null, .null, .int 0, .int 0, .null, .null, .int 0, .null, .null, .null, .null, .null, .int 0, .int 0, .int 0, .int 0, .null, .int 0, .int 0, .int 0, .int 0, .int 0, .null, .null, .null, .null, .null, .null, .null, .null, .int 0, .null, .int 0, .null, .null, .int 0]))] sz) [(h0, .inr (12, [.ref q1, .ref q2, .int 0, .int 0, .int 0, .int 0, .int 0, .int 0, .int 0, .int 0, .int 0, .int 0, .ref q3, .ref q4, .ref q5, .ref q6, .ref q7, .ref q8, .int 32000, .ref q9, .int 0, .int 0, .int 0, .int 0, .ref q10, .ref q11, .ref q12, .int 0, .int 0, .ref q13, .ref q14, .ref q15, .ref q16, .ref q17, .ref q18, .ref q19, .ref q20, .ref q21, .ref q22, .ref q23, .ref q24, .ref q25, .int 0, .int 0, .ref q26, .ref q27, .int 0, .ref q28, .ref q29, .ref q30, .ref q31, .ref q32, .int 0, .int 0, .int 0, .int 0, .ref q33, .int 0, .int 0, .int 0, .int 0, .int 0, .ref q34, .ref q35, .ref q36, .ref q37, .ref q38, .ref q39, .ref q40, .ref q41, .int 0, .ref q42, .int 0, .ref q43, .ref q44, .int 0])), (q1, .inl (cB, 65536, .inl (fun _ => 0))), (q2, .inl (cB, 65536, .inl (fun _ => 0))), (q3, .inl (cB, 400000, .inl (fun _ => 0))), (q4, .inl (cI, 400000, .inl (fun _ => 0))), (q5, .inl (cI, 400000, .inl (fun _ => 0))), (q6, .inl (cI, 400000, .inl (fun _ => 0))), (q7, .inl (cI, 400000, .inl (fun _ => 0))), (q8, .inl (cI, 400000, .inl (fun _ => 0))), (q9, .inl (cI, 8000, .inl (fun _ => 0))), (q10, .inl (cB, 9400, .inl (fun _ => 0))), (q11, .inl (cI, 301, .inl (fun _ => 0))), (q12, .inl (cI, 301, .inl (fun _ => 0))), (q13, .inl (cI, 301, .inl (fun _ => 0))), (q14, .inl (cI, 301, .inl (fun _ => 0))), (q15, .inl (cI, 301, .inl (fun _ => 0))), (q16, .inl (cI, 301, .inl (fun _ => 0))), (q17, .inl (cI, 301, .inl (fun _ => 0))), (q18, .inl (cI, 301, .inl (fun _ => 0))), (q19, .inl (cI, 301, .inl (fun _ => 0))), (q20, .inl (cI, 301, .inl (fun _ => 0))), (q21, .inl (cI, 301, .inl (fun _ => 0))), (q22, .inl (cI, 301, .inl (fun _ => 0))), (q23, .inl (cI, 301, .inl (fun _ => 0))), (q24, .inl (cI, 301, .inl (fun _ => 0))), (q25, .inl (cZ, 301, .inl (fun _ => 0))), (q26, .inl (cI, 3400, .inl (fun _ => 0))), (q27, .inl (cI, 3400, .inl (fun _ => 0))), (q28, .inl (cI, 3400, .inl (fun _ => 0))), (q29, .inl (cI, 3100, .inl (fun _ => 0))), (q30, .inl (cI, 3100, .inl (fun _ => 0))), (q31, .inl (cI, 3400, .inl (fun _ => 0))), (q32, .inl (cI, 3400, .inl (fun _ => 0))), (q33, .inl (cI, 66000, .inl (fun _ => 0))), (q34, .inl (cI, 5000, .inl (fun _ => 0))), (q35, .inl (cI, 301, .inl (fun _ => 0))), (q36, .inl (cI, 301, .inl (fun _ => 0))), (q37, .inl (cI, 301, .inl (fun _ => 0))), (q38, .inl (cI, 301, .inl (fun _ => 0))), (q39, .inl (cI, 4000, .inl (fun _ => 0))), (q40, .inl (cZ, 4000, .inl (fun _ => 0))), (q41, .inl (cZ, 4000, .inl (fun _ => 0))), (q42, .inl (cI, 9000, .inl (fun _ => 0))), (q43, .inl (cI, 301, .inl (fun _ => 0))), (q44, .inl (cI, 301, .inl (fun _ => 0)))]) (va_A [(h0, .inr (12, [.null, .null, .int 0, .int 0, .int 0, .int 0, .int 0, .int 0, .int 0, .int 0, .int 0, .int 0, .null, .null, .null, .null, .null, .null, .int 0, .null, .int 0, .int 0, .int 0, .int 0, .null, .null, .null, .int 0, .int 0, .null, .null, .null, .null, .null, .null, .null, .null, .null, .null, .null, .null, .null, .int 0, .int 0, .null, .null, .int 0, .null, .null, .null, .null, .null, .int 0, .int 0, .int 0, .int 0, .null, .int 0, .int 0, .int 0, .int 0, .int 0, .null, .null, .null, .null, .null, .null, .null, .null, .int 0, .null, .int 0, .null, .null, .int 0]))] sz)) 44 2669993 (va_A [(h0, .inr (12, [.null, .null, .int 0, .int 0, .int 0, .int 0, .int 0, .int 0, .int 0, .int 0, .int 0, .int 0, .null, .null, .null, .null, .null, .null, .int 0, .null, .int 0, .int 0, .int 0, .int 0, .null, .null, .null, .int 0, .int 0, .null, .null, .null, .null, .null, .null, .null, .null, .null, .null, .null, .null, .null, .int 0, .int 0, .null, .null, .int 0, .null, .null, .null, .null, .null, .int 0, .int 0, .int 0, .int 0, .null, .int 0, .int 0, .int 0, .int 0, .int 0, .null, .null, .null, .null, .null, .null, .null, .null, .int 0, .null, .int 0, .null, .null, .int 0]))] sz) := by
  refine Met.ofW (cc := b_Mod_init) (maxL := 1) (ret := none) (by decide) rfl ?_
  intro p e s m args below meth c s₁ B hml hv
  obtain ⟨rfl, hsz, hP, hK, hD0⟩ := hv
  have hx := B.exec
  have hb := B.bytes
  have hr := B.returns
  have hT : ∀ w ∈ vT, w.before _ s = true := fun w h => atoms_spec (ws := w_Mod_init) B.pre w (List.mem_cons_of_mem _ h)
  have hown : s.vm.findClass R_Mod = some m.cls := findClass_of_methodNamed B.named
  have hlocks := B.notSynchronized
  have hin : meth.name = "<init>" := (name_of_methodNamed B.named B.method).1
  subst hsz
  have hD := hD0.self (sz := s.heap.size)
  generalize hAe : va_A [(h0, .inr (12, [.null, .null, .int 0, .int 0, .int 0, .int 0, .int 0, .int 0, .int 0, .int 0, .int 0, .int 0, .null, .null, .null, .null, .null, .null, .int 0, .null, .int 0, .int 0, .int 0, .int 0, .null, .null, .null, .int 0, .int 0, .null, .null, .null, .null, .null, .null, .null, .null, .null, .null, .null, .null, .null, .int 0, .int 0, .null, .null, .int 0, .null, .null, .null, .null, .null, .int 0, .int 0, .int 0, .int 0, .null, .int 0, .int 0, .int 0, .int 0, .int 0, .null, .null, .null, .null, .null, .null, .null, .null, .int 0, .null, .int 0, .null, .null, .int 0]))] s.heap.size = A at hD ⊢
  have hA : ∀ q : Nat, s.heap.size ≤ q → A q := fun q h => by rw [← hAe]; exact Or.inr h
  have hS : va_S A s.heap s.heap [] := va_S.rf
  have hP : va_P (dC, dI) classes [(h0, .inr (12, [.null, .null, .int 0, .int 0, .int 0, .int 0, .int 0, .int 0, .int 0, .int 0, .int 0, .int 0, .null, .null, .null, .null, .null, .null, .int 0, .null, .int 0, .int 0, .int 0, .int 0, .null, .null, .null, .int 0, .int 0, .null, .null, .null, .null, .null, .null, .null, .null, .null, .null, .null, .null, .null, .int 0, .int 0, .null, .null, .int 0, .null, .null, .null, .null, .null, .int 0, .int 0, .int 0, .int 0, .null, .int 0, .int 0, .int 0, .int 0, .int 0, .null, .null, .null, .null, .null, .null, .null, .null, .int 0, .null, .int 0, .null, .null, .int 0]))] s.heap := hP
  have hl := lv_entry ([.ref h0]) (n := 1) (Nat.le_of_ble_eq_true rfl)
  rw [lg_entry_eq]
  generalize (lg_sl ([.ref h0]) ++ List.replicate (1 - (lg_sl ([.ref h0])).length) Slot.unset).toArray = ls at hl ⊢
  have hl : lv_has ls 1 [(0, .ref h0)] := hl
  refine lv_aload_n hx hb d_Mod_init_0 rfl (lv_at hl 0 rfl) ?_
  refine W.objInit hx hb hown (hT _ vt_1263) (hT _ vt_1) (hT _ vt_2) rfl (by rw [hml]; exact hl.1) rfl d_Mod_init_1 (Nat.le_of_ble_eq_true rfl) (Nat.le_of_ble_eq_true rfl) ?_
  refine W.eq (g2 := F0 m 4 ls []) rfl ?_
  obtain ⟨fs_0, hfs⟩ : ∃ z : List Value, z = [.null, .null, .int 0, .int 0, .int 0, .int 0, .int 0, .int 0, .int 0, .int 0, .int 0, .int 0, .null, .null, .null, .null, .null, .null, .int 0, .null, .int 0, .int 0, .int 0, .int 0, .null, .null, .null, .int 0, .int 0, .null, .null, .null, .null, .null, .null, .null, .null, .null, .null, .null, .null, .null, .int 0, .int 0, .null, .null, .int 0, .null, .null, .null, .null, .null, .int 0, .int 0, .int 0, .int 0, .null, .int 0, .int 0, .int 0, .int 0, .int 0, .null, .null, .null, .null, .null, .null, .null, .null, .int 0, .null, .int 0, .null, .null, .int 0] := ⟨_, rfl⟩
  obtain ⟨ar_0, har⟩ : ∃ z : va_W, z = [] := ⟨_, rfl⟩
  replace hP : va_P (dC, dI) classes ((h0, .inr (12, fs_0)) :: ar_0) s.heap := by rw [hfs, har]; exact hP
  replace hD : va_D A ((h0, .inr (12, fs_0)) :: ar_0) := by rw [hfs, har]; exact hD
  refine lv_aload_n hx hb d_Mod_init_4 rfl (lv_at hl 0 rfl) ?_
  refine lv_ldc (v := 65536) hx hb hown (hT _ vt_1264) d_Mod_init_5 ?_
  refine va_newk (atype := .byte) (ty := .byte) (cA := cB) (a0 := (65536, .inl (fun _ => 0))) hx hb (hT _ vt_1265) rfl hK 1 rfl (fun _ _ => rfl) hP hD hS hA (fun _ => rfl) (by decide) (by decide) (by decide) (Nat.le_of_ble_eq_true rfl) (Nat.le_of_ble_eq_true rfl) d_Mod_init_7 (fun q_0 H hP2 hD2 hS2 => ?_)
  clear hP hD hS
  have hS := hS2
  clear hS2
  refine W.widen (k := 1) (n := 65536) (Nat.le_of_ble_eq_true rfl) (Nat.le_of_ble_eq_true rfl) ?_
  subst har
  obtain ⟨ar_1, har⟩ : ∃ z : va_W, z = [(q_0, .inl (cB, 65536, .inl (fun _ => 0)))] := ⟨_, rfl⟩
  have hP : va_P (dC, dI) classes ((h0, .inr (12, fs_0)) :: ar_1) H := by rw [har]; exact hP2
  have hD : va_D A ((h0, .inr (12, fs_0)) :: ar_1) := by rw [har]; exact hD2
  clear hP2 hD2
  refine va_putF (D := (dC, dI)) (ci := 12) (v := .ref q_0) (ty := (.array .byte)) (C := R_Mod) (T := T_Mod) (N := 76) hx hb hT in_Mod ty_Mod tyo_Mod nm_Mod hown hK hP hD hS 0 rfl rfl 0 (by decide) (hT _ vt_1266) (fun _ h9 => h9) rfl hin rfl (by decide +kernel) rfl rfl (by rw [hfs]; exact Nat.le_of_ble_eq_true rfl) d_Mod_init_9 (fun H locs hP2 hD2 hS2 => ?_)
  clear hP hD hS
  have hS := hS2
  clear hS2
  subst hfs
  obtain ⟨fs_2, hfs⟩ : ∃ z : List Value, z = [.ref q_0, .null, .int 0, .int 0, .int 0, .int 0, .int 0, .int 0, .int 0, .int 0, .int 0, .int 0, .null, .null, .null, .null, .null, .null, .int 0, .null, .int 0, .int 0, .int 0, .int 0, .null, .null, .null, .int 0, .int 0, .null, .null, .null, .null, .null, .null, .null, .null, .null, .null, .null, .null, .null, .int 0, .int 0, .null, .null, .int 0, .null, .null, .null, .null, .null, .int 0, .int 0, .int 0, .int 0, .null, .int 0, .int 0, .int 0, .int 0, .int 0, .null, .null, .null, .null, .null, .null, .null, .null, .int 0, .null, .int 0, .null, .null, .int 0] := ⟨_, rfl⟩
  have hP : va_P (dC, dI) classes ((h0, .inr (12, fs_2)) :: ar_1) H := by rw [hfs]; exact hP2
  have hD : va_D A ((h0, .inr (12, fs_2)) :: ar_1) := by rw [hfs]; exact hD2
  clear hP2 hD2
  refine lv_aload_n hx hb d_Mod_init_12 rfl (lv_at hl 0 rfl) ?_
  refine lv_ldc (v := 65536) hx hb hown (hT _ vt_1264) d_Mod_init_13 ?_
  refine va_newk (atype := .byte) (ty := .byte) (cA := cB) (a0 := (65536, .inl (fun _ => 0))) hx hb (hT _ vt_1265) rfl hK 1 rfl (fun _ _ => rfl) hP hD hS hA (fun _ => rfl) (by decide) (by decide) (by decide) (Nat.le_of_ble_eq_true rfl) (Nat.le_of_ble_eq_true rfl) d_Mod_init_15 (fun q_2 H hP2 hD2 hS2 => ?_)
  clear hP hD hS
  have hS := hS2
  clear hS2
  refine W.widen (k := 2) (n := 131072) (Nat.le_of_ble_eq_true rfl) (Nat.le_of_ble_eq_true rfl) ?_
  subst har
  obtain ⟨ar_3, har⟩ : ∃ z : va_W, z = [(q_0, .inl (cB, 65536, .inl (fun _ => 0))), (q_2, .inl (cB, 65536, .inl (fun _ => 0)))] := ⟨_, rfl⟩
  have hP : va_P (dC, dI) classes ((h0, .inr (12, fs_2)) :: ar_3) H := by rw [har]; exact hP2
  have hD : va_D A ((h0, .inr (12, fs_2)) :: ar_3) := by rw [har]; exact hD2
  clear hP2 hD2
  refine va_putF (D := (dC, dI)) (ci := 12) (v := .ref q_2) (ty := (.array .byte)) (C := R_Mod) (T := T_Mod) (N := 76) hx hb hT in_Mod ty_Mod tyo_Mod nm_Mod hown hK hP hD hS 0 rfl rfl 1 (by decide) (hT _ vt_1267) (fun _ h9 => h9) rfl hin rfl (by decide +kernel) rfl rfl (by rw [hfs]; exact Nat.le_of_ble_eq_true rfl) d_Mod_init_17 (fun H locs hP2 hD2 hS2 => ?_)
  clear hP hD hS
  have hS := hS2
  clear hS2
  subst hfs
  obtain ⟨fs_4, hfs⟩ : ∃ z : List Value, z = [.ref q_0, .ref q_2, .int 0, .int 0, .int 0, .int 0, .int 0, .int 0, .int 0, .int 0, .int 0, .int 0, .null, .null, .null, .null, .null, .null, .int 0, .null, .int 0, .int 0, .int 0, .int 0, .null, .null, .null, .int 0, .int 0, .null, .null, .null, .null, .null, .null, .null, .null, .null, .null, .null, .null, .null, .int 0, .int 0, .null, .null, .int 0, .null, .null, .null, .null, .null, .int 0, .int 0, .int 0, .int 0, .null, .int 0, .int 0, .int 0, .int 0, .int 0, .null, .null, .null, .null, .null, .null, .null, .null, .int 0, .null, .int 0, .null, .null, .int 0] := ⟨_, rfl⟩
  have hP : va_P (dC, dI) classes ((h0, .inr (12, fs_4)) :: ar_3) H := by rw [hfs]; exact hP2
  have hD : va_D A ((h0, .inr (12, fs_4)) :: ar_3) := by rw [hfs]; exact hD2
  clear hP2 hD2
  refine lv_aload_n hx hb d_Mod_init_20 rfl (lv_at hl 0 rfl) ?_
  refine lv_iconst (v := 0) hx hb d_Mod_init_21 (by decide) ?_
  refine va_put (D := (dC, dI)) (ci := 12) (v := .int 0) (ty := .int) (C := R_Mod) (T := T_Mod) (N := 76) hx hb hT in_Mod ty_Mod tyo_Mod nm_Mod hown hK hP hD hS 0 rfl rfl 2 (by decide) (hT _ vt_1268) (fun _ h9 => h9) rfl (by decide +kernel) rfl rfl (by rw [hfs]; exact Nat.le_of_ble_eq_true rfl) d_Mod_init_22 (fun H locs hP2 hD2 hS2 => ?_)
  clear hP hD hS
  have hS := hS2
  clear hS2
  subst hfs
  obtain ⟨fs_5, hfs⟩ : ∃ z : List Value, z = [.ref q_0, .ref q_2, .int 0, .int 0, .int 0, .int 0, .int 0, .int 0, .int 0, .int 0, .int 0, .int 0, .null, .null, .null, .null, .null, .null, .int 0, .null, .int 0, .int 0, .int 0, .int 0, .null, .null, .null, .int 0, .int 0, .null, .null, .null, .null, .null, .null, .null, .null, .null, .null, .null, .null, .null, .int 0, .int 0, .null, .null, .int 0, .null, .null, .null, .null, .null, .int 0, .int 0, .int 0, .int 0, .null, .int 0, .int 0, .int 0, .int 0, .int 0, .null, .null, .null, .null, .null, .null, .null, .null, .int 0, .null, .int 0, .null, .null, .int 0] := ⟨_, rfl⟩
  have hP : va_P (dC, dI) classes ((h0, .inr (12, fs_5)) :: ar_3) H := by rw [hfs]; exact hP2
  have hD : va_D A ((h0, .inr (12, fs_5)) :: ar_3) := by rw [hfs]; exact hD2
  clear hP2 hD2
  refine lv_aload_n hx hb d_Mod_init_25 rfl (lv_at hl 0 rfl) ?_
  refine lv_iconst (v := 0) hx hb d_Mod_init_26 (by decide) ?_
  refine va_put (D := (dC, dI)) (ci := 12) (v := .int 0) (ty := .int) (C := R_Mod) (T := T_Mod) (N := 76) hx hb hT in_Mod ty_Mod tyo_Mod nm_Mod hown hK hP hD hS 0 rfl rfl 3 (by decide) (hT _ vt_1269) (fun _ h9 => h9) rfl (by decide +kernel) rfl rfl (by rw [hfs]; exact Nat.le_of_ble_eq_true rfl) d_Mod_init_27 (fun H locs hP2 hD2 hS2 => ?_)
  clear hP hD hS
  have hS := hS2
  clear hS2
  subst hfs
  obtain ⟨fs_6, hfs⟩ : ∃ z : List Value, z = [.ref q_0, .ref q_2, .int 0, .int 0, .int 0, .int 0, .int 0, .int 0, .int 0, .int 0, .int 0, .int 0, .null, .null, .null, .null, .null, .null, .int 0, .null, .int 0, .int 0, .int 0, .int 0, .null, .null, .null, .int 0, .int 0, .null, .null, .null, .null, .null, .null, .null, .null, .null, .null, .null, .null, .null, .int 0, .int 0, .null, .null, .int 0, .null, .null, .null, .null, .null, .int 0, .int 0, .int 0, .int 0, .null, .int 0, .int 0, .int 0, .int 0, .int 0, .null, .null, .null, .null, .null, .null, .null, .null, .int 0, .null, .int 0, .null, .null, .int 0] := ⟨_, rfl⟩
  have hP : va_P (dC, dI) classes ((h0, .inr (12, fs_6)) :: ar_3) H := by rw [hfs]; exact hP2
  have hD : va_D A ((h0, .inr (12, fs_6)) :: ar_3) := by rw [hfs]; exact hD2
  clear hP2 hD2
  refine lv_aload_n hx hb d_Mod_init_30 rfl (lv_at hl 0 rfl) ?_
  refine lv_iconst (v := 0) hx hb d_Mod_init_31 (by decide) ?_
  refine va_put (D := (dC, dI)) (ci := 12) (v := .int 0) (ty := .int) (C := R_Mod) (T := T_Mod) (N := 76) hx hb hT in_Mod ty_Mod tyo_Mod nm_Mod hown hK hP hD hS 0 rfl rfl 4 (by decide) (hT _ vt_1270) (fun _ h9 => h9) rfl (by decide +kernel) rfl rfl (by rw [hfs]; exact Nat.le_of_ble_eq_true rfl) d_Mod_init_32 (fun H locs hP2 hD2 hS2 => ?_)
  clear hP hD hS
  have hS := hS2
  clear hS2
  subst hfs
  obtain ⟨fs_7, hfs⟩ : ∃ z : List Value, z = [.ref q_0, .ref q_2, .int 0, .int 0, .int 0, .int 0, .int 0, .int 0, .int 0, .int 0, .int 0, .int 0, .null, .null, .null, .null, .null, .null, .int 0, .null, .int 0, .int 0, .int 0, .int 0, .null, .null, .null, .int 0, .int 0, .null, .null, .null, .null, .null, .null, .null, .null, .null, .null, .null, .null, .null, .int 0, .int 0, .null, .null, .int 0, .null, .null, .null, .null, .null, .int 0, .int 0, .int 0, .int 0, .null, .int 0, .int 0, .int 0, .int 0, .int 0, .null, .null, .null, .null, .null, .null, .null, .null, .int 0, .null, .int 0, .null, .null, .int 0] := ⟨_, rfl⟩
  have hP : va_P (dC, dI) classes ((h0, .inr (12, fs_7)) :: ar_3) H := by rw [hfs]; exact hP2
  have hD : va_D A ((h0, .inr (12, fs_7)) :: ar_3) := by rw [hfs]; exact hD2
  clear hP2 hD2
  refine lv_aload_n hx hb d_Mod_init_35 rfl (lv_at hl 0 rfl) ?_
  refine lv_iconst (v := 0) hx hb d_Mod_init_36 (by decide) ?_
  refine va_put (D := (dC, dI)) (ci := 12) (v := .int 0) (ty := .int) (C := R_Mod) (T := T_Mod) (N := 76) hx hb hT in_Mod ty_Mod tyo_Mod nm_Mod hown hK hP hD hS 0 rfl rfl 5 (by decide) (hT _ vt_1271) (fun _ h9 => h9) rfl (by decide +kernel) rfl rfl (by rw [hfs]; exact Nat.le_of_ble_eq_true rfl) d_Mod_init_37 (fun H locs hP2 hD2 hS2 => ?_)
  clear hP hD hS
  have hS := hS2
  clear hS2
  subst hfs
  obtain ⟨fs_8, hfs⟩ : ∃ z : List Value, z = [.ref q_0, .ref q_2, .int 0, .int 0, .int 0, .int 0, .int 0, .int 0, .int 0, .int 0, .int 0, .int 0, .null, .null, .null, .null, .null, .null, .int 0, .null, .int 0, .int 0, .int 0, .int 0, .null, .null, .null, .int 0, .int 0, .null, .null, .null, .null, .null, .null, .null, .null, .null, .null, .null, .null, .null, .int 0, .int 0, .null, .null, .int 0, .null, .null, .null, .null, .null, .int 0, .int 0, .int 0, .int 0, .null, .int 0, .int 0, .int 0, .int 0, .int 0, .null, .null, .null, .null, .null, .null, .null, .null, .int 0, .null, .int 0, .null, .null, .int 0] := ⟨_, rfl⟩
  have hP : va_P (dC, dI) classes ((h0, .inr (12, fs_8)) :: ar_3) H := by rw [hfs]; exact hP2
  have hD : va_D A ((h0, .inr (12, fs_8)) :: ar_3) := by rw [hfs]; exact hD2
  clear hP2 hD2
  refine lv_aload_n hx hb d_Mod_init_40 rfl (lv_at hl 0 rfl) ?_
  refine lv_iconst (v := 0) hx hb d_Mod_init_41 (by decide) ?_
  refine va_put (D := (dC, dI)) (ci := 12) (v := .int 0) (ty := .int) (C := R_Mod) (T := T_Mod) (N := 76) hx hb hT in_Mod ty_Mod tyo_Mod nm_Mod hown hK hP hD hS 0 rfl rfl 6 (by decide) (hT _ vt_1272) (fun _ h9 => h9) rfl (by decide +kernel) rfl rfl (by rw [hfs]; exact Nat.le_of_ble_eq_true rfl) d_Mod_init_42 (fun H locs hP2 hD2 hS2 => ?_)
  clear hP hD hS
  have hS := hS2
  clear hS2
  subst hfs
  obtain ⟨fs_9, hfs⟩ : ∃ z : List Value, z = [.ref q_0, .ref q_2, .int 0, .int 0, .int 0, .int 0, .int 0, .int 0, .int 0, .int 0, .int 0, .int 0, .null, .null, .null, .null, .null, .null, .int 0, .null, .int 0, .int 0, .int 0, .int 0, .null, .null, .null, .int 0, .int 0, .null, .null, .null, .null, .null, .null, .null, .null, .null, .null, .null, .null, .null, .int 0, .int 0, .null, .null, .int 0, .null, .null, .null, .null, .null, .int 0, .int 0, .int 0, .int 0, .null, .int 0, .int 0, .int 0, .int 0, .int 0, .null, .null, .null, .null, .null, .null, .null, .null, .int 0, .null, .int 0, .null, .null, .int 0] := ⟨_, rfl⟩
  have hP : va_P (dC, dI) classes ((h0, .inr (12, fs_9)) :: ar_3) H := by rw [hfs]; exact hP2
  have hD : va_D A ((h0, .inr (12, fs_9)) :: ar_3) := by rw [hfs]; exact hD2
  clear hP2 hD2
  refine lv_aload_n hx hb d_Mod_init_45 rfl (lv_at hl 0 rfl) ?_
  refine lv_iconst (v := 0) hx hb d_Mod_init_46 (by decide) ?_
  refine va_put (D := (dC, dI)) (ci := 12) (v := .int 0) (ty := .int) (C := R_Mod) (T := T_Mod) (N := 76) hx hb hT in_Mod ty_Mod tyo_Mod nm_Mod hown hK hP hD hS 0 rfl rfl 7 (by decide) (hT _ vt_1273) (fun _ h9 => h9) rfl (by decide +kernel) rfl rfl (by rw [hfs]; exact Nat.le_of_ble_eq_true rfl) d_Mod_init_47 (fun H locs hP2 hD2 hS2 => ?_)
  clear hP hD hS
  have hS := hS2
  clear hS2
  subst hfs
  obtain ⟨fs_10, hfs⟩ : ∃ z : List Value, z = [.ref q_0, .ref q_2, .int 0, .int 0, .int 0, .int 0, .int 0, .int 0, .int 0, .int 0, .int 0, .int 0, .null, .null, .null, .null, .null, .null, .int 0, .null, .int 0, .int 0, .int 0, .int 0, .null, .null, .null, .int 0, .int 0, .null, .null, .null, .null, .null, .null, .null, .null, .null, .null, .null, .null, .null, .int 0, .int 0, .null, .null, .int 0, .null, .null, .null, .null, .null, .int 0, .int 0, .int 0, .int 0, .null, .int 0, .int 0, .int 0, .int 0, .int 0, .null, .null, .null, .null, .null, .null, .null, .null, .int 0, .null, .int 0, .null, .null, .int 0] := ⟨_, rfl⟩
  have hP : va_P (dC, dI) classes ((h0, .inr (12, fs_10)) :: ar_3) H := by rw [hfs]; exact hP2
  have hD : va_D A ((h0, .inr (12, fs_10)) :: ar_3) := by rw [hfs]; exact hD2
  clear hP2 hD2
  refine lv_aload_n hx hb d_Mod_init_50 rfl (lv_at hl 0 rfl) ?_
  refine lv_iconst (v := 0) hx hb d_Mod_init_51 (by decide) ?_
  refine va_put (D := (dC, dI)) (ci := 12) (v := .int 0) (ty := .int) (C := R_Mod) (T := T_Mod) (N := 76) hx hb hT in_Mod ty_Mod tyo_Mod nm_Mod hown hK hP hD hS 0 rfl rfl 8 (by decide) (hT _ vt_1274) (fun _ h9 => h9) rfl (by decide +kernel) rfl rfl (by rw [hfs]; exact Nat.le_of_ble_eq_true rfl) d_Mod_init_52 (fun H locs hP2 hD2 hS2 => ?_)
  clear hP hD hS
  have hS := hS2
  clear hS2
  subst hfs
  obtain ⟨fs_11, hfs⟩ : ∃ z : List Value, z = [.ref q_0, .ref q_2, .int 0, .int 0, .int 0, .int 0, .int 0, .int 0, .int 0, .int 0, .int 0, .int 0, .null, .null, .null, .null, .null, .null, .int 0, .null, .int 0, .int 0, .int 0, .int 0, .null, .null, .null, .int 0, .int 0, .null, .null, .null, .null, .null, .null, .null, .null, .null, .null, .null, .null, .null, .int 0, .int 0, .null, .null, .int 0, .null, .null, .null, .null, .null, .int 0, .int 0, .int 0, .int 0, .null, .int 0, .int 0, .int 0, .int 0, .int 0, .null, .null, .null, .null, .null, .null, .null, .null, .int 0, .null, .int 0, .null, .null, .int 0] := ⟨_, rfl⟩
  have hP : va_P (dC, dI) classes ((h0, .inr (12, fs_11)) :: ar_3) H := by rw [hfs]; exact hP2
  have hD : va_D A ((h0, .inr (12, fs_11)) :: ar_3) := by rw [hfs]; exact hD2
  clear hP2 hD2
  refine lv_aload_n hx hb d_Mod_init_55 rfl (lv_at hl 0 rfl) ?_
  refine lv_iconst (v := 0) hx hb d_Mod_init_56 (by decide) ?_
  refine va_put (D := (dC, dI)) (ci := 12) (v := .int 0) (ty := .int) (C := R_Mod) (T := T_Mod) (N := 76) hx hb hT in_Mod ty_Mod tyo_Mod nm_Mod hown hK hP hD hS 0 rfl rfl 9 (by decide) (hT _ vt_1275) (fun _ h9 => h9) rfl (by decide +kernel) rfl rfl (by rw [hfs]; exact Nat.le_of_ble_eq_true rfl) d_Mod_init_57 (fun H locs hP2 hD2 hS2 => ?_)
  clear hP hD hS
  have hS := hS2
  clear hS2
  subst hfs
  obtain ⟨fs_12, hfs⟩ : ∃ z : List Value, z = [.ref q_0, .ref q_2, .int 0, .int 0, .int 0, .int 0, .int 0, .int 0, .int 0, .int 0, .int 0, .int 0, .null, .null, .null, .null, .null, .null, .int 0, .null, .int 0, .int 0, .int 0, .int 0, .null, .null, .null, .int 0, .int 0, .null, .null, .null, .null, .null, .null, .null, .null, .null, .null, .null, .null, .null, .int 0, .int 0, .null, .null, .int 0, .null, .null, .null, .null, .null, .int 0, .int 0, .int 0, .int 0, .null, .int 0, .int 0, .int 0, .int 0, .int 0, .null, .null, .null, .null, .null, .null, .null, .null, .int 0, .null, .int 0, .null, .null, .int 0] := ⟨_, rfl⟩
  have hP : va_P (dC, dI) classes ((h0, .inr (12, fs_12)) :: ar_3) H := by rw [hfs]; exact hP2
  have hD : va_D A ((h0, .inr (12, fs_12)) :: ar_3) := by rw [hfs]; exact hD2
  clear hP2 hD2
  refine lv_aload_n hx hb d_Mod_init_60 rfl (lv_at hl 0 rfl) ?_
  refine lv_iconst (v := 0) hx hb d_Mod_init_61 (by decide) ?_
  refine va_put (D := (dC, dI)) (ci := 12) (v := .int 0) (ty := .int) (C := R_Mod) (T := T_Mod) (N := 76) hx hb hT in_Mod ty_Mod tyo_Mod nm_Mod hown hK hP hD hS 0 rfl rfl 10 (by decide) (hT _ vt_1276) (fun _ h9 => h9) rfl (by decide +kernel) rfl rfl (by rw [hfs]; exact Nat.le_of_ble_eq_true rfl) d_Mod_init_62 (fun H locs hP2 hD2 hS2 => ?_)
  clear hP hD hS
  have hS := hS2
  clear hS2
  subst hfs
  obtain ⟨fs_13, hfs⟩ : ∃ z : List Value, z = [.ref q_0, .ref q_2, .int 0, .int 0, .int 0, .int 0, .int 0, .int 0, .int 0, .int 0, .int 0, .int 0, .null, .null, .null, .null, .null, .null, .int 0, .null, .int 0, .int 0, .int 0, .int 0, .null, .null, .null, .int 0, .int 0, .null, .null, .null, .null, .null, .null, .null, .null, .null, .null, .null, .null, .null, .int 0, .int 0, .null, .null, .int 0, .null, .null, .null, .null, .null, .int 0, .int 0, .int 0, .int 0, .null, .int 0, .int 0, .int 0, .int 0, .int 0, .null, .null, .null, .null, .null, .null, .null, .null, .int 0, .null, .int 0, .null, .null, .int 0] := ⟨_, rfl⟩
  have hP : va_P (dC, dI) classes ((h0, .inr (12, fs_13)) :: ar_3) H := by rw [hfs]; exact hP2
  have hD : va_D A ((h0, .inr (12, fs_13)) :: ar_3) := by rw [hfs]; exact hD2
  clear hP2 hD2
  refine lv_aload_n hx hb d_Mod_init_65 rfl (lv_at hl 0 rfl) ?_
  refine lv_iconst (v := 0) hx hb d_Mod_init_66 (by decide) ?_
  refine va_put (D := (dC, dI)) (ci := 12) (v := .int 0) (ty := .boolean) (C := R_Mod) (T := T_Mod) (N := 76) hx hb hT in_Mod ty_Mod tyo_Mod nm_Mod hown hK hP hD hS 0 rfl rfl 11 (by decide) (hT _ vt_1277) (fun _ h9 => h9) rfl (by decide +kernel) rfl rfl (by rw [hfs]; exact Nat.le_of_ble_eq_true rfl) d_Mod_init_67 (fun H locs hP2 hD2 hS2 => ?_)
  clear hP hD hS
  have hS := hS2
  clear hS2
  subst hfs
  obtain ⟨fs_14, hfs⟩ : ∃ z : List Value, z = [.ref q_0, .ref q_2, .int 0, .int 0, .int 0, .int 0, .int 0, .int 0, .int 0, .int 0, .int 0, .int 0, .null, .null, .null, .null, .null, .null, .int 0, .null, .int 0, .int 0, .int 0, .int 0, .null, .null, .null, .int 0, .int 0, .null, .null, .null, .null, .null, .null, .null, .null, .null, .null, .null, .null, .null, .int 0, .int 0, .null, .null, .int 0, .null, .null, .null, .null, .null, .int 0, .int 0, .int 0, .int 0, .null, .int 0, .int 0, .int 0, .int 0, .int 0, .null, .null, .null, .null, .null, .null, .null, .null, .int 0, .null, .int 0, .null, .null, .int 0] := ⟨_, rfl⟩
  have hP : va_P (dC, dI) classes ((h0, .inr (12, fs_14)) :: ar_3) H := by rw [hfs]; exact hP2
  have hD : va_D A ((h0, .inr (12, fs_14)) :: ar_3) := by rw [hfs]; exact hD2
  clear hP2 hD2
  refine lv_aload_n hx hb d_Mod_init_70 rfl (lv_at hl 0 rfl) ?_
  refine lv_ldc (v := 400000) hx hb hown (hT _ vt_1278) d_Mod_init_71 ?_
  refine va_newk (atype := .byte) (ty := .byte) (cA := cB) (a0 := (400000, .inl (fun _ => 0))) hx hb (hT _ vt_1265) rfl hK 1 rfl (fun _ _ => rfl) hP hD hS hA (fun _ => rfl) (by decide) (by decide) (by decide) (Nat.le_of_ble_eq_true rfl) (Nat.le_of_ble_eq_true rfl) d_Mod_init_73 (fun q_14 H hP2 hD2 hS2 => ?_)
  clear hP hD hS
  have hS := hS2
  clear hS2
  refine W.widen (k := 3) (n := 531072) (Nat.le_of_ble_eq_true rfl) (Nat.le_of_ble_eq_true rfl) ?_
  subst har
  obtain ⟨ar_15, har⟩ : ∃ z : va_W, z = [(q_0, .inl (cB, 65536, .inl (fun _ => 0))), (q_2, .inl (cB, 65536, .inl (fun _ => 0))), (q_14, .inl (cB, 400000, .inl (fun _ => 0)))] := ⟨_, rfl⟩
  have hP : va_P (dC, dI) classes ((h0, .inr (12, fs_14)) :: ar_15) H := by rw [har]; exact hP2
  have hD : va_D A ((h0, .inr (12, fs_14)) :: ar_15) := by rw [har]; exact hD2
  clear hP2 hD2
  refine va_putF (D := (dC, dI)) (ci := 12) (v := .ref q_14) (ty := (.array .byte)) (C := R_Mod) (T := T_Mod) (N := 76) hx hb hT in_Mod ty_Mod tyo_Mod nm_Mod hown hK hP hD hS 0 rfl rfl 12 (by decide) (hT _ vt_1279) (fun _ h9 => h9) rfl hin rfl (by decide +kernel) rfl rfl (by rw [hfs]; exact Nat.le_of_ble_eq_true rfl) d_Mod_init_75 (fun H locs hP2 hD2 hS2 => ?_)
  clear hP hD hS
  have hS := hS2
  clear hS2
  subst hfs
  obtain ⟨fs_16, hfs⟩ : ∃ z : List Value, z = [.ref q_0, .ref q_2, .int 0, .int 0, .int 0, .int 0, .int 0, .int 0, .int 0, .int 0, .int 0, .int 0, .ref q_14, .null, .null, .null, .null, .null, .int 0, .null, .int 0, .int 0, .int 0, .int 0, .null, .null, .null, .int 0, .int 0, .null, .null, .null, .null, .null, .null, .null, .null, .null, .null, .null, .null, .null, .int 0, .int 0, .null, .null, .int 0, .null, .null, .null, .null, .null, .int 0, .int 0, .int 0, .int 0, .null, .int 0, .int 0, .int 0, .int 0, .int 0, .null, .null, .null, .null, .null, .null, .null, .null, .int 0, .null, .int 0, .null, .null, .int 0] := ⟨_, rfl⟩
  have hP : va_P (dC, dI) classes ((h0, .inr (12, fs_16)) :: ar_15) H := by rw [hfs]; exact hP2
  have hD : va_D A ((h0, .inr (12, fs_16)) :: ar_15) := by rw [hfs]; exact hD2
  clear hP2 hD2
  refine lv_aload_n hx hb d_Mod_init_78 rfl (lv_at hl 0 rfl) ?_
  refine lv_ldc (v := 400000) hx hb hown (hT _ vt_1278) d_Mod_init_79 ?_
  refine va_newk (atype := .int) (ty := .int) (cA := cI) (a0 := (400000, .inl (fun _ => 0))) hx hb (hT _ vt_83) rfl hK 0 rfl (fun _ _ => rfl) hP hD hS hA (fun _ => rfl) (by decide) (by decide) (by decide) (Nat.le_of_ble_eq_true rfl) (Nat.le_of_ble_eq_true rfl) d_Mod_init_81 (fun q_16 H hP2 hD2 hS2 => ?_)
  clear hP hD hS
  have hS := hS2
  clear hS2
  refine W.widen (k := 4) (n := 931072) (Nat.le_of_ble_eq_true rfl) (Nat.le_of_ble_eq_true rfl) ?_
  subst har
  obtain ⟨ar_17, har⟩ : ∃ z : va_W, z = [(q_0, .inl (cB, 65536, .inl (fun _ => 0))), (q_2, .inl (cB, 65536, .inl (fun _ => 0))), (q_14, .inl (cB, 400000, .inl (fun _ => 0))), (q_16, .inl (cI, 400000, .inl (fun _ => 0)))] := ⟨_, rfl⟩
  have hP : va_P (dC, dI) classes ((h0, .inr (12, fs_16)) :: ar_17) H := by rw [har]; exact hP2
  have hD : va_D A ((h0, .inr (12, fs_16)) :: ar_17) := by rw [har]; exact hD2
  clear hP2 hD2
  refine va_putF (D := (dC, dI)) (ci := 12) (v := .ref q_16) (ty := (.array .int)) (C := R_Mod) (T := T_Mod) (N := 76) hx hb hT in_Mod ty_Mod tyo_Mod nm_Mod hown hK hP hD hS 0 rfl rfl 13 (by decide) (hT _ vt_1280) (fun _ h9 => h9) rfl hin rfl (by decide +kernel) rfl rfl (by rw [hfs]; exact Nat.le_of_ble_eq_true rfl) d_Mod_init_83 (fun H locs hP2 hD2 hS2 => ?_)
  clear hP hD hS
  have hS := hS2
  clear hS2
  subst hfs
  obtain ⟨fs_18, hfs⟩ : ∃ z : List Value, z = [.ref q_0, .ref q_2, .int 0, .int 0, .int 0, .int 0, .int 0, .int 0, .int 0, .int 0, .int 0, .int 0, .ref q_14, .ref q_16, .null, .null, .null, .null, .int 0, .null, .int 0, .int 0, .int 0, .int 0, .null, .null, .null, .int 0, .int 0, .null, .null, .null, .null, .null, .null, .null, .null, .null, .null, .null, .null, .null, .int 0, .int 0, .null, .null, .int 0, .null, .null, .null, .null, .null, .int 0, .int 0, .int 0, .int 0, .null, .int 0, .int 0, .int 0, .int 0, .int 0, .null, .null, .null, .null, .null, .null, .null, .null, .int 0, .null, .int 0, .null, .null, .int 0] := ⟨_, rfl⟩
  have hP : va_P (dC, dI) classes ((h0, .inr (12, fs_18)) :: ar_17) H := by rw [hfs]; exact hP2
  have hD : va_D A ((h0, .inr (12, fs_18)) :: ar_17) := by rw [hfs]; exact hD2
  clear hP2 hD2
  refine lv_aload_n hx hb d_Mod_init_86 rfl (lv_at hl 0 rfl) ?_
  refine lv_ldc (v := 400000) hx hb hown (hT _ vt_1278) d_Mod_init_87 ?_
  refine va_newk (atype := .int) (ty := .int) (cA := cI) (a0 := (400000, .inl (fun _ => 0))) hx hb (hT _ vt_83) rfl hK 0 rfl (fun _ _ => rfl) hP hD hS hA (fun _ => rfl) (by decide) (by decide) (by decide) (Nat.le_of_ble_eq_true rfl) (Nat.le_of_ble_eq_true rfl) d_Mod_init_89 (fun q_18 H hP2 hD2 hS2 => ?_)
  clear hP hD hS
  have hS := hS2
  clear hS2
  refine W.widen (k := 5) (n := 1331072) (Nat.le_of_ble_eq_true rfl) (Nat.le_of_ble_eq_true rfl) ?_
  subst har
  obtain ⟨ar_19, har⟩ : ∃ z : va_W, z = [(q_0, .inl (cB, 65536, .inl (fun _ => 0))), (q_2, .inl (cB, 65536, .inl (fun _ => 0))), (q_14, .inl (cB, 400000, .inl (fun _ => 0))), (q_16, .inl (cI, 400000, .inl (fun _ => 0))), (q_18, .inl (cI, 400000, .inl (fun _ => 0)))] := ⟨_, rfl⟩
  have hP : va_P (dC, dI) classes ((h0, .inr (12, fs_18)) :: ar_19) H := by rw [har]; exact hP2
  have hD : va_D A ((h0, .inr (12, fs_18)) :: ar_19) := by rw [har]; exact hD2
  clear hP2 hD2
  refine va_putF (D := (dC, dI)) (ci := 12) (v := .ref q_18) (ty := (.array .int)) (C := R_Mod) (T := T_Mod) (N := 76) hx hb hT in_Mod ty_Mod tyo_Mod nm_Mod hown hK hP hD hS 0 rfl rfl 14 (by decide) (hT _ vt_1281) (fun _ h9 => h9) rfl hin rfl (by decide +kernel) rfl rfl (by rw [hfs]; exact Nat.le_of_ble_eq_true rfl) d_Mod_init_91 (fun H locs hP2 hD2 hS2 => ?_)
  clear hP hD hS
  have hS := hS2
  clear hS2
  subst hfs
  obtain ⟨fs_20, hfs⟩ : ∃ z : List Value, z = [.ref q_0, .ref q_2, .int 0, .int 0, .int 0, .int 0, .int 0, .int 0, .int 0, .int 0, .int 0, .int 0, .ref q_14, .ref q_16, .ref q_18, .null, .null, .null, .int 0, .null, .int 0, .int 0, .int 0, .int 0, .null, .null, .null, .int 0, .int 0, .null, .null, .null, .null, .null, .null, .null, .null, .null, .null, .null, .null, .null, .int 0, .int 0, .null, .null, .int 0, .null, .null, .null, .null, .null, .int 0, .int 0, .int 0, .int 0, .null, .int 0, .int 0, .int 0, .int 0, .int 0, .null, .null, .null, .null, .null, .null, .null, .null, .int 0, .null, .int 0, .null, .null, .int 0] := ⟨_, rfl⟩
  have hP : va_P (dC, dI) classes ((h0, .inr (12, fs_20)) :: ar_19) H := by rw [hfs]; exact hP2
  have hD : va_D A ((h0, .inr (12, fs_20)) :: ar_19) := by rw [hfs]; exact hD2
  clear hP2 hD2
  refine lv_aload_n hx hb d_Mod_init_94 rfl (lv_at hl 0 rfl) ?_
  refine lv_ldc (v := 400000) hx hb hown (hT _ vt_1278) d_Mod_init_95 ?_
  refine va_newk (atype := .int) (ty := .int) (cA := cI) (a0 := (400000, .inl (fun _ => 0))) hx hb (hT _ vt_83) rfl hK 0 rfl (fun _ _ => rfl) hP hD hS hA (fun _ => rfl) (by decide) (by decide) (by decide) (Nat.le_of_ble_eq_true rfl) (Nat.le_of_ble_eq_true rfl) d_Mod_init_97 (fun q_20 H hP2 hD2 hS2 => ?_)
  clear hP hD hS
  have hS := hS2
  clear hS2
  refine W.widen (k := 6) (n := 1731072) (Nat.le_of_ble_eq_true rfl) (Nat.le_of_ble_eq_true rfl) ?_
  subst har
  obtain ⟨ar_21, har⟩ : ∃ z : va_W, z = [(q_0, .inl (cB, 65536, .inl (fun _ => 0))), (q_2, .inl (cB, 65536, .inl (fun _ => 0))), (q_14, .inl (cB, 400000, .inl (fun _ => 0))), (q_16, .inl (cI, 400000, .inl (fun _ => 0))), (q_18, .inl (cI, 400000, .inl (fun _ => 0))), (q_20, .inl (cI, 400000, .inl (fun _ => 0)))] := ⟨_, rfl⟩
  have hP : va_P (dC, dI) classes ((h0, .inr (12, fs_20)) :: ar_21) H := by rw [har]; exact hP2
  have hD : va_D A ((h0, .inr (12, fs_20)) :: ar_21) := by rw [har]; exact hD2
  clear hP2 hD2
  refine va_putF (D := (dC, dI)) (ci := 12) (v := .ref q_20) (ty := (.array .int)) (C := R_Mod) (T := T_Mod) (N := 76) hx hb hT in_Mod ty_Mod tyo_Mod nm_Mod hown hK hP hD hS 0 rfl rfl 15 (by decide) (hT _ vt_1282) (fun _ h9 => h9) rfl hin rfl (by decide +kernel) rfl rfl (by rw [hfs]; exact Nat.le_of_ble_eq_true rfl) d_Mod_init_99 (fun H locs hP2 hD2 hS2 => ?_)
  clear hP hD hS
  have hS := hS2
  clear hS2
  subst hfs
  obtain ⟨fs_22, hfs⟩ : ∃ z : List Value, z = [.ref q_0, .ref q_2, .int 0, .int 0, .int 0, .int 0, .int 0, .int 0, .int 0, .int 0, .int 0, .int 0, .ref q_14, .ref q_16, .ref q_18, .ref q_20, .null, .null, .int 0, .null, .int 0, .int 0, .int 0, .int 0, .null, .null, .null, .int 0, .int 0, .null, .null, .null, .null, .null, .null, .null, .null, .null, .null, .null, .null, .null, .int 0, .int 0, .null, .null, .int 0, .null, .null, .null, .null, .null, .int 0, .int 0, .int 0, .int 0, .null, .int 0, .int 0, .int 0, .int 0, .int 0, .null, .null, .null, .null, .null, .null, .null, .null, .int 0, .null, .int 0, .null, .null, .int 0] := ⟨_, rfl⟩
  have hP : va_P (dC, dI) classes ((h0, .inr (12, fs_22)) :: ar_21) H := by rw [hfs]; exact hP2
  have hD : va_D A ((h0, .inr (12, fs_22)) :: ar_21) := by rw [hfs]; exact hD2
  clear hP2 hD2
  refine lv_aload_n hx hb d_Mod_init_102 rfl (lv_at hl 0 rfl) ?_
  refine lv_ldc (v := 400000) hx hb hown (hT _ vt_1278) d_Mod_init_103 ?_
  refine va_newk (atype := .int) (ty := .int) (cA := cI) (a0 := (400000, .inl (fun _ => 0))) hx hb (hT _ vt_83) rfl hK 0 rfl (fun _ _ => rfl) hP hD hS hA (fun _ => rfl) (by decide) (by decide) (by decide) (Nat.le_of_ble_eq_true rfl) (Nat.le_of_ble_eq_true rfl) d_Mod_init_105 (fun q_22 H hP2 hD2 hS2 => ?_)
  clear hP hD hS
  have hS := hS2
  clear hS2
  refine W.widen (k := 7) (n := 2131072) (Nat.le_of_ble_eq_true rfl) (Nat.le_of_ble_eq_true rfl) ?_
  subst har
  obtain ⟨ar_23, har⟩ : ∃ z : va_W, z = [(q_0, .inl (cB, 65536, .inl (fun _ => 0))), (q_2, .inl (cB, 65536, .inl (fun _ => 0))), (q_14, .inl (cB, 400000, .inl (fun _ => 0))), (q_16, .inl (cI, 400000, .inl (fun _ => 0))), (q_18, .inl (cI, 400000, .inl (fun _ => 0))), (q_20, .inl (cI, 400000, .inl (fun _ => 0))), (q_22, .inl (cI, 400000, .inl (fun _ => 0)))] := ⟨_, rfl⟩
  have hP : va_P (dC, dI) classes ((h0, .inr (12, fs_22)) :: ar_23) H := by rw [har]; exact hP2
  have hD : va_D A ((h0, .inr (12, fs_22)) :: ar_23) := by rw [har]; exact hD2
  clear hP2 hD2
  refine va_putF (D := (dC, dI)) (ci := 12) (v := .ref q_22) (ty := (.array .int)) (C := R_Mod) (T := T_Mod) (N := 76) hx hb hT in_Mod ty_Mod tyo_Mod nm_Mod hown hK hP hD hS 0 rfl rfl 16 (by decide) (hT _ vt_1283) (fun _ h9 => h9) rfl hin rfl (by decide +kernel) rfl rfl (by rw [hfs]; exact Nat.le_of_ble_eq_true rfl) d_Mod_init_107 (fun H locs hP2 hD2 hS2 => ?_)
  clear hP hD hS
  have hS := hS2
  clear hS2
  subst hfs
  obtain ⟨fs_24, hfs⟩ : ∃ z : List Value, z = [.ref q_0, .ref q_2, .int 0, .int 0, .int 0, .int 0, .int 0, .int 0, .int 0, .int 0, .int 0, .int 0, .ref q_14, .ref q_16, .ref q_18, .ref q_20, .ref q_22, .null, .int 0, .null, .int 0, .int 0, .int 0, .int 0, .null, .null, .null, .int 0, .int 0, .null, .null, .null, .null, .null, .null, .null, .null, .null, .null, .null, .null, .null, .int 0, .int 0, .null, .null, .int 0, .null, .null, .null, .null, .null, .int 0, .int 0, .int 0, .int 0, .null, .int 0, .int 0, .int 0, .int 0, .int 0, .null, .null, .null, .null, .null, .null, .null, .null, .int 0, .null, .int 0, .null, .null, .int 0] := ⟨_, rfl⟩
  have hP : va_P (dC, dI) classes ((h0, .inr (12, fs_24)) :: ar_23) H := by rw [hfs]; exact hP2
  have hD : va_D A ((h0, .inr (12, fs_24)) :: ar_23) := by rw [hfs]; exact hD2
  clear hP2 hD2
  refine lv_aload_n hx hb d_Mod_init_110 rfl (lv_at hl 0 rfl) ?_
  refine lv_ldc (v := 400000) hx hb hown (hT _ vt_1278) d_Mod_init_111 ?_
  refine va_newk (atype := .int) (ty := .int) (cA := cI) (a0 := (400000, .inl (fun _ => 0))) hx hb (hT _ vt_83) rfl hK 0 rfl (fun _ _ => rfl) hP hD hS hA (fun _ => rfl) (by decide) (by decide) (by decide) (Nat.le_of_ble_eq_true rfl) (Nat.le_of_ble_eq_true rfl) d_Mod_init_113 (fun q_24 H hP2 hD2 hS2 => ?_)
  clear hP hD hS
  have hS := hS2
  clear hS2
  refine W.widen (k := 8) (n := 2531072) (Nat.le_of_ble_eq_true rfl) (Nat.le_of_ble_eq_true rfl) ?_
  subst har
  obtain ⟨ar_25, har⟩ : ∃ z : va_W, z = [(q_0, .inl (cB, 65536, .inl (fun _ => 0))), (q_2, .inl (cB, 65536, .inl (fun _ => 0))), (q_14, .inl (cB, 400000, .inl (fun _ => 0))), (q_16, .inl (cI, 400000, .inl (fun _ => 0))), (q_18, .inl (cI, 400000, .inl (fun _ => 0))), (q_20, .inl (cI, 400000, .inl (fun _ => 0))), (q_22, .inl (cI, 400000, .inl (fun _ => 0))), (q_24, .inl (cI, 400000, .inl (fun _ => 0)))] := ⟨_, rfl⟩
  have hP : va_P (dC, dI) classes ((h0, .inr (12, fs_24)) :: ar_25) H := by rw [har]; exact hP2
  have hD : va_D A ((h0, .inr (12, fs_24)) :: ar_25) := by rw [har]; exact hD2
  clear hP2 hD2
  refine va_putF (D := (dC, dI)) (ci := 12) (v := .ref q_24) (ty := (.array .int)) (C := R_Mod) (T := T_Mod) (N := 76) hx hb hT in_Mod ty_Mod tyo_Mod nm_Mod hown hK hP hD hS 0 rfl rfl 17 (by decide) (hT _ vt_1284) (fun _ h9 => h9) rfl hin rfl (by decide +kernel) rfl rfl (by rw [hfs]; exact Nat.le_of_ble_eq_true rfl) d_Mod_init_115 (fun H locs hP2 hD2 hS2 => ?_)
  clear hP hD hS
  have hS := hS2
  clear hS2
  subst hfs
  obtain ⟨fs_26, hfs⟩ : ∃ z : List Value, z = [.ref q_0, .ref q_2, .int 0, .int 0, .int 0, .int 0, .int 0, .int 0, .int 0, .int 0, .int 0, .int 0, .ref q_14, .ref q_16, .ref q_18, .ref q_20, .ref q_22, .ref q_24, .int 0, .null, .int 0, .int 0, .int 0, .int 0, .null, .null, .null, .int 0, .int 0, .null, .null, .null, .null, .null, .null, .null, .null, .null, .null, .null, .null, .null, .int 0, .int 0, .null, .null, .int 0, .null, .null, .null, .null, .null, .int 0, .int 0, .int 0, .int 0, .null, .int 0, .int 0, .int 0, .int 0, .int 0, .null, .null, .null, .null, .null, .null, .null, .null, .int 0, .null, .int 0, .null, .null, .int 0] := ⟨_, rfl⟩
  have hP : va_P (dC, dI) classes ((h0, .inr (12, fs_26)) :: ar_25) H := by rw [hfs]; exact hP2
  have hD : va_D A ((h0, .inr (12, fs_26)) :: ar_25) := by rw [hfs]; exact hD2
  clear hP2 hD2
  refine lv_aload_n hx hb d_Mod_init_118 rfl (lv_at hl 0 rfl) ?_
  refine lv_sipush (v := 32000) hx hb d_Mod_init_119 (by decide) ?_
  refine va_put (D := (dC, dI)) (ci := 12) (v := .int 32000) (ty := .int) (C := R_Mod) (T := T_Mod) (N := 76) hx hb hT in_Mod ty_Mod tyo_Mod nm_Mod hown hK hP hD hS 0 rfl rfl 18 (by decide) (hT _ vt_1285) (fun _ h9 => h9) rfl (by decide +kernel) rfl rfl (by rw [hfs]; exact Nat.le_of_ble_eq_true rfl) d_Mod_init_122 (fun H locs hP2 hD2 hS2 => ?_)
  clear hP hD hS
  have hS := hS2
  clear hS2
  subst hfs
  obtain ⟨fs_27, hfs⟩ : ∃ z : List Value, z = [.ref q_0, .ref q_2, .int 0, .int 0, .int 0, .int 0, .int 0, .int 0, .int 0, .int 0, .int 0, .int 0, .ref q_14, .ref q_16, .ref q_18, .ref q_20, .ref q_22, .ref q_24, .int 32000, .null, .int 0, .int 0, .int 0, .int 0, .null, .null, .null, .int 0, .int 0, .null, .null, .null, .null, .null, .null, .null, .null, .null, .null, .null, .null, .null, .int 0, .int 0, .null, .null, .int 0, .null, .null, .null, .null, .null, .int 0, .int 0, .int 0, .int 0, .null, .int 0, .int 0, .int 0, .int 0, .int 0, .null, .null, .null, .null, .null, .null, .null, .null, .int 0, .null, .int 0, .null, .null, .int 0] := ⟨_, rfl⟩
  have hP : va_P (dC, dI) classes ((h0, .inr (12, fs_27)) :: ar_25) H := by rw [hfs]; exact hP2
  have hD : va_D A ((h0, .inr (12, fs_27)) :: ar_25) := by rw [hfs]; exact hD2
  clear hP2 hD2
  refine lv_aload_n hx hb d_Mod_init_125 rfl (lv_at hl 0 rfl) ?_
  refine lv_sipush (v := 8000) hx hb d_Mod_init_126 (by decide) ?_
  refine va_newk (atype := .int) (ty := .int) (cA := cI) (a0 := (8000, .inl (fun _ => 0))) hx hb (hT _ vt_83) rfl hK 0 rfl (fun _ _ => rfl) hP hD hS hA (fun _ => rfl) (by decide) (by decide) (by decide) (Nat.le_of_ble_eq_true rfl) (Nat.le_of_ble_eq_true rfl) d_Mod_init_129 (fun q_27 H hP2 hD2 hS2 => ?_)
  clear hP hD hS
  have hS := hS2
  clear hS2
  refine W.widen (k := 9) (n := 2539072) (Nat.le_of_ble_eq_true rfl) (Nat.le_of_ble_eq_true rfl) ?_
  subst har
  obtain ⟨ar_28, har⟩ : ∃ z : va_W, z = [(q_0, .inl (cB, 65536, .inl (fun _ => 0))), (q_2, .inl (cB, 65536, .inl (fun _ => 0))), (q_14, .inl (cB, 400000, .inl (fun _ => 0))), (q_16, .inl (cI, 400000, .inl (fun _ => 0))), (q_18, .inl (cI, 400000, .inl (fun _ => 0))), (q_20, .inl (cI, 400000, .inl (fun _ => 0))), (q_22, .inl (cI, 400000, .inl (fun _ => 0))), (q_24, .inl (cI, 400000, .inl (fun _ => 0))), (q_27, .inl (cI, 8000, .inl (fun _ => 0)))] := ⟨_, rfl⟩
  have hP : va_P (dC, dI) classes ((h0, .inr (12, fs_27)) :: ar_28) H := by rw [har]; exact hP2
  have hD : va_D A ((h0, .inr (12, fs_27)) :: ar_28) := by rw [har]; exact hD2
  clear hP2 hD2
  refine va_putF (D := (dC, dI)) (ci := 12) (v := .ref q_27) (ty := (.array .int)) (C := R_Mod) (T := T_Mod) (N := 76) hx hb hT in_Mod ty_Mod tyo_Mod nm_Mod hown hK hP hD hS 0 rfl rfl 19 (by decide) (hT _ vt_1286) (fun _ h9 => h9) rfl hin rfl (by decide +kernel) rfl rfl (by rw [hfs]; exact Nat.le_of_ble_eq_true rfl) d_Mod_init_131 (fun H locs hP2 hD2 hS2 => ?_)
  clear hP hD hS
  have hS := hS2
  clear hS2
  subst hfs
  obtain ⟨fs_29, hfs⟩ : ∃ z : List Value, z = [.ref q_0, .ref q_2, .int 0, .int 0, .int 0, .int 0, .int 0, .int 0, .int 0, .int 0, .int 0, .int 0, .ref q_14, .ref q_16, .ref q_18, .ref q_20, .ref q_22, .ref q_24, .int 32000, .ref q_27, .int 0, .int 0, .int 0, .int 0, .null, .null, .null, .int 0, .int 0, .null, .null, .null, .null, .null, .null, .null, .null, .null, .null, .null, .null, .null, .int 0, .int 0, .null, .null, .int 0, .null, .null, .null, .null, .null, .int 0, .int 0, .int 0, .int 0, .null, .int 0, .int 0, .int 0, .int 0, .int 0, .null, .null, .null, .null, .null, .null, .null, .null, .int 0, .null, .int 0, .null, .null, .int 0] := ⟨_, rfl⟩
  have hP : va_P (dC, dI) classes ((h0, .inr (12, fs_29)) :: ar_28) H := by rw [hfs]; exact hP2
  have hD : va_D A ((h0, .inr (12, fs_29)) :: ar_28) := by rw [hfs]; exact hD2
  clear hP2 hD2
  refine lv_aload_n hx hb d_Mod_init_134 rfl (lv_at hl 0 rfl) ?_
  refine lv_iconst (v := 0) hx hb d_Mod_init_135 (by decide) ?_
  refine va_put (D := (dC, dI)) (ci := 12) (v := .int 0) (ty := .int) (C := R_Mod) (T := T_Mod) (N := 76) hx hb hT in_Mod ty_Mod tyo_Mod nm_Mod hown hK hP hD hS 0 rfl rfl 20 (by decide) (hT _ vt_1287) (fun _ h9 => h9) rfl (by decide +kernel) rfl rfl (by rw [hfs]; exact Nat.le_of_ble_eq_true rfl) d_Mod_init_136 (fun H locs hP2 hD2 hS2 => ?_)
  clear hP hD hS
  have hS := hS2
  clear hS2
  subst hfs
  obtain ⟨fs_30, hfs⟩ : ∃ z : List Value, z = [.ref q_0, .ref q_2, .int 0, .int 0, .int 0, .int 0, .int 0, .int 0, .int 0, .int 0, .int 0, .int 0, .ref q_14, .ref q_16, .ref q_18, .ref q_20, .ref q_22, .ref q_24, .int 32000, .ref q_27, .int 0, .int 0, .int 0, .int 0, .null, .null, .null, .int 0, .int 0, .null, .null, .null, .null, .null, .null, .null, .null, .null, .null, .null, .null, .null, .int 0, .int 0, .null, .null, .int 0, .null, .null, .null, .null, .null, .int 0, .int 0, .int 0, .int 0, .null, .int 0, .int 0, .int 0, .int 0, .int 0, .null, .null, .null, .null, .null, .null, .null, .null, .int 0, .null, .int 0, .null, .null, .int 0] := ⟨_, rfl⟩
  have hP : va_P (dC, dI) classes ((h0, .inr (12, fs_30)) :: ar_28) H := by rw [hfs]; exact hP2
  have hD : va_D A ((h0, .inr (12, fs_30)) :: ar_28) := by rw [hfs]; exact hD2
  clear hP2 hD2
  refine lv_aload_n hx hb d_Mod_init_139 rfl (lv_at hl 0 rfl) ?_
  refine lv_iconst (v := 0) hx hb d_Mod_init_140 (by decide) ?_
  refine va_put (D := (dC, dI)) (ci := 12) (v := .int 0) (ty := .int) (C := R_Mod) (T := T_Mod) (N := 76) hx hb hT in_Mod ty_Mod tyo_Mod nm_Mod hown hK hP hD hS 0 rfl rfl 21 (by decide) (hT _ vt_1288) (fun _ h9 => h9) rfl (by decide +kernel) rfl rfl (by rw [hfs]; exact Nat.le_of_ble_eq_true rfl) d_Mod_init_141 (fun H locs hP2 hD2 hS2 => ?_)
  clear hP hD hS
  have hS := hS2
  clear hS2
  subst hfs
  obtain ⟨fs_31, hfs⟩ : ∃ z : List Value, z = [.ref q_0, .ref q_2, .int 0, .int 0, .int 0, .int 0, .int 0, .int 0, .int 0, .int 0, .int 0, .int 0, .ref q_14, .ref q_16, .ref q_18, .ref q_20, .ref q_22, .ref q_24, .int 32000, .ref q_27, .int 0, .int 0, .int 0, .int 0, .null, .null, .null, .int 0, .int 0, .null, .null, .null, .null, .null, .null, .null, .null, .null, .null, .null, .null, .null, .int 0, .int 0, .null, .null, .int 0, .null, .null, .null, .null, .null, .int 0, .int 0, .int 0, .int 0, .null, .int 0, .int 0, .int 0, .int 0, .int 0, .null, .null, .null, .null, .null, .null, .null, .null, .int 0, .null, .int 0, .null, .null, .int 0] := ⟨_, rfl⟩
  have hP : va_P (dC, dI) classes ((h0, .inr (12, fs_31)) :: ar_28) H := by rw [hfs]; exact hP2
  have hD : va_D A ((h0, .inr (12, fs_31)) :: ar_28) := by rw [hfs]; exact hD2
  clear hP2 hD2
  refine lv_aload_n hx hb d_Mod_init_144 rfl (lv_at hl 0 rfl) ?_
  refine lv_iconst (v := 0) hx hb d_Mod_init_145 (by decide) ?_
  refine va_put (D := (dC, dI)) (ci := 12) (v := .int 0) (ty := .int) (C := R_Mod) (T := T_Mod) (N := 76) hx hb hT in_Mod ty_Mod tyo_Mod nm_Mod hown hK hP hD hS 0 rfl rfl 22 (by decide) (hT _ vt_1289) (fun _ h9 => h9) rfl (by decide +kernel) rfl rfl (by rw [hfs]; exact Nat.le_of_ble_eq_true rfl) d_Mod_init_146 (fun H locs hP2 hD2 hS2 => ?_)
  clear hP hD hS
  have hS := hS2
  clear hS2
  subst hfs
  obtain ⟨fs_32, hfs⟩ : ∃ z : List Value, z = [.ref q_0, .ref q_2, .int 0, .int 0, .int 0, .int 0, .int 0, .int 0, .int 0, .int 0, .int 0, .int 0, .ref q_14, .ref q_16, .ref q_18, .ref q_20, .ref q_22, .ref q_24, .int 32000, .ref q_27, .int 0, .int 0, .int 0, .int 0, .null, .null, .null, .int 0, .int 0, .null, .null, .null, .null, .null, .null, .null, .null, .null, .null, .null, .null, .null, .int 0, .int 0, .null, .null, .int 0, .null, .null, .null, .null, .null, .int 0, .int 0, .int 0, .int 0, .null, .int 0, .int 0, .int 0, .int 0, .int 0, .null, .null, .null, .null, .null, .null, .null, .null, .int 0, .null, .int 0, .null, .null, .int 0] := ⟨_, rfl⟩
  have hP : va_P (dC, dI) classes ((h0, .inr (12, fs_32)) :: ar_28) H := by rw [hfs]; exact hP2
  have hD : va_D A ((h0, .inr (12, fs_32)) :: ar_28) := by rw [hfs]; exact hD2
  clear hP2 hD2
  refine lv_aload_n hx hb d_Mod_init_149 rfl (lv_at hl 0 rfl) ?_
  refine lv_iconst (v := 0) hx hb d_Mod_init_150 (by decide) ?_
  refine va_put (D := (dC, dI)) (ci := 12) (v := .int 0) (ty := .int) (C := R_Mod) (T := T_Mod) (N := 76) hx hb hT in_Mod ty_Mod tyo_Mod nm_Mod hown hK hP hD hS 0 rfl rfl 23 (by decide) (hT _ vt_1290) (fun _ h9 => h9) rfl (by decide +kernel) rfl rfl (by rw [hfs]; exact Nat.le_of_ble_eq_true rfl) d_Mod_init_151 (fun H locs hP2 hD2 hS2 => ?_)
  clear hP hD hS
  have hS := hS2
  clear hS2
  subst hfs
  obtain ⟨fs_33, hfs⟩ : ∃ z : List Value, z = [.ref q_0, .ref q_2, .int 0, .int 0, .int 0, .int 0, .int 0, .int 0, .int 0, .int 0, .int 0, .int 0, .ref q_14, .ref q_16, .ref q_18, .ref q_20, .ref q_22, .ref q_24, .int 32000, .ref q_27, .int 0, .int 0, .int 0, .int 0, .null, .null, .null, .int 0, .int 0, .null, .null, .null, .null, .null, .null, .null, .null, .null, .null, .null, .null, .null, .int 0, .int 0, .null, .null, .int 0, .null, .null, .null, .null, .null, .int 0, .int 0, .int 0, .int 0, .null, .int 0, .int 0, .int 0, .int 0, .int 0, .null, .null, .null, .null, .null, .null, .null, .null, .int 0, .null, .int 0, .null, .null, .int 0] := ⟨_, rfl⟩
  have hP : va_P (dC, dI) classes ((h0, .inr (12, fs_33)) :: ar_28) H := by rw [hfs]; exact hP2
  have hD : va_D A ((h0, .inr (12, fs_33)) :: ar_28) := by rw [hfs]; exact hD2
  clear hP2 hD2
  refine lv_aload_n hx hb d_Mod_init_154 rfl (lv_at hl 0 rfl) ?_
  refine lv_sipush (v := 9400) hx hb d_Mod_init_155 (by decide) ?_
  refine va_newk (atype := .byte) (ty := .byte) (cA := cB) (a0 := (9400, .inl (fun _ => 0))) hx hb (hT _ vt_1265) rfl hK 1 rfl (fun _ _ => rfl) hP hD hS hA (fun _ => rfl) (by decide) (by decide) (by decide) (Nat.le_of_ble_eq_true rfl) (Nat.le_of_ble_eq_true rfl) d_Mod_init_158 (fun q_33 H hP2 hD2 hS2 => ?_)
  clear hP hD hS
  have hS := hS2
  clear hS2
  refine W.widen (k := 10) (n := 2548472) (Nat.le_of_ble_eq_true rfl) (Nat.le_of_ble_eq_true rfl) ?_
  subst har
  obtain ⟨ar_34, har⟩ : ∃ z : va_W, z = [(q_0, .inl (cB, 65536, .inl (fun _ => 0))), (q_2, .inl (cB, 65536, .inl (fun _ => 0))), (q_14, .inl (cB, 400000, .inl (fun _ => 0))), (q_16, .inl (cI, 400000, .inl (fun _ => 0))), (q_18, .inl (cI, 400000, .inl (fun _ => 0))), (q_20, .inl (cI, 400000, .inl (fun _ => 0))), (q_22, .inl (cI, 400000, .inl (fun _ => 0))), (q_24, .inl (cI, 400000, .inl (fun _ => 0))), (q_27, .inl (cI, 8000, .inl (fun _ => 0))), (q_33, .inl (cB, 9400, .inl (fun _ => 0)))] := ⟨_, rfl⟩
  have hP : va_P (dC, dI) classes ((h0, .inr (12, fs_33)) :: ar_34) H := by rw [har]; exact hP2
  have hD : va_D A ((h0, .inr (12, fs_33)) :: ar_34) := by rw [har]; exact hD2
  clear hP2 hD2
  refine va_putF (D := (dC, dI)) (ci := 12) (v := .ref q_33) (ty := (.array .byte)) (C := R_Mod) (T := T_Mod) (N := 76) hx hb hT in_Mod ty_Mod tyo_Mod nm_Mod hown hK hP hD hS 0 rfl rfl 24 (by decide) (hT _ vt_1291) (fun _ h9 => h9) rfl hin rfl (by decide +kernel) rfl rfl (by rw [hfs]; exact Nat.le_of_ble_eq_true rfl) d_Mod_init_160 (fun H locs hP2 hD2 hS2 => ?_)
  clear hP hD hS
  have hS := hS2
  clear hS2
  subst hfs
  obtain ⟨fs_35, hfs⟩ : ∃ z : List Value, z = [.ref q_0, .ref q_2, .int 0, .int 0, .int 0, .int 0, .int 0, .int 0, .int 0, .int 0, .int 0, .int 0, .ref q_14, .ref q_16, .ref q_18, .ref q_20, .ref q_22, .ref q_24, .int 32000, .ref q_27, .int 0, .int 0, .int 0, .int 0, .ref q_33, .null, .null, .int 0, .int 0, .null, .null, .null, .null, .null, .null, .null, .null, .null, .null, .null, .null, .null, .int 0, .int 0, .null, .null, .int 0, .null, .null, .null, .null, .null, .int 0, .int 0, .int 0, .int 0, .null, .int 0, .int 0, .int 0, .int 0, .int 0, .null, .null, .null, .null, .null, .null, .null, .null, .int 0, .null, .int 0, .null, .null, .int 0] := ⟨_, rfl⟩
  have hP : va_P (dC, dI) classes ((h0, .inr (12, fs_35)) :: ar_34) H := by rw [hfs]; exact hP2
  have hD : va_D A ((h0, .inr (12, fs_35)) :: ar_34) := by rw [hfs]; exact hD2
  clear hP2 hD2
  refine lv_aload_n hx hb d_Mod_init_163 rfl (lv_at hl 0 rfl) ?_
  refine lv_sipush (v := 301) hx hb d_Mod_init_164 (by decide) ?_
  refine va_newk (atype := .int) (ty := .int) (cA := cI) (a0 := (301, .inl (fun _ => 0))) hx hb (hT _ vt_83) rfl hK 0 rfl (fun _ _ => rfl) hP hD hS hA (fun _ => rfl) (by decide) (by decide) (by decide) (Nat.le_of_ble_eq_true rfl) (Nat.le_of_ble_eq_true rfl) d_Mod_init_167 (fun q_35 H hP2 hD2 hS2 => ?_)
  clear hP hD hS
  have hS := hS2
  clear hS2
  refine W.widen (k := 11) (n := 2548773) (Nat.le_of_ble_eq_true rfl) (Nat.le_of_ble_eq_true rfl) ?_
  subst har
  obtain ⟨ar_36, har⟩ : ∃ z : va_W, z = [(q_0, .inl (cB, 65536, .inl (fun _ => 0))), (q_2, .inl (cB, 65536, .inl (fun _ => 0))), (q_14, .inl (cB, 400000, .inl (fun _ => 0))), (q_16, .inl (cI, 400000, .inl (fun _ => 0))), (q_18, .inl (cI, 400000, .inl (fun _ => 0))), (q_20, .inl (cI, 400000, .inl (fun _ => 0))), (q_22, .inl (cI, 400000, .inl (fun _ => 0))), (q_24, .inl (cI, 400000, .inl (fun _ => 0))), (q_27, .inl (cI, 8000, .inl (fun _ => 0))), (q_33, .inl (cB, 9400, .inl (fun _ => 0))), (q_35, .inl (cI, 301, .inl (fun _ => 0)))] := ⟨_, rfl⟩
  have hP : va_P (dC, dI) classes ((h0, .inr (12, fs_35)) :: ar_36) H := by rw [har]; exact hP2
  have hD : va_D A ((h0, .inr (12, fs_35)) :: ar_36) := by rw [har]; exact hD2
  clear hP2 hD2
  refine va_putF (D := (dC, dI)) (ci := 12) (v := .ref q_35) (ty := (.array .int)) (C := R_Mod) (T := T_Mod) (N := 76) hx hb hT in_Mod ty_Mod tyo_Mod nm_Mod hown hK hP hD hS 0 rfl rfl 25 (by decide) (hT _ vt_1292) (fun _ h9 => h9) rfl hin rfl (by decide +kernel) rfl rfl (by rw [hfs]; exact Nat.le_of_ble_eq_true rfl) d_Mod_init_169 (fun H locs hP2 hD2 hS2 => ?_)
  clear hP hD hS
  have hS := hS2
  clear hS2
  subst hfs
  obtain ⟨fs_37, hfs⟩ : ∃ z : List Value, z = [.ref q_0, .ref q_2, .int 0, .int 0, .int 0, .int 0, .int 0, .int 0, .int 0, .int 0, .int 0, .int 0, .ref q_14, .ref q_16, .ref q_18, .ref q_20, .ref q_22, .ref q_24, .int 32000, .ref q_27, .int 0, .int 0, .int 0, .int 0, .ref q_33, .ref q_35, .null, .int 0, .int 0, .null, .null, .null, .null, .null, .null, .null, .null, .null, .null, .null, .null, .null, .int 0, .int 0, .null, .null, .int 0, .null, .null, .null, .null, .null, .int 0, .int 0, .int 0, .int 0, .null, .int 0, .int 0, .int 0, .int 0, .int 0, .null, .null, .null, .null, .null, .null, .null, .null, .int 0, .null, .int 0, .null, .null, .int 0] := ⟨_, rfl⟩
  have hP : va_P (dC, dI) classes ((h0, .inr (12, fs_37)) :: ar_36) H := by rw [hfs]; exact hP2
  have hD : va_D A ((h0, .inr (12, fs_37)) :: ar_36) := by rw [hfs]; exact hD2
  clear hP2 hD2
  refine lv_aload_n hx hb d_Mod_init_172 rfl (lv_at hl 0 rfl) ?_
  refine lv_sipush (v := 301) hx hb d_Mod_init_173 (by decide) ?_
  refine va_newk (atype := .int) (ty := .int) (cA := cI) (a0 := (301, .inl (fun _ => 0))) hx hb (hT _ vt_83) rfl hK 0 rfl (fun _ _ => rfl) hP hD hS hA (fun _ => rfl) (by decide) (by decide) (by decide) (Nat.le_of_ble_eq_true rfl) (Nat.le_of_ble_eq_true rfl) d_Mod_init_176 (fun q_37 H hP2 hD2 hS2 => ?_)
  clear hP hD hS
  have hS := hS2
  clear hS2
  refine W.widen (k := 12) (n := 2549074) (Nat.le_of_ble_eq_true rfl) (Nat.le_of_ble_eq_true rfl) ?_
  subst har
  obtain ⟨ar_38, har⟩ : ∃ z : va_W, z = [(q_0, .inl (cB, 65536, .inl (fun _ => 0))), (q_2, .inl (cB, 65536, .inl (fun _ => 0))), (q_14, .inl (cB, 400000, .inl (fun _ => 0))), (q_16, .inl (cI, 400000, .inl (fun _ => 0))), (q_18, .inl (cI, 400000, .inl (fun _ => 0))), (q_20, .inl (cI, 400000, .inl (fun _ => 0))), (q_22, .inl (cI, 400000, .inl (fun _ => 0))), (q_24, .inl (cI, 400000, .inl (fun _ => 0))), (q_27, .inl (cI, 8000, .inl (fun _ => 0))), (q_33, .inl (cB, 9400, .inl (fun _ => 0))), (q_35, .inl (cI, 301, .inl (fun _ => 0))), (q_37, .inl (cI, 301, .inl (fun _ => 0)))] := ⟨_, rfl⟩
  have hP : va_P (dC, dI) classes ((h0, .inr (12, fs_37)) :: ar_38) H := by rw [har]; exact hP2
  have hD : va_D A ((h0, .inr (12, fs_37)) :: ar_38) := by rw [har]; exact hD2
  clear hP2 hD2
  refine va_putF (D := (dC, dI)) (ci := 12) (v := .ref q_37) (ty := (.array .int)) (C := R_Mod) (T := T_Mod) (N := 76) hx hb hT in_Mod ty_Mod tyo_Mod nm_Mod hown hK hP hD hS 0 rfl rfl 26 (by decide) (hT _ vt_1293) (fun _ h9 => h9) rfl hin rfl (by decide +kernel) rfl rfl (by rw [hfs]; exact Nat.le_of_ble_eq_true rfl) d_Mod_init_178 (fun H locs hP2 hD2 hS2 => ?_)
  clear hP hD hS
  have hS := hS2
  clear hS2
  subst hfs
  obtain ⟨fs_39, hfs⟩ : ∃ z : List Value, z = [.ref q_0, .ref q_2, .int 0, .int 0, .int 0, .int 0, .int 0, .int 0, .int 0, .int 0, .int 0, .int 0, .ref q_14, .ref q_16, .ref q_18, .ref q_20, .ref q_22, .ref q_24, .int 32000, .ref q_27, .int 0, .int 0, .int 0, .int 0, .ref q_33, .ref q_35, .ref q_37, .int 0, .int 0, .null, .null, .null, .null, .null, .null, .null, .null, .null, .null, .null, .null, .null, .int 0, .int 0, .null, .null, .int 0, .null, .null, .null, .null, .null, .int 0, .int 0, .int 0, .int 0, .null, .int 0, .int 0, .int 0, .int 0, .int 0, .null, .null, .null, .null, .null, .null, .null, .null, .int 0, .null, .int 0, .null, .null, .int 0] := ⟨_, rfl⟩
  have hP : va_P (dC, dI) classes ((h0, .inr (12, fs_39)) :: ar_38) H := by rw [hfs]; exact hP2
  have hD : va_D A ((h0, .inr (12, fs_39)) :: ar_38) := by rw [hfs]; exact hD2
  clear hP2 hD2
  refine lv_aload_n hx hb d_Mod_init_181 rfl (lv_at hl 0 rfl) ?_
  refine lv_iconst (v := 0) hx hb d_Mod_init_182 (by decide) ?_
  refine va_put (D := (dC, dI)) (ci := 12) (v := .int 0) (ty := .int) (C := R_Mod) (T := T_Mod) (N := 76) hx hb hT in_Mod ty_Mod tyo_Mod nm_Mod hown hK hP hD hS 0 rfl rfl 27 (by decide) (hT _ vt_1294) (fun _ h9 => h9) rfl (by decide +kernel) rfl rfl (by rw [hfs]; exact Nat.le_of_ble_eq_true rfl) d_Mod_init_183 (fun H locs hP2 hD2 hS2 => ?_)
  clear hP hD hS
  have hS := hS2
  clear hS2
  subst hfs
  obtain ⟨fs_40, hfs⟩ : ∃ z : List Value, z = [.ref q_0, .ref q_2, .int 0, .int 0, .int 0, .int 0, .int 0, .int 0, .int 0, .int 0, .int 0, .int 0, .ref q_14, .ref q_16, .ref q_18, .ref q_20, .ref q_22, .ref q_24, .int 32000, .ref q_27, .int 0, .int 0, .int 0, .int 0, .ref q_33, .ref q_35, .ref q_37, .int 0, .int 0, .null, .null, .null, .null, .null, .null, .null, .null, .null, .null, .null, .null, .null, .int 0, .int 0, .null, .null, .int 0, .null, .null, .null, .null, .null, .int 0, .int 0, .int 0, .int 0, .null, .int 0, .int 0, .int 0, .int 0, .int 0, .null, .null, .null, .null, .null, .null, .null, .null, .int 0, .null, .int 0, .null, .null, .int 0] := ⟨_, rfl⟩
  have hP : va_P (dC, dI) classes ((h0, .inr (12, fs_40)) :: ar_38) H := by rw [hfs]; exact hP2
  have hD : va_D A ((h0, .inr (12, fs_40)) :: ar_38) := by rw [hfs]; exact hD2
  clear hP2 hD2
  refine lv_aload_n hx hb d_Mod_init_186 rfl (lv_at hl 0 rfl) ?_
  refine lv_iconst (v := 0) hx hb d_Mod_init_187 (by decide) ?_
  refine va_put (D := (dC, dI)) (ci := 12) (v := .int 0) (ty := .int) (C := R_Mod) (T := T_Mod) (N := 76) hx hb hT in_Mod ty_Mod tyo_Mod nm_Mod hown hK hP hD hS 0 rfl rfl 28 (by decide) (hT _ vt_1295) (fun _ h9 => h9) rfl (by decide +kernel) rfl rfl (by rw [hfs]; exact Nat.le_of_ble_eq_true rfl) d_Mod_init_188 (fun H locs hP2 hD2 hS2 => ?_)
  clear hP hD hS
  have hS := hS2
  clear hS2
  subst hfs
  obtain ⟨fs_41, hfs⟩ : ∃ z : List Value, z = [.ref q_0, .ref q_2, .int 0, .int 0, .int 0, .int 0, .int 0, .int 0, .int 0, .int 0, .int 0, .int 0, .ref q_14, .ref q_16, .ref q_18, .ref q_20, .ref q_22, .ref q_24, .int 32000, .ref q_27, .int 0, .int 0, .int 0, .int 0, .ref q_33, .ref q_35, .ref q_37, .int 0, .int 0, .null, .null, .null, .null, .null, .null, .null, .null, .null, .null, .null, .null, .null, .int 0, .int 0, .null, .null, .int 0, .null, .null, .null, .null, .null, .int 0, .int 0, .int 0, .int 0, .null, .int 0, .int 0, .int 0, .int 0, .int 0, .null, .null, .null, .null, .null, .null, .null, .null, .int 0, .null, .int 0, .null, .null, .int 0] := ⟨_, rfl⟩
  have hP : va_P (dC, dI) classes ((h0, .inr (12, fs_41)) :: ar_38) H := by rw [hfs]; exact hP2
  have hD : va_D A ((h0, .inr (12, fs_41)) :: ar_38) := by rw [hfs]; exact hD2
  clear hP2 hD2
  refine lv_aload_n hx hb d_Mod_init_191 rfl (lv_at hl 0 rfl) ?_
  refine lv_sipush (v := 301) hx hb d_Mod_init_192 (by decide) ?_
  refine va_newk (atype := .int) (ty := .int) (cA := cI) (a0 := (301, .inl (fun _ => 0))) hx hb (hT _ vt_83) rfl hK 0 rfl (fun _ _ => rfl) hP hD hS hA (fun _ => rfl) (by decide) (by decide) (by decide) (Nat.le_of_ble_eq_true rfl) (Nat.le_of_ble_eq_true rfl) d_Mod_init_195 (fun q_41 H hP2 hD2 hS2 => ?_)
  clear hP hD hS
  have hS := hS2
  clear hS2
  refine W.widen (k := 13) (n := 2549375) (Nat.le_of_ble_eq_true rfl) (Nat.le_of_ble_eq_true rfl) ?_
  subst har
  obtain ⟨ar_42, har⟩ : ∃ z : va_W, z = [(q_0, .inl (cB, 65536, .inl (fun _ => 0))), (q_2, .inl (cB, 65536, .inl (fun _ => 0))), (q_14, .inl (cB, 400000, .inl (fun _ => 0))), (q_16, .inl (cI, 400000, .inl (fun _ => 0))), (q_18, .inl (cI, 400000, .inl (fun _ => 0))), (q_20, .inl (cI, 400000, .inl (fun _ => 0))), (q_22, .inl (cI, 400000, .inl (fun _ => 0))), (q_24, .inl (cI, 400000, .inl (fun _ => 0))), (q_27, .inl (cI, 8000, .inl (fun _ => 0))), (q_33, .inl (cB, 9400, .inl (fun _ => 0))), (q_35, .inl (cI, 301, .inl (fun _ => 0))), (q_37, .inl (cI, 301, .inl (fun _ => 0))), (q_41, .inl (cI, 301, .inl (fun _ => 0)))] := ⟨_, rfl⟩
  have hP : va_P (dC, dI) classes ((h0, .inr (12, fs_41)) :: ar_42) H := by rw [har]; exact hP2
  have hD : va_D A ((h0, .inr (12, fs_41)) :: ar_42) := by rw [har]; exact hD2
  clear hP2 hD2
  refine va_putF (D := (dC, dI)) (ci := 12) (v := .ref q_41) (ty := (.array .int)) (C := R_Mod) (T := T_Mod) (N := 76) hx hb hT in_Mod ty_Mod tyo_Mod nm_Mod hown hK hP hD hS 0 rfl rfl 29 (by decide) (hT _ vt_1296) (fun _ h9 => h9) rfl hin rfl (by decide +kernel) rfl rfl (by rw [hfs]; exact Nat.le_of_ble_eq_true rfl) d_Mod_init_197 (fun H locs hP2 hD2 hS2 => ?_)
  clear hP hD hS
  have hS := hS2
  clear hS2
  subst hfs
  obtain ⟨fs_43, hfs⟩ : ∃ z : List Value, z = [.ref q_0, .ref q_2, .int 0, .int 0, .int 0, .int 0, .int 0, .int 0, .int 0, .int 0, .int 0, .int 0, .ref q_14, .ref q_16, .ref q_18, .ref q_20, .ref q_22, .ref q_24, .int 32000, .ref q_27, .int 0, .int 0, .int 0, .int 0, .ref q_33, .ref q_35, .ref q_37, .int 0, .int 0, .ref q_41, .null, .null, .null, .null, .null, .null, .null, .null, .null, .null, .null, .null, .int 0, .int 0, .null, .null, .int 0, .null, .null, .null, .null, .null, .int 0, .int 0, .int 0, .int 0, .null, .int 0, .int 0, .int 0, .int 0, .int 0, .null, .null, .null, .null, .null, .null, .null, .null, .int 0, .null, .int 0, .null, .null, .int 0] := ⟨_, rfl⟩
  have hP : va_P (dC, dI) classes ((h0, .inr (12, fs_43)) :: ar_42) H := by rw [hfs]; exact hP2
  have hD : va_D A ((h0, .inr (12, fs_43)) :: ar_42) := by rw [hfs]; exact hD2
  clear hP2 hD2
  refine lv_aload_n hx hb d_Mod_init_200 rfl (lv_at hl 0 rfl) ?_
  refine lv_sipush (v := 301) hx hb d_Mod_init_201 (by decide) ?_
  refine va_newk (atype := .int) (ty := .int) (cA := cI) (a0 := (301, .inl (fun _ => 0))) hx hb (hT _ vt_83) rfl hK 0 rfl (fun _ _ => rfl) hP hD hS hA (fun _ => rfl) (by decide) (by decide) (by decide) (Nat.le_of_ble_eq_true rfl) (Nat.le_of_ble_eq_true rfl) d_Mod_init_204 (fun q_43 H hP2 hD2 hS2 => ?_)
  clear hP hD hS
  have hS := hS2
  clear hS2
  refine W.widen (k := 14) (n := 2549676) (Nat.le_of_ble_eq_true rfl) (Nat.le_of_ble_eq_true rfl) ?_
  subst har
  obtain ⟨ar_44, har⟩ : ∃ z : va_W, z = [(q_0, .inl (cB, 65536, .inl (fun _ => 0))), (q_2, .inl (cB, 65536, .inl (fun _ => 0))), (q_14, .inl (cB, 400000, .inl (fun _ => 0))), (q_16, .inl (cI, 400000, .inl (fun _ => 0))), (q_18, .inl (cI, 400000, .inl (fun _ => 0))), (q_20, .inl (cI, 400000, .inl (fun _ => 0))), (q_22, .inl (cI, 400000, .inl (fun _ => 0))), (q_24, .inl (cI, 400000, .inl (fun _ => 0))), (q_27, .inl (cI, 8000, .inl (fun _ => 0))), (q_33, .inl (cB, 9400, .inl (fun _ => 0))), (q_35, .inl (cI, 301, .inl (fun _ => 0))), (q_37, .inl (cI, 301, .inl (fun _ => 0))), (q_41, .inl (cI, 301, .inl (fun _ => 0))), (q_43, .inl (cI, 301, .inl (fun _ => 0)))] := ⟨_, rfl⟩
  have hP : va_P (dC, dI) classes ((h0, .inr (12, fs_43)) :: ar_44) H := by rw [har]; exact hP2
  have hD : va_D A ((h0, .inr (12, fs_43)) :: ar_44) := by rw [har]; exact hD2
  clear hP2 hD2
  refine va_putF (D := (dC, dI)) (ci := 12) (v := .ref q_43) (ty := (.array .int)) (C := R_Mod) (T := T_Mod) (N := 76) hx hb hT in_Mod ty_Mod tyo_Mod nm_Mod hown hK hP hD hS 0 rfl rfl 30 (by decide) (hT _ vt_1297) (fun _ h9 => h9) rfl hin rfl (by decide +kernel) rfl rfl (by rw [hfs]; exact Nat.le_of_ble_eq_true rfl) d_Mod_init_206 (fun H locs hP2 hD2 hS2 => ?_)
  clear hP hD hS
  have hS := hS2
  clear hS2
  subst hfs
  obtain ⟨fs_45, hfs⟩ : ∃ z : List Value, z = [.ref q_0, .ref q_2, .int 0, .int 0, .int 0, .int 0, .int 0, .int 0, .int 0, .int 0, .int 0, .int 0, .ref q_14, .ref q_16, .ref q_18, .ref q_20, .ref q_22, .ref q_24, .int 32000, .ref q_27, .int 0, .int 0, .int 0, .int 0, .ref q_33, .ref q_35, .ref q_37, .int 0, .int 0, .ref q_41, .ref q_43, .null, .null, .null, .null, .null, .null, .null, .null, .null, .null, .null, .int 0, .int 0, .null, .null, .int 0, .null, .null, .null, .null, .null, .int 0, .int 0, .int 0, .int 0, .null, .int 0, .int 0, .int 0, .int 0, .int 0, .null, .null, .null, .null, .null, .null, .null, .null, .int 0, .null, .int 0, .null, .null, .int 0] := ⟨_, rfl⟩
  have hP : va_P (dC, dI) classes ((h0, .inr (12, fs_45)) :: ar_44) H := by rw [hfs]; exact hP2
  have hD : va_D A ((h0, .inr (12, fs_45)) :: ar_44) := by rw [hfs]; exact hD2
  clear hP2 hD2
  refine lv_aload_n hx hb d_Mod_init_209 rfl (lv_at hl 0 rfl) ?_
  refine lv_sipush (v := 301) hx hb d_Mod_init_210 (by decide) ?_
  refine va_newk (atype := .int) (ty := .int) (cA := cI) (a0 := (301, .inl (fun _ => 0))) hx hb (hT _ vt_83) rfl hK 0 rfl (fun _ _ => rfl) hP hD hS hA (fun _ => rfl) (by decide) (by decide) (by decide) (Nat.le_of_ble_eq_true rfl) (Nat.le_of_ble_eq_true rfl) d_Mod_init_213 (fun q_45 H hP2 hD2 hS2 => ?_)
  clear hP hD hS
  have hS := hS2
  clear hS2
  refine W.widen (k := 15) (n := 2549977) (Nat.le_of_ble_eq_true rfl) (Nat.le_of_ble_eq_true rfl) ?_
  subst har
  obtain ⟨ar_46, har⟩ : ∃ z : va_W, z = [(q_0, .inl (cB, 65536, .inl (fun _ => 0))), (q_2, .inl (cB, 65536, .inl (fun _ => 0))), (q_14, .inl (cB, 400000, .inl (fun _ => 0))), (q_16, .inl (cI, 400000, .inl (fun _ => 0))), (q_18, .inl (cI, 400000, .inl (fun _ => 0))), (q_20, .inl (cI, 400000, .inl (fun _ => 0))), (q_22, .inl (cI, 400000, .inl (fun _ => 0))), (q_24, .inl (cI, 400000, .inl (fun _ => 0))), (q_27, .inl (cI, 8000, .inl (fun _ => 0))), (q_33, .inl (cB, 9400, .inl (fun _ => 0))), (q_35, .inl (cI, 301, .inl (fun _ => 0))), (q_37, .inl (cI, 301, .inl (fun _ => 0))), (q_41, .inl (cI, 301, .inl (fun _ => 0))), (q_43, .inl (cI, 301, .inl (fun _ => 0))), (q_45, .inl (cI, 301, .inl (fun _ => 0)))] := ⟨_, rfl⟩
  have hP : va_P (dC, dI) classes ((h0, .inr (12, fs_45)) :: ar_46) H := by rw [har]; exact hP2
  have hD : va_D A ((h0, .inr (12, fs_45)) :: ar_46) := by rw [har]; exact hD2
  clear hP2 hD2
  refine va_putF (D := (dC, dI)) (ci := 12) (v := .ref q_45) (ty := (.array .int)) (C := R_Mod) (T := T_Mod) (N := 76) hx hb hT in_Mod ty_Mod tyo_Mod nm_Mod hown hK hP hD hS 0 rfl rfl 31 (by decide) (hT _ vt_1298) (fun _ h9 => h9) rfl hin rfl (by decide +kernel) rfl rfl (by rw [hfs]; exact Nat.le_of_ble_eq_true rfl) d_Mod_init_215 (fun H locs hP2 hD2 hS2 => ?_)
  clear hP hD hS
  have hS := hS2
  clear hS2
  subst hfs
  obtain ⟨fs_47, hfs⟩ : ∃ z : List Value, z = [.ref q_0, .ref q_2, .int 0, .int 0, .int 0, .int 0, .int 0, .int 0, .int 0, .int 0, .int 0, .int 0, .ref q_14, .ref q_16, .ref q_18, .ref q_20, .ref q_22, .ref q_24, .int 32000, .ref q_27, .int 0, .int 0, .int 0, .int 0, .ref q_33, .ref q_35, .ref q_37, .int 0, .int 0, .ref q_41, .ref q_43, .ref q_45, .null, .null, .null, .null, .null, .null, .null, .null, .null, .null, .int 0, .int 0, .null, .null, .int 0, .null, .null, .null, .null, .null, .int 0, .int 0, .int 0, .int 0, .null, .int 0, .int 0, .int 0, .int 0, .int 0, .null, .null, .null, .null, .null, .null, .null, .null, .int 0, .null, .int 0, .null, .null, .int 0] := ⟨_, rfl⟩
  have hP : va_P (dC, dI) classes ((h0, .inr (12, fs_47)) :: ar_46) H := by rw [hfs]; exact hP2
  have hD : va_D A ((h0, .inr (12, fs_47)) :: ar_46) := by rw [hfs]; exact hD2
  clear hP2 hD2
  refine lv_aload_n hx hb d_Mod_init_218 rfl (lv_at hl 0 rfl) ?_
  refine lv_sipush (v := 301) hx hb d_Mod_init_219 (by decide) ?_
  refine va_newk (atype := .int) (ty := .int) (cA := cI) (a0 := (301, .inl (fun _ => 0))) hx hb (hT _ vt_83) rfl hK 0 rfl (fun _ _ => rfl) hP hD hS hA (fun _ => rfl) (by decide) (by decide) (by decide) (Nat.le_of_ble_eq_true rfl) (Nat.le_of_ble_eq_true rfl) d_Mod_init_222 (fun q_47 H hP2 hD2 hS2 => ?_)
  clear hP hD hS
  have hS := hS2
  clear hS2
  refine W.widen (k := 16) (n := 2550278) (Nat.le_of_ble_eq_true rfl) (Nat.le_of_ble_eq_true rfl) ?_
  subst har
  obtain ⟨ar_48, har⟩ : ∃ z : va_W, z = [(q_0, .inl (cB, 65536, .inl (fun _ => 0))), (q_2, .inl (cB, 65536, .inl (fun _ => 0))), (q_14, .inl (cB, 400000, .inl (fun _ => 0))), (q_16, .inl (cI, 400000, .inl (fun _ => 0))), (q_18, .inl (cI, 400000, .inl (fun _ => 0))), (q_20, .inl (cI, 400000, .inl (fun _ => 0))), (q_22, .inl (cI, 400000, .inl (fun _ => 0))), (q_24, .inl (cI, 400000, .inl (fun _ => 0))), (q_27, .inl (cI, 8000, .inl (fun _ => 0))), (q_33, .inl (cB, 9400, .inl (fun _ => 0))), (q_35, .inl (cI, 301, .inl (fun _ => 0))), (q_37, .inl (cI, 301, .inl (fun _ => 0))), (q_41, .inl (cI, 301, .inl (fun _ => 0))), (q_43, .inl (cI, 301, .inl (fun _ => 0))), (q_45, .inl (cI, 301, .inl (fun _ => 0))), (q_47, .inl (cI, 301, .inl (fun _ => 0)))] := ⟨_, rfl⟩
  have hP : va_P (dC, dI) classes ((h0, .inr (12, fs_47)) :: ar_48) H := by rw [har]; exact hP2
  have hD : va_D A ((h0, .inr (12, fs_47)) :: ar_48) := by rw [har]; exact hD2
  clear hP2 hD2
  refine va_putF (D := (dC, dI)) (ci := 12) (v := .ref q_47) (ty := (.array .int)) (C := R_Mod) (T := T_Mod) (N := 76) hx hb hT in_Mod ty_Mod tyo_Mod nm_Mod hown hK hP hD hS 0 rfl rfl 32 (by decide) (hT _ vt_1299) (fun _ h9 => h9) rfl hin rfl (by decide +kernel) rfl rfl (by rw [hfs]; exact Nat.le_of_ble_eq_true rfl) d_Mod_init_224 (fun H locs hP2 hD2 hS2 => ?_)
  clear hP hD hS
  have hS := hS2
  clear hS2
  subst hfs
  obtain ⟨fs_49, hfs⟩ : ∃ z : List Value, z = [.ref q_0, .ref q_2, .int 0, .int 0, .int 0, .int 0, .int 0, .int 0, .int 0, .int 0, .int 0, .int 0, .ref q_14, .ref q_16, .ref q_18, .ref q_20, .ref q_22, .ref q_24, .int 32000, .ref q_27, .int 0, .int 0, .int 0, .int 0, .ref q_33, .ref q_35, .ref q_37, .int 0, .int 0, .ref q_41, .ref q_43, .ref q_45, .ref q_47, .null, .null, .null, .null, .null, .null, .null, .null, .null, .int 0, .int 0, .null, .null, .int 0, .null, .null, .null, .null, .null, .int 0, .int 0, .int 0, .int 0, .null, .int 0, .int 0, .int 0, .int 0, .int 0, .null, .null, .null, .null, .null, .null, .null, .null, .int 0, .null, .int 0, .null, .null, .int 0] := ⟨_, rfl⟩
  have hP : va_P (dC, dI) classes ((h0, .inr (12, fs_49)) :: ar_48) H := by rw [hfs]; exact hP2
  have hD : va_D A ((h0, .inr (12, fs_49)) :: ar_48) := by rw [hfs]; exact hD2
  clear hP2 hD2
  refine lv_aload_n hx hb d_Mod_init_227 rfl (lv_at hl 0 rfl) ?_
  refine lv_sipush (v := 301) hx hb d_Mod_init_228 (by decide) ?_
  refine va_newk (atype := .int) (ty := .int) (cA := cI) (a0 := (301, .inl (fun _ => 0))) hx hb (hT _ vt_83) rfl hK 0 rfl (fun _ _ => rfl) hP hD hS hA (fun _ => rfl) (by decide) (by decide) (by decide) (Nat.le_of_ble_eq_true rfl) (Nat.le_of_ble_eq_true rfl) d_Mod_init_231 (fun q_49 H hP2 hD2 hS2 => ?_)
  clear hP hD hS
  have hS := hS2
  clear hS2
  refine W.widen (k := 17) (n := 2550579) (Nat.le_of_ble_eq_true rfl) (Nat.le_of_ble_eq_true rfl) ?_
  subst har
  obtain ⟨ar_50, har⟩ : ∃ z : va_W, z = [(q_0, .inl (cB, 65536, .inl (fun _ => 0))), (q_2, .inl (cB, 65536, .inl (fun _ => 0))), (q_14, .inl (cB, 400000, .inl (fun _ => 0))), (q_16, .inl (cI, 400000, .inl (fun _ => 0))), (q_18, .inl (cI, 400000, .inl (fun _ => 0))), (q_20, .inl (cI, 400000, .inl (fun _ => 0))), (q_22, .inl (cI, 400000, .inl (fun _ => 0))), (q_24, .inl (cI, 400000, .inl (fun _ => 0))), (q_27, .inl (cI, 8000, .inl (fun _ => 0))), (q_33, .inl (cB, 9400, .inl (fun _ => 0))), (q_35, .inl (cI, 301, .inl (fun _ => 0))), (q_37, .inl (cI, 301, .inl (fun _ => 0))), (q_41, .inl (cI, 301, .inl (fun _ => 0))), (q_43, .inl (cI, 301, .inl (fun _ => 0))), (q_45, .inl (cI, 301, .inl (fun _ => 0))), (q_47, .inl (cI, 301, .inl (fun _ => 0))), (q_49, .inl (cI, 301, .inl (fun _ => 0)))] := ⟨_, rfl⟩
  have hP : va_P (dC, dI) classes ((h0, .inr (12, fs_49)) :: ar_50) H := by rw [har]; exact hP2
  have hD : va_D A ((h0, .inr (12, fs_49)) :: ar_50) := by rw [har]; exact hD2
  clear hP2 hD2
  refine va_putF (D := (dC, dI)) (ci := 12) (v := .ref q_49) (ty := (.array .int)) (C := R_Mod) (T := T_Mod) (N := 76) hx hb hT in_Mod ty_Mod tyo_Mod nm_Mod hown hK hP hD hS 0 rfl rfl 33 (by decide) (hT _ vt_1300) (fun _ h9 => h9) rfl hin rfl (by decide +kernel) rfl rfl (by rw [hfs]; exact Nat.le_of_ble_eq_true rfl) d_Mod_init_233 (fun H locs hP2 hD2 hS2 => ?_)
  clear hP hD hS
  have hS := hS2
  clear hS2
  subst hfs
  obtain ⟨fs_51, hfs⟩ : ∃ z : List Value, z = [.ref q_0, .ref q_2, .int 0, .int 0, .int 0, .int 0, .int 0, .int 0, .int 0, .int 0, .int 0, .int 0, .ref q_14, .ref q_16, .ref q_18, .ref q_20, .ref q_22, .ref q_24, .int 32000, .ref q_27, .int 0, .int 0, .int 0, .int 0, .ref q_33, .ref q_35, .ref q_37, .int 0, .int 0, .ref q_41, .ref q_43, .ref q_45, .ref q_47, .ref q_49, .null, .null, .null, .null, .null, .null, .null, .null, .int 0, .int 0, .null, .null, .int 0, .null, .null, .null, .null, .null, .int 0, .int 0, .int 0, .int 0, .null, .int 0, .int 0, .int 0, .int 0, .int 0, .null, .null, .null, .null, .null, .null, .null, .null, .int 0, .null, .int 0, .null, .null, .int 0] := ⟨_, rfl⟩
  have hP : va_P (dC, dI) classes ((h0, .inr (12, fs_51)) :: ar_50) H := by rw [hfs]; exact hP2
  have hD : va_D A ((h0, .inr (12, fs_51)) :: ar_50) := by rw [hfs]; exact hD2
  clear hP2 hD2
  refine lv_aload_n hx hb d_Mod_init_236 rfl (lv_at hl 0 rfl) ?_
  refine lv_sipush (v := 301) hx hb d_Mod_init_237 (by decide) ?_
  refine va_newk (atype := .int) (ty := .int) (cA := cI) (a0 := (301, .inl (fun _ => 0))) hx hb (hT _ vt_83) rfl hK 0 rfl (fun _ _ => rfl) hP hD hS hA (fun _ => rfl) (by decide) (by decide) (by decide) (Nat.le_of_ble_eq_true rfl) (Nat.le_of_ble_eq_true rfl) d_Mod_init_240 (fun q_51 H hP2 hD2 hS2 => ?_)
  clear hP hD hS
  have hS := hS2
  clear hS2
  refine W.widen (k := 18) (n := 2550880) (Nat.le_of_ble_eq_true rfl) (Nat.le_of_ble_eq_true rfl) ?_
  subst har
  obtain ⟨ar_52, har⟩ : ∃ z : va_W, z = [(q_0, .inl (cB, 65536, .inl (fun _ => 0))), (q_2, .inl (cB, 65536, .inl (fun _ => 0))), (q_14, .inl (cB, 400000, .inl (fun _ => 0))), (q_16, .inl (cI, 400000, .inl (fun _ => 0))), (q_18, .inl (cI, 400000, .inl (fun _ => 0))), (q_20, .inl (cI, 400000, .inl (fun _ => 0))), (q_22, .inl (cI, 400000, .inl (fun _ => 0))), (q_24, .inl (cI, 400000, .inl (fun _ => 0))), (q_27, .inl (cI, 8000, .inl (fun _ => 0))), (q_33, .inl (cB, 9400, .inl (fun _ => 0))), (q_35, .inl (cI, 301, .inl (fun _ => 0))), (q_37, .inl (cI, 301, .inl (fun _ => 0))), (q_41, .inl (cI, 301, .inl (fun _ => 0))), (q_43, .inl (cI, 301, .inl (fun _ => 0))), (q_45, .inl (cI, 301, .inl (fun _ => 0))), (q_47, .inl (cI, 301, .inl (fun _ => 0))), (q_49, .inl (cI, 301, .inl (fun _ => 0))), (q_51, .inl (cI, 301, .inl (fun _ => 0)))] := ⟨_, rfl⟩
  have hP : va_P (dC, dI) classes ((h0, .inr (12, fs_51)) :: ar_52) H := by rw [har]; exact hP2
  have hD : va_D A ((h0, .inr (12, fs_51)) :: ar_52) := by rw [har]; exact hD2
  clear hP2 hD2
  refine va_putF (D := (dC, dI)) (ci := 12) (v := .ref q_51) (ty := (.array .int)) (C := R_Mod) (T := T_Mod) (N := 76) hx hb hT in_Mod ty_Mod tyo_Mod nm_Mod hown hK hP hD hS 0 rfl rfl 34 (by decide) (hT _ vt_1301) (fun _ h9 => h9) rfl hin rfl (by decide +kernel) rfl rfl (by rw [hfs]; exact Nat.le_of_ble_eq_true rfl) d_Mod_init_242 (fun H locs hP2 hD2 hS2 => ?_)
  clear hP hD hS
  have hS := hS2
  clear hS2
  subst hfs
  obtain ⟨fs_53, hfs⟩ : ∃ z : List Value, z = [.ref q_0, .ref q_2, .int 0, .int 0, .int 0, .int 0, .int 0, .int 0, .int 0, .int 0, .int 0, .int 0, .ref q_14, .ref q_16, .ref q_18, .ref q_20, .ref q_22, .ref q_24, .int 32000, .ref q_27, .int 0, .int 0, .int 0, .int 0, .ref q_33, .ref q_35, .ref q_37, .int 0, .int 0, .ref q_41, .ref q_43, .ref q_45, .ref q_47, .ref q_49, .ref q_51, .null, .null, .null, .null, .null, .null, .null, .int 0, .int 0, .null, .null, .int 0, .null, .null, .null, .null, .null, .int 0, .int 0, .int 0, .int 0, .null, .int 0, .int 0, .int 0, .int 0, .int 0, .null, .null, .null, .null, .null, .null, .null, .null, .int 0, .null, .int 0, .null, .null, .int 0] := ⟨_, rfl⟩
  have hP : va_P (dC, dI) classes ((h0, .inr (12, fs_53)) :: ar_52) H := by rw [hfs]; exact hP2
  have hD : va_D A ((h0, .inr (12, fs_53)) :: ar_52) := by rw [hfs]; exact hD2
  clear hP2 hD2
  refine lv_aload_n hx hb d_Mod_init_245 rfl (lv_at hl 0 rfl) ?_
  refine lv_sipush (v := 301) hx hb d_Mod_init_246 (by decide) ?_
  refine va_newk (atype := .int) (ty := .int) (cA := cI) (a0 := (301, .inl (fun _ => 0))) hx hb (hT _ vt_83) rfl hK 0 rfl (fun _ _ => rfl) hP hD hS hA (fun _ => rfl) (by decide) (by decide) (by decide) (Nat.le_of_ble_eq_true rfl) (Nat.le_of_ble_eq_true rfl) d_Mod_init_249 (fun q_53 H hP2 hD2 hS2 => ?_)
  clear hP hD hS
  have hS := hS2
  clear hS2
  refine W.widen (k := 19) (n := 2551181) (Nat.le_of_ble_eq_true rfl) (Nat.le_of_ble_eq_true rfl) ?_
  subst har
  obtain ⟨ar_54, har⟩ : ∃ z : va_W, z = [(q_0, .inl (cB, 65536, .inl (fun _ => 0))), (q_2, .inl (cB, 65536, .inl (fun _ => 0))), (q_14, .inl (cB, 400000, .inl (fun _ => 0))), (q_16, .inl (cI, 400000, .inl (fun _ => 0))), (q_18, .inl (cI, 400000, .inl (fun _ => 0))), (q_20, .inl (cI, 400000, .inl (fun _ => 0))), (q_22, .inl (cI, 400000, .inl (fun _ => 0))), (q_24, .inl (cI, 400000, .inl (fun _ => 0))), (q_27, .inl (cI, 8000, .inl (fun _ => 0))), (q_33, .inl (cB, 9400, .inl (fun _ => 0))), (q_35, .inl (cI, 301, .inl (fun _ => 0))), (q_37, .inl (cI, 301, .inl (fun _ => 0))), (q_41, .inl (cI, 301, .inl (fun _ => 0))), (q_43, .inl (cI, 301, .inl (fun _ => 0))), (q_45, .inl (cI, 301, .inl (fun _ => 0))), (q_47, .inl (cI, 301, .inl (fun _ => 0))), (q_49, .inl (cI, 301, .inl (fun _ => 0))), (q_51, .inl (cI, 301, .inl (fun _ => 0))), (q_53, .inl (cI, 301, .inl (fun _ => 0)))] := ⟨_, rfl⟩
  have hP : va_P (dC, dI) classes ((h0, .inr (12, fs_53)) :: ar_54) H := by rw [har]; exact hP2
  have hD : va_D A ((h0, .inr (12, fs_53)) :: ar_54) := by rw [har]; exact hD2
  clear hP2 hD2
  refine va_putF (D := (dC, dI)) (ci := 12) (v := .ref q_53) (ty := (.array .int)) (C := R_Mod) (T := T_Mod) (N := 76) hx hb hT in_Mod ty_Mod tyo_Mod nm_Mod hown hK hP hD hS 0 rfl rfl 35 (by decide) (hT _ vt_1302) (fun _ h9 => h9) rfl hin rfl (by decide +kernel) rfl rfl (by rw [hfs]; exact Nat.le_of_ble_eq_true rfl) d_Mod_init_251 (fun H locs hP2 hD2 hS2 => ?_)
  clear hP hD hS
  have hS := hS2
  clear hS2
  subst hfs
  obtain ⟨fs_55, hfs⟩ : ∃ z : List Value, z = [.ref q_0, .ref q_2, .int 0, .int 0, .int 0, .int 0, .int 0, .int 0, .int 0, .int 0, .int 0, .int 0, .ref q_14, .ref q_16, .ref q_18, .ref q_20, .ref q_22, .ref q_24, .int 32000, .ref q_27, .int 0, .int 0, .int 0, .int 0, .ref q_33, .ref q_35, .ref q_37, .int 0, .int 0, .ref q_41, .ref q_43, .ref q_45, .ref q_47, .ref q_49, .ref q_51, .ref q_53, .null, .null, .null, .null, .null, .null, .int 0, .int 0, .null, .null, .int 0, .null, .null, .null, .null, .null, .int 0, .int 0, .int 0, .int 0, .null, .int 0, .int 0, .int 0, .int 0, .int 0, .null, .null, .null, .null, .null, .null, .null, .null, .int 0, .null, .int 0, .null, .null, .int 0] := ⟨_, rfl⟩
  have hP : va_P (dC, dI) classes ((h0, .inr (12, fs_55)) :: ar_54) H := by rw [hfs]; exact hP2
  have hD : va_D A ((h0, .inr (12, fs_55)) :: ar_54) := by rw [hfs]; exact hD2
  clear hP2 hD2
  refine lv_aload_n hx hb d_Mod_init_254 rfl (lv_at hl 0 rfl) ?_
  refine lv_sipush (v := 301) hx hb d_Mod_init_255 (by decide) ?_
  refine va_newk (atype := .int) (ty := .int) (cA := cI) (a0 := (301, .inl (fun _ => 0))) hx hb (hT _ vt_83) rfl hK 0 rfl (fun _ _ => rfl) hP hD hS hA (fun _ => rfl) (by decide) (by decide) (by decide) (Nat.le_of_ble_eq_true rfl) (Nat.le_of_ble_eq_true rfl) d_Mod_init_258 (fun q_55 H hP2 hD2 hS2 => ?_)
  clear hP hD hS
  have hS := hS2
  clear hS2
  refine W.widen (k := 20) (n := 2551482) (Nat.le_of_ble_eq_true rfl) (Nat.le_of_ble_eq_true rfl) ?_
  subst har
  obtain ⟨ar_56, har⟩ : ∃ z : va_W, z = [(q_0, .inl (cB, 65536, .inl (fun _ => 0))), (q_2, .inl (cB, 65536, .inl (fun _ => 0))), (q_14, .inl (cB, 400000, .inl (fun _ => 0))), (q_16, .inl (cI, 400000, .inl (fun _ => 0))), (q_18, .inl (cI, 400000, .inl (fun _ => 0))), (q_20, .inl (cI, 400000, .inl (fun _ => 0))), (q_22, .inl (cI, 400000, .inl (fun _ => 0))), (q_24, .inl (cI, 400000, .inl (fun _ => 0))), (q_27, .inl (cI, 8000, .inl (fun _ => 0))), (q_33, .inl (cB, 9400, .inl (fun _ => 0))), (q_35, .inl (cI, 301, .inl (fun _ => 0))), (q_37, .inl (cI, 301, .inl (fun _ => 0))), (q_41, .inl (cI, 301, .inl (fun _ => 0))), (q_43, .inl (cI, 301, .inl (fun _ => 0))), (q_45, .inl (cI, 301, .inl (fun _ => 0))), (q_47, .inl (cI, 301, .inl (fun _ => 0))), (q_49, .inl (cI, 301, .inl (fun _ => 0))), (q_51, .inl (cI, 301, .inl (fun _ => 0))), (q_53, .inl (cI, 301, .inl (fun _ => 0))), (q_55, .inl (cI, 301, .inl (fun _ => 0)))] := ⟨_, rfl⟩
  have hP : va_P (dC, dI) classes ((h0, .inr (12, fs_55)) :: ar_56) H := by rw [har]; exact hP2
  have hD : va_D A ((h0, .inr (12, fs_55)) :: ar_56) := by rw [har]; exact hD2
  clear hP2 hD2
  refine va_putF (D := (dC, dI)) (ci := 12) (v := .ref q_55) (ty := (.array .int)) (C := R_Mod) (T := T_Mod) (N := 76) hx hb hT in_Mod ty_Mod tyo_Mod nm_Mod hown hK hP hD hS 0 rfl rfl 36 (by decide) (hT _ vt_1303) (fun _ h9 => h9) rfl hin rfl (by decide +kernel) rfl rfl (by rw [hfs]; exact Nat.le_of_ble_eq_true rfl) d_Mod_init_260 (fun H locs hP2 hD2 hS2 => ?_)
  clear hP hD hS
  have hS := hS2
  clear hS2
  subst hfs
  obtain ⟨fs_57, hfs⟩ : ∃ z : List Value, z = [.ref q_0, .ref q_2, .int 0, .int 0, .int 0, .int 0, .int 0, .int 0, .int 0, .int 0, .int 0, .int 0, .ref q_14, .ref q_16, .ref q_18, .ref q_20, .ref q_22, .ref q_24, .int 32000, .ref q_27, .int 0, .int 0, .int 0, .int 0, .ref q_33, .ref q_35, .ref q_37, .int 0, .int 0, .ref q_41, .ref q_43, .ref q_45, .ref q_47, .ref q_49, .ref q_51, .ref q_53, .ref q_55, .null, .null, .null, .null, .null, .int 0, .int 0, .null, .null, .int 0, .null, .null, .null, .null, .null, .int 0, .int 0, .int 0, .int 0, .null, .int 0, .int 0, .int 0, .int 0, .int 0, .null, .null, .null, .null, .null, .null, .null, .null, .int 0, .null, .int 0, .null, .null, .int 0] := ⟨_, rfl⟩
  have hP : va_P (dC, dI) classes ((h0, .inr (12, fs_57)) :: ar_56) H := by rw [hfs]; exact hP2
  have hD : va_D A ((h0, .inr (12, fs_57)) :: ar_56) := by rw [hfs]; exact hD2
  clear hP2 hD2
  refine lv_aload_n hx hb d_Mod_init_263 rfl (lv_at hl 0 rfl) ?_
  refine lv_sipush (v := 301) hx hb d_Mod_init_264 (by decide) ?_
  refine va_newk (atype := .int) (ty := .int) (cA := cI) (a0 := (301, .inl (fun _ => 0))) hx hb (hT _ vt_83) rfl hK 0 rfl (fun _ _ => rfl) hP hD hS hA (fun _ => rfl) (by decide) (by decide) (by decide) (Nat.le_of_ble_eq_true rfl) (Nat.le_of_ble_eq_true rfl) d_Mod_init_267 (fun q_57 H hP2 hD2 hS2 => ?_)
  clear hP hD hS
  have hS := hS2
  clear hS2
  refine W.widen (k := 21) (n := 2551783) (Nat.le_of_ble_eq_true rfl) (Nat.le_of_ble_eq_true rfl) ?_
  subst har
  obtain ⟨ar_58, har⟩ : ∃ z : va_W, z = [(q_0, .inl (cB, 65536, .inl (fun _ => 0))), (q_2, .inl (cB, 65536, .inl (fun _ => 0))), (q_14, .inl (cB, 400000, .inl (fun _ => 0))), (q_16, .inl (cI, 400000, .inl (fun _ => 0))), (q_18, .inl (cI, 400000, .inl (fun _ => 0))), (q_20, .inl (cI, 400000, .inl (fun _ => 0))), (q_22, .inl (cI, 400000, .inl (fun _ => 0))), (q_24, .inl (cI, 400000, .inl (fun _ => 0))), (q_27, .inl (cI, 8000, .inl (fun _ => 0))), (q_33, .inl (cB, 9400, .inl (fun _ => 0))), (q_35, .inl (cI, 301, .inl (fun _ => 0))), (q_37, .inl (cI, 301, .inl (fun _ => 0))), (q_41, .inl (cI, 301, .inl (fun _ => 0))), (q_43, .inl (cI, 301, .inl (fun _ => 0))), (q_45, .inl (cI, 301, .inl (fun _ => 0))), (q_47, .inl (cI, 301, .inl (fun _ => 0))), (q_49, .inl (cI, 301, .inl (fun _ => 0))), (q_51, .inl (cI, 301, .inl (fun _ => 0))), (q_53, .inl (cI, 301, .inl (fun _ => 0))), (q_55, .inl (cI, 301, .inl (fun _ => 0))), (q_57, .inl (cI, 301, .inl (fun _ => 0)))] := ⟨_, rfl⟩
  have hP : va_P (dC, dI) classes ((h0, .inr (12, fs_57)) :: ar_58) H := by rw [har]; exact hP2
  have hD : va_D A ((h0, .inr (12, fs_57)) :: ar_58) := by rw [har]; exact hD2
  clear hP2 hD2
  refine va_putF (D := (dC, dI)) (ci := 12) (v := .ref q_57) (ty := (.array .int)) (C := R_Mod) (T := T_Mod) (N := 76) hx hb hT in_Mod ty_Mod tyo_Mod nm_Mod hown hK hP hD hS 0 rfl rfl 37 (by decide) (hT _ vt_1304) (fun _ h9 => h9) rfl hin rfl (by decide +kernel) rfl rfl (by rw [hfs]; exact Nat.le_of_ble_eq_true rfl) d_Mod_init_269 (fun H locs hP2 hD2 hS2 => ?_)
  clear hP hD hS
  have hS := hS2
  clear hS2
  subst hfs
  obtain ⟨fs_59, hfs⟩ : ∃ z : List Value, z = [.ref q_0, .ref q_2, .int 0, .int 0, .int 0, .int 0, .int 0, .int 0, .int 0, .int 0, .int 0, .int 0, .ref q_14, .ref q_16, .ref q_18, .ref q_20, .ref q_22, .ref q_24, .int 32000, .ref q_27, .int 0, .int 0, .int 0, .int 0, .ref q_33, .ref q_35, .ref q_37, .int 0, .int 0, .ref q_41, .ref q_43, .ref q_45, .ref q_47, .ref q_49, .ref q_51, .ref q_53, .ref q_55, .ref q_57, .null, .null, .null, .null, .int 0, .int 0, .null, .null, .int 0, .null, .null, .null, .null, .null, .int 0, .int 0, .int 0, .int 0, .null, .int 0, .int 0, .int 0, .int 0, .int 0, .null, .null, .null, .null, .null, .null, .null, .null, .int 0, .null, .int 0, .null, .null, .int 0] := ⟨_, rfl⟩
  have hP : va_P (dC, dI) classes ((h0, .inr (12, fs_59)) :: ar_58) H := by rw [hfs]; exact hP2
  have hD : va_D A ((h0, .inr (12, fs_59)) :: ar_58) := by rw [hfs]; exact hD2
  clear hP2 hD2
  refine lv_aload_n hx hb d_Mod_init_272 rfl (lv_at hl 0 rfl) ?_
  refine lv_sipush (v := 301) hx hb d_Mod_init_273 (by decide) ?_
  refine va_newk (atype := .int) (ty := .int) (cA := cI) (a0 := (301, .inl (fun _ => 0))) hx hb (hT _ vt_83) rfl hK 0 rfl (fun _ _ => rfl) hP hD hS hA (fun _ => rfl) (by decide) (by decide) (by decide) (Nat.le_of_ble_eq_true rfl) (Nat.le_of_ble_eq_true rfl) d_Mod_init_276 (fun q_59 H hP2 hD2 hS2 => ?_)
  clear hP hD hS
  have hS := hS2
  clear hS2
  refine W.widen (k := 22) (n := 2552084) (Nat.le_of_ble_eq_true rfl) (Nat.le_of_ble_eq_true rfl) ?_
  subst har
  obtain ⟨ar_60, har⟩ : ∃ z : va_W, z = [(q_0, .inl (cB, 65536, .inl (fun _ => 0))), (q_2, .inl (cB, 65536, .inl (fun _ => 0))), (q_14, .inl (cB, 400000, .inl (fun _ => 0))), (q_16, .inl (cI, 400000, .inl (fun _ => 0))), (q_18, .inl (cI, 400000, .inl (fun _ => 0))), (q_20, .inl (cI, 400000, .inl (fun _ => 0))), (q_22, .inl (cI, 400000, .inl (fun _ => 0))), (q_24, .inl (cI, 400000, .inl (fun _ => 0))), (q_27, .inl (cI, 8000, .inl (fun _ => 0))), (q_33, .inl (cB, 9400, .inl (fun _ => 0))), (q_35, .inl (cI, 301, .inl (fun _ => 0))), (q_37, .inl (cI, 301, .inl (fun _ => 0))), (q_41, .inl (cI, 301, .inl (fun _ => 0))), (q_43, .inl (cI, 301, .inl (fun _ => 0))), (q_45, .inl (cI, 301, .inl (fun _ => 0))), (q_47, .inl (cI, 301, .inl (fun _ => 0))), (q_49, .inl (cI, 301, .inl (fun _ => 0))), (q_51, .inl (cI, 301, .inl (fun _ => 0))), (q_53, .inl (cI, 301, .inl (fun _ => 0))), (q_55, .inl (cI, 301, .inl (fun _ => 0))), (q_57, .inl (cI, 301, .inl (fun _ => 0))), (q_59, .inl (cI, 301, .inl (fun _ => 0)))] := ⟨_, rfl⟩
  have hP : va_P (dC, dI) classes ((h0, .inr (12, fs_59)) :: ar_60) H := by rw [har]; exact hP2
  have hD : va_D A ((h0, .inr (12, fs_59)) :: ar_60) := by rw [har]; exact hD2
  clear hP2 hD2
  refine va_putF (D := (dC, dI)) (ci := 12) (v := .ref q_59) (ty := (.array .int)) (C := R_Mod) (T := T_Mod) (N := 76) hx hb hT in_Mod ty_Mod tyo_Mod nm_Mod hown hK hP hD hS 0 rfl rfl 38 (by decide) (hT _ vt_1305) (fun _ h9 => h9) rfl hin rfl (by decide +kernel) rfl rfl (by rw [hfs]; exact Nat.le_of_ble_eq_true rfl) d_Mod_init_278 (fun H locs hP2 hD2 hS2 => ?_)
  clear hP hD hS
  have hS := hS2
  clear hS2
  subst hfs
  obtain ⟨fs_61, hfs⟩ : ∃ z : List Value, z = [.ref q_0, .ref q_2, .int 0, .int 0, .int 0, .int 0, .int 0, .int 0, .int 0, .int 0, .int 0, .int 0, .ref q_14, .ref q_16, .ref q_18, .ref q_20, .ref q_22, .ref q_24, .int 32000, .ref q_27, .int 0, .int 0, .int 0, .int 0, .ref q_33, .ref q_35, .ref q_37, .int 0, .int 0, .ref q_41, .ref q_43, .ref q_45, .ref q_47, .ref q_49, .ref q_51, .ref q_53, .ref q_55, .ref q_57, .ref q_59, .null, .null, .null, .int 0, .int 0, .null, .null, .int 0, .null, .null, .null, .null, .null, .int 0, .int 0, .int 0, .int 0, .null, .int 0, .int 0, .int 0, .int 0, .int 0, .null, .null, .null, .null, .null, .null, .null, .null, .int 0, .null, .int 0, .null, .null, .int 0] := ⟨_, rfl⟩
  have hP : va_P (dC, dI) classes ((h0, .inr (12, fs_61)) :: ar_60) H := by rw [hfs]; exact hP2
  have hD : va_D A ((h0, .inr (12, fs_61)) :: ar_60) := by rw [hfs]; exact hD2
  clear hP2 hD2
  refine lv_aload_n hx hb d_Mod_init_281 rfl (lv_at hl 0 rfl) ?_
  refine lv_sipush (v := 301) hx hb d_Mod_init_282 (by decide) ?_
  refine va_newk (atype := .int) (ty := .int) (cA := cI) (a0 := (301, .inl (fun _ => 0))) hx hb (hT _ vt_83) rfl hK 0 rfl (fun _ _ => rfl) hP hD hS hA (fun _ => rfl) (by decide) (by decide) (by decide) (Nat.le_of_ble_eq_true rfl) (Nat.le_of_ble_eq_true rfl) d_Mod_init_285 (fun q_61 H hP2 hD2 hS2 => ?_)
  clear hP hD hS
  have hS := hS2
  clear hS2
  refine W.widen (k := 23) (n := 2552385) (Nat.le_of_ble_eq_true rfl) (Nat.le_of_ble_eq_true rfl) ?_
  subst har
  obtain ⟨ar_62, har⟩ : ∃ z : va_W, z = [(q_0, .inl (cB, 65536, .inl (fun _ => 0))), (q_2, .inl (cB, 65536, .inl (fun _ => 0))), (q_14, .inl (cB, 400000, .inl (fun _ => 0))), (q_16, .inl (cI, 400000, .inl (fun _ => 0))), (q_18, .inl (cI, 400000, .inl (fun _ => 0))), (q_20, .inl (cI, 400000, .inl (fun _ => 0))), (q_22, .inl (cI, 400000, .inl (fun _ => 0))), (q_24, .inl (cI, 400000, .inl (fun _ => 0))), (q_27, .inl (cI, 8000, .inl (fun _ => 0))), (q_33, .inl (cB, 9400, .inl (fun _ => 0))), (q_35, .inl (cI, 301, .inl (fun _ => 0))), (q_37, .inl (cI, 301, .inl (fun _ => 0))), (q_41, .inl (cI, 301, .inl (fun _ => 0))), (q_43, .inl (cI, 301, .inl (fun _ => 0))), (q_45, .inl (cI, 301, .inl (fun _ => 0))), (q_47, .inl (cI, 301, .inl (fun _ => 0))), (q_49, .inl (cI, 301, .inl (fun _ => 0))), (q_51, .inl (cI, 301, .inl (fun _ => 0))), (q_53, .inl (cI, 301, .inl (fun _ => 0))), (q_55, .inl (cI, 301, .inl (fun _ => 0))), (q_57, .inl (cI, 301, .inl (fun _ => 0))), (q_59, .inl (cI, 301, .inl (fun _ => 0))), (q_61, .inl (cI, 301, .inl (fun _ => 0)))] := ⟨_, rfl⟩
  have hP : va_P (dC, dI) classes ((h0, .inr (12, fs_61)) :: ar_62) H := by rw [har]; exact hP2
  have hD : va_D A ((h0, .inr (12, fs_61)) :: ar_62) := by rw [har]; exact hD2
  clear hP2 hD2
  refine va_putF (D := (dC, dI)) (ci := 12) (v := .ref q_61) (ty := (.array .int)) (C := R_Mod) (T := T_Mod) (N := 76) hx hb hT in_Mod ty_Mod tyo_Mod nm_Mod hown hK hP hD hS 0 rfl rfl 39 (by decide) (hT _ vt_1306) (fun _ h9 => h9) rfl hin rfl (by decide +kernel) rfl rfl (by rw [hfs]; exact Nat.le_of_ble_eq_true rfl) d_Mod_init_287 (fun H locs hP2 hD2 hS2 => ?_)
  clear hP hD hS
  have hS := hS2
  clear hS2
  subst hfs
  obtain ⟨fs_63, hfs⟩ : ∃ z : List Value, z = [.ref q_0, .ref q_2, .int 0, .int 0, .int 0, .int 0, .int 0, .int 0, .int 0, .int 0, .int 0, .int 0, .ref q_14, .ref q_16, .ref q_18, .ref q_20, .ref q_22, .ref q_24, .int 32000, .ref q_27, .int 0, .int 0, .int 0, .int 0, .ref q_33, .ref q_35, .ref q_37, .int 0, .int 0, .ref q_41, .ref q_43, .ref q_45, .ref q_47, .ref q_49, .ref q_51, .ref q_53, .ref q_55, .ref q_57, .ref q_59, .ref q_61, .null, .null, .int 0, .int 0, .null, .null, .int 0, .null, .null, .null, .null, .null, .int 0, .int 0, .int 0, .int 0, .null, .int 0, .int 0, .int 0, .int 0, .int 0, .null, .null, .null, .null, .null, .null, .null, .null, .int 0, .null, .int 0, .null, .null, .int 0] := ⟨_, rfl⟩
  have hP : va_P (dC, dI) classes ((h0, .inr (12, fs_63)) :: ar_62) H := by rw [hfs]; exact hP2
  have hD : va_D A ((h0, .inr (12, fs_63)) :: ar_62) := by rw [hfs]; exact hD2
  clear hP2 hD2
  refine lv_aload_n hx hb d_Mod_init_290 rfl (lv_at hl 0 rfl) ?_
  refine lv_sipush (v := 301) hx hb d_Mod_init_291 (by decide) ?_
  refine va_newk (atype := .int) (ty := .int) (cA := cI) (a0 := (301, .inl (fun _ => 0))) hx hb (hT _ vt_83) rfl hK 0 rfl (fun _ _ => rfl) hP hD hS hA (fun _ => rfl) (by decide) (by decide) (by decide) (Nat.le_of_ble_eq_true rfl) (Nat.le_of_ble_eq_true rfl) d_Mod_init_294 (fun q_63 H hP2 hD2 hS2 => ?_)
  clear hP hD hS
  have hS := hS2
  clear hS2
  refine W.widen (k := 24) (n := 2552686) (Nat.le_of_ble_eq_true rfl) (Nat.le_of_ble_eq_true rfl) ?_
  subst har
  obtain ⟨ar_64, har⟩ : ∃ z : va_W, z = [(q_0, .inl (cB, 65536, .inl (fun _ => 0))), (q_2, .inl (cB, 65536, .inl (fun _ => 0))), (q_14, .inl (cB, 400000, .inl (fun _ => 0))), (q_16, .inl (cI, 400000, .inl (fun _ => 0))), (q_18, .inl (cI, 400000, .inl (fun _ => 0))), (q_20, .inl (cI, 400000, .inl (fun _ => 0))), (q_22, .inl (cI, 400000, .inl (fun _ => 0))), (q_24, .inl (cI, 400000, .inl (fun _ => 0))), (q_27, .inl (cI, 8000, .inl (fun _ => 0))), (q_33, .inl (cB, 9400, .inl (fun _ => 0))), (q_35, .inl (cI, 301, .inl (fun _ => 0))), (q_37, .inl (cI, 301, .inl (fun _ => 0))), (q_41, .inl (cI, 301, .inl (fun _ => 0))), (q_43, .inl (cI, 301, .inl (fun _ => 0))), (q_45, .inl (cI, 301, .inl (fun _ => 0))), (q_47, .inl (cI, 301, .inl (fun _ => 0))), (q_49, .inl (cI, 301, .inl (fun _ => 0))), (q_51, .inl (cI, 301, .inl (fun _ => 0))), (q_53, .inl (cI, 301, .inl (fun _ => 0))), (q_55, .inl (cI, 301, .inl (fun _ => 0))), (q_57, .inl (cI, 301, .inl (fun _ => 0))), (q_59, .inl (cI, 301, .inl (fun _ => 0))), (q_61, .inl (cI, 301, .inl (fun _ => 0))), (q_63, .inl (cI, 301, .inl (fun _ => 0)))] := ⟨_, rfl⟩
  have hP : va_P (dC, dI) classes ((h0, .inr (12, fs_63)) :: ar_64) H := by rw [har]; exact hP2
  have hD : va_D A ((h0, .inr (12, fs_63)) :: ar_64) := by rw [har]; exact hD2
  clear hP2 hD2
  refine va_putF (D := (dC, dI)) (ci := 12) (v := .ref q_63) (ty := (.array .int)) (C := R_Mod) (T := T_Mod) (N := 76) hx hb hT in_Mod ty_Mod tyo_Mod nm_Mod hown hK hP hD hS 0 rfl rfl 40 (by decide) (hT _ vt_1307) (fun _ h9 => h9) rfl hin rfl (by decide +kernel) rfl rfl (by rw [hfs]; exact Nat.le_of_ble_eq_true rfl) d_Mod_init_296 (fun H locs hP2 hD2 hS2 => ?_)
  clear hP hD hS
  have hS := hS2
  clear hS2
  subst hfs
  obtain ⟨fs_65, hfs⟩ : ∃ z : List Value, z = [.ref q_0, .ref q_2, .int 0, .int 0, .int 0, .int 0, .int 0, .int 0, .int 0, .int 0, .int 0, .int 0, .ref q_14, .ref q_16, .ref q_18, .ref q_20, .ref q_22, .ref q_24, .int 32000, .ref q_27, .int 0, .int 0, .int 0, .int 0, .ref q_33, .ref q_35, .ref q_37, .int 0, .int 0, .ref q_41, .ref q_43, .ref q_45, .ref q_47, .ref q_49, .ref q_51, .ref q_53, .ref q_55, .ref q_57, .ref q_59, .ref q_61, .ref q_63, .null, .int 0, .int 0, .null, .null, .int 0, .null, .null, .null, .null, .null, .int 0, .int 0, .int 0, .int 0, .null, .int 0, .int 0, .int 0, .int 0, .int 0, .null, .null, .null, .null, .null, .null, .null, .null, .int 0, .null, .int 0, .null, .null, .int 0] := ⟨_, rfl⟩
  have hP : va_P (dC, dI) classes ((h0, .inr (12, fs_65)) :: ar_64) H := by rw [hfs]; exact hP2
  have hD : va_D A ((h0, .inr (12, fs_65)) :: ar_64) := by rw [hfs]; exact hD2
  clear hP2 hD2
  refine lv_aload_n hx hb d_Mod_init_299 rfl (lv_at hl 0 rfl) ?_
  refine lv_sipush (v := 301) hx hb d_Mod_init_300 (by decide) ?_
  refine va_newk (atype := .boolean) (ty := .boolean) (cA := cZ) (a0 := (301, .inl (fun _ => 0))) hx hb (hT _ vt_1308) rfl hK 2 rfl (fun _ _ => rfl) hP hD hS hA (fun _ => rfl) (by decide) (by decide) (by decide) (Nat.le_of_ble_eq_true rfl) (Nat.le_of_ble_eq_true rfl) d_Mod_init_303 (fun q_65 H hP2 hD2 hS2 => ?_)
  clear hP hD hS
  have hS := hS2
  clear hS2
  refine W.widen (k := 25) (n := 2552987) (Nat.le_of_ble_eq_true rfl) (Nat.le_of_ble_eq_true rfl) ?_
  subst har
  obtain ⟨ar_66, har⟩ : ∃ z : va_W, z = [(q_0, .inl (cB, 65536, .inl (fun _ => 0))), (q_2, .inl (cB, 65536, .inl (fun _ => 0))), (q_14, .inl (cB, 400000, .inl (fun _ => 0))), (q_16, .inl (cI, 400000, .inl (fun _ => 0))), (q_18, .inl (cI, 400000, .inl (fun _ => 0))), (q_20, .inl (cI, 400000, .inl (fun _ => 0))), (q_22, .inl (cI, 400000, .inl (fun _ => 0))), (q_24, .inl (cI, 400000, .inl (fun _ => 0))), (q_27, .inl (cI, 8000, .inl (fun _ => 0))), (q_33, .inl (cB, 9400, .inl (fun _ => 0))), (q_35, .inl (cI, 301, .inl (fun _ => 0))), (q_37, .inl (cI, 301, .inl (fun _ => 0))), (q_41, .inl (cI, 301, .inl (fun _ => 0))), (q_43, .inl (cI, 301, .inl (fun _ => 0))), (q_45, .inl (cI, 301, .inl (fun _ => 0))), (q_47, .inl (cI, 301, .inl (fun _ => 0))), (q_49, .inl (cI, 301, .inl (fun _ => 0))), (q_51, .inl (cI, 301, .inl (fun _ => 0))), (q_53, .inl (cI, 301, .inl (fun _ => 0))), (q_55, .inl (cI, 301, .inl (fun _ => 0))), (q_57, .inl (cI, 301, .inl (fun _ => 0))), (q_59, .inl (cI, 301, .inl (fun _ => 0))), (q_61, .inl (cI, 301, .inl (fun _ => 0))), (q_63, .inl (cI, 301, .inl (fun _ => 0))), (q_65, .inl (cZ, 301, .inl (fun _ => 0)))] := ⟨_, rfl⟩
  have hP : va_P (dC, dI) classes ((h0, .inr (12, fs_65)) :: ar_66) H := by rw [har]; exact hP2
  have hD : va_D A ((h0, .inr (12, fs_65)) :: ar_66) := by rw [har]; exact hD2
  clear hP2 hD2
  refine va_putF (D := (dC, dI)) (ci := 12) (v := .ref q_65) (ty := (.array .boolean)) (C := R_Mod) (T := T_Mod) (N := 76) hx hb hT in_Mod ty_Mod tyo_Mod nm_Mod hown hK hP hD hS 0 rfl rfl 41 (by decide) (hT _ vt_1309) (fun _ h9 => h9) rfl hin rfl (by decide +kernel) rfl rfl (by rw [hfs]; exact Nat.le_of_ble_eq_true rfl) d_Mod_init_305 (fun H locs hP2 hD2 hS2 => ?_)
  clear hP hD hS
  have hS := hS2
  clear hS2
  subst hfs
  obtain ⟨fs_67, hfs⟩ : ∃ z : List Value, z = [.ref q_0, .ref q_2, .int 0, .int 0, .int 0, .int 0, .int 0, .int 0, .int 0, .int 0, .int 0, .int 0, .ref q_14, .ref q_16, .ref q_18, .ref q_20, .ref q_22, .ref q_24, .int 32000, .ref q_27, .int 0, .int 0, .int 0, .int 0, .ref q_33, .ref q_35, .ref q_37, .int 0, .int 0, .ref q_41, .ref q_43, .ref q_45, .ref q_47, .ref q_49, .ref q_51, .ref q_53, .ref q_55, .ref q_57, .ref q_59, .ref q_61, .ref q_63, .ref q_65, .int 0, .int 0, .null, .null, .int 0, .null, .null, .null, .null, .null, .int 0, .int 0, .int 0, .int 0, .null, .int 0, .int 0, .int 0, .int 0, .int 0, .null, .null, .null, .null, .null, .null, .null, .null, .int 0, .null, .int 0, .null, .null, .int 0] := ⟨_, rfl⟩
  have hP : va_P (dC, dI) classes ((h0, .inr (12, fs_67)) :: ar_66) H := by rw [hfs]; exact hP2
  have hD : va_D A ((h0, .inr (12, fs_67)) :: ar_66) := by rw [hfs]; exact hD2
  clear hP2 hD2
  refine lv_aload_n hx hb d_Mod_init_308 rfl (lv_at hl 0 rfl) ?_
  refine lv_iconst (v := 0) hx hb d_Mod_init_309 (by decide) ?_
  refine va_put (D := (dC, dI)) (ci := 12) (v := .int 0) (ty := .int) (C := R_Mod) (T := T_Mod) (N := 76) hx hb hT in_Mod ty_Mod tyo_Mod nm_Mod hown hK hP hD hS 0 rfl rfl 42 (by decide) (hT _ vt_1310) (fun _ h9 => h9) rfl (by decide +kernel) rfl rfl (by rw [hfs]; exact Nat.le_of_ble_eq_true rfl) d_Mod_init_310 (fun H locs hP2 hD2 hS2 => ?_)
  clear hP hD hS
  have hS := hS2
  clear hS2
  subst hfs
  obtain ⟨fs_68, hfs⟩ : ∃ z : List Value, z = [.ref q_0, .ref q_2, .int 0, .int 0, .int 0, .int 0, .int 0, .int 0, .int 0, .int 0, .int 0, .int 0, .ref q_14, .ref q_16, .ref q_18, .ref q_20, .ref q_22, .ref q_24, .int 32000, .ref q_27, .int 0, .int 0, .int 0, .int 0, .ref q_33, .ref q_35, .ref q_37, .int 0, .int 0, .ref q_41, .ref q_43, .ref q_45, .ref q_47, .ref q_49, .ref q_51, .ref q_53, .ref q_55, .ref q_57, .ref q_59, .ref q_61, .ref q_63, .ref q_65, .int 0, .int 0, .null, .null, .int 0, .null, .null, .null, .null, .null, .int 0, .int 0, .int 0, .int 0, .null, .int 0, .int 0, .int 0, .int 0, .int 0, .null, .null, .null, .null, .null, .null, .null, .null, .int 0, .null, .int 0, .null, .null, .int 0] := ⟨_, rfl⟩
  have hP : va_P (dC, dI) classes ((h0, .inr (12, fs_68)) :: ar_66) H := by rw [hfs]; exact hP2
  have hD : va_D A ((h0, .inr (12, fs_68)) :: ar_66) := by rw [hfs]; exact hD2
  clear hP2 hD2
  refine lv_aload_n hx hb d_Mod_init_313 rfl (lv_at hl 0 rfl) ?_
  refine lv_iconst (v := 0) hx hb d_Mod_init_314 (by decide) ?_
  refine va_put (D := (dC, dI)) (ci := 12) (v := .int 0) (ty := .int) (C := R_Mod) (T := T_Mod) (N := 76) hx hb hT in_Mod ty_Mod tyo_Mod nm_Mod hown hK hP hD hS 0 rfl rfl 43 (by decide) (hT _ vt_1311) (fun _ h9 => h9) rfl (by decide +kernel) rfl rfl (by rw [hfs]; exact Nat.le_of_ble_eq_true rfl) d_Mod_init_315 (fun H locs hP2 hD2 hS2 => ?_)
  clear hP hD hS
  have hS := hS2
  clear hS2
  subst hfs
  obtain ⟨fs_69, hfs⟩ : ∃ z : List Value, z = [.ref q_0, .ref q_2, .int 0, .int 0, .int 0, .int 0, .int 0, .int 0, .int 0, .int 0, .int 0, .int 0, .ref q_14, .ref q_16, .ref q_18, .ref q_20, .ref q_22, .ref q_24, .int 32000, .ref q_27, .int 0, .int 0, .int 0, .int 0, .ref q_33, .ref q_35, .ref q_37, .int 0, .int 0, .ref q_41, .ref q_43, .ref q_45, .ref q_47, .ref q_49, .ref q_51, .ref q_53, .ref q_55, .ref q_57, .ref q_59, .ref q_61, .ref q_63, .ref q_65, .int 0, .int 0, .null, .null, .int 0, .null, .null, .null, .null, .null, .int 0, .int 0, .int 0, .int 0, .null, .int 0, .int 0, .int 0, .int 0, .int 0, .null, .null, .null, .null, .null, .null, .null, .null, .int 0, .null, .int 0, .null, .null, .int 0] := ⟨_, rfl⟩
  have hP : va_P (dC, dI) classes ((h0, .inr (12, fs_69)) :: ar_66) H := by rw [hfs]; exact hP2
  have hD : va_D A ((h0, .inr (12, fs_69)) :: ar_66) := by rw [hfs]; exact hD2
  clear hP2 hD2
  refine lv_aload_n hx hb d_Mod_init_318 rfl (lv_at hl 0 rfl) ?_
  refine lv_sipush (v := 3400) hx hb d_Mod_init_319 (by decide) ?_
  refine va_newk (atype := .int) (ty := .int) (cA := cI) (a0 := (3400, .inl (fun _ => 0))) hx hb (hT _ vt_83) rfl hK 0 rfl (fun _ _ => rfl) hP hD hS hA (fun _ => rfl) (by decide) (by decide) (by decide) (Nat.le_of_ble_eq_true rfl) (Nat.le_of_ble_eq_true rfl) d_Mod_init_322 (fun q_69 H hP2 hD2 hS2 => ?_)
  clear hP hD hS
  have hS := hS2
  clear hS2
  refine W.widen (k := 26) (n := 2556387) (Nat.le_of_ble_eq_true rfl) (Nat.le_of_ble_eq_true rfl) ?_
  subst har
  obtain ⟨ar_70, har⟩ : ∃ z : va_W, z = [(q_0, .inl (cB, 65536, .inl (fun _ => 0))), (q_2, .inl (cB, 65536, .inl (fun _ => 0))), (q_14, .inl (cB, 400000, .inl (fun _ => 0))), (q_16, .inl (cI, 400000, .inl (fun _ => 0))), (q_18, .inl (cI, 400000, .inl (fun _ => 0))), (q_20, .inl (cI, 400000, .inl (fun _ => 0))), (q_22, .inl (cI, 400000, .inl (fun _ => 0))), (q_24, .inl (cI, 400000, .inl (fun _ => 0))), (q_27, .inl (cI, 8000, .inl (fun _ => 0))), (q_33, .inl (cB, 9400, .inl (fun _ => 0))), (q_35, .inl (cI, 301, .inl (fun _ => 0))), (q_37, .inl (cI, 301, .inl (fun _ => 0))), (q_41, .inl (cI, 301, .inl (fun _ => 0))), (q_43, .inl (cI, 301, .inl (fun _ => 0))), (q_45, .inl (cI, 301, .inl (fun _ => 0))), (q_47, .inl (cI, 301, .inl (fun _ => 0))), (q_49, .inl (cI, 301, .inl (fun _ => 0))), (q_51, .inl (cI, 301, .inl (fun _ => 0))), (q_53, .inl (cI, 301, .inl (fun _ => 0))), (q_55, .inl (cI, 301, .inl (fun _ => 0))), (q_57, .inl (cI, 301, .inl (fun _ => 0))), (q_59, .inl (cI, 301, .inl (fun _ => 0))), (q_61, .inl (cI, 301, .inl (fun _ => 0))), (q_63, .inl (cI, 301, .inl (fun _ => 0))), (q_65, .inl (cZ, 301, .inl (fun _ => 0))), (q_69, .inl (cI, 3400, .inl (fun _ => 0)))] := ⟨_, rfl⟩
  have hP : va_P (dC, dI) classes ((h0, .inr (12, fs_69)) :: ar_70) H := by rw [har]; exact hP2
  have hD : va_D A ((h0, .inr (12, fs_69)) :: ar_70) := by rw [har]; exact hD2
  clear hP2 hD2
  refine va_putF (D := (dC, dI)) (ci := 12) (v := .ref q_69) (ty := (.array .int)) (C := R_Mod) (T := T_Mod) (N := 76) hx hb hT in_Mod ty_Mod tyo_Mod nm_Mod hown hK hP hD hS 0 rfl rfl 44 (by decide) (hT _ vt_1312) (fun _ h9 => h9) rfl hin rfl (by decide +kernel) rfl rfl (by rw [hfs]; exact Nat.le_of_ble_eq_true rfl) d_Mod_init_324 (fun H locs hP2 hD2 hS2 => ?_)
  clear hP hD hS
  have hS := hS2
  clear hS2
  subst hfs
  obtain ⟨fs_71, hfs⟩ : ∃ z : List Value, z = [.ref q_0, .ref q_2, .int 0, .int 0, .int 0, .int 0, .int 0, .int 0, .int 0, .int 0, .int 0, .int 0, .ref q_14, .ref q_16, .ref q_18, .ref q_20, .ref q_22, .ref q_24, .int 32000, .ref q_27, .int 0, .int 0, .int 0, .int 0, .ref q_33, .ref q_35, .ref q_37, .int 0, .int 0, .ref q_41, .ref q_43, .ref q_45, .ref q_47, .ref q_49, .ref q_51, .ref q_53, .ref q_55, .ref q_57, .ref q_59, .ref q_61, .ref q_63, .ref q_65, .int 0, .int 0, .ref q_69, .null, .int 0, .null, .null, .null, .null, .null, .int 0, .int 0, .int 0, .int 0, .null, .int 0, .int 0, .int 0, .int 0, .int 0, .null, .null, .null, .null, .null, .null, .null, .null, .int 0, .null, .int 0, .null, .null, .int 0] := ⟨_, rfl⟩
  have hP : va_P (dC, dI) classes ((h0, .inr (12, fs_71)) :: ar_70) H := by rw [hfs]; exact hP2
  have hD : va_D A ((h0, .inr (12, fs_71)) :: ar_70) := by rw [hfs]; exact hD2
  clear hP2 hD2
  refine lv_aload_n hx hb d_Mod_init_327 rfl (lv_at hl 0 rfl) ?_
  refine lv_sipush (v := 3400) hx hb d_Mod_init_328 (by decide) ?_
  refine va_newk (atype := .int) (ty := .int) (cA := cI) (a0 := (3400, .inl (fun _ => 0))) hx hb (hT _ vt_83) rfl hK 0 rfl (fun _ _ => rfl) hP hD hS hA (fun _ => rfl) (by decide) (by decide) (by decide) (Nat.le_of_ble_eq_true rfl) (Nat.le_of_ble_eq_true rfl) d_Mod_init_331 (fun q_71 H hP2 hD2 hS2 => ?_)
  clear hP hD hS
  have hS := hS2
  clear hS2
  refine W.widen (k := 27) (n := 2559787) (Nat.le_of_ble_eq_true rfl) (Nat.le_of_ble_eq_true rfl) ?_
  subst har
  obtain ⟨ar_72, har⟩ : ∃ z : va_W, z = [(q_0, .inl (cB, 65536, .inl (fun _ => 0))), (q_2, .inl (cB, 65536, .inl (fun _ => 0))), (q_14, .inl (cB, 400000, .inl (fun _ => 0))), (q_16, .inl (cI, 400000, .inl (fun _ => 0))), (q_18, .inl (cI, 400000, .inl (fun _ => 0))), (q_20, .inl (cI, 400000, .inl (fun _ => 0))), (q_22, .inl (cI, 400000, .inl (fun _ => 0))), (q_24, .inl (cI, 400000, .inl (fun _ => 0))), (q_27, .inl (cI, 8000, .inl (fun _ => 0))), (q_33, .inl (cB, 9400, .inl (fun _ => 0))), (q_35, .inl (cI, 301, .inl (fun _ => 0))), (q_37, .inl (cI, 301, .inl (fun _ => 0))), (q_41, .inl (cI, 301, .inl (fun _ => 0))), (q_43, .inl (cI, 301, .inl (fun _ => 0))), (q_45, .inl (cI, 301, .inl (fun _ => 0))), (q_47, .inl (cI, 301, .inl (fun _ => 0))), (q_49, .inl (cI, 301, .inl (fun _ => 0))), (q_51, .inl (cI, 301, .inl (fun _ => 0))), (q_53, .inl (cI, 301, .inl (fun _ => 0))), (q_55, .inl (cI, 301, .inl (fun _ => 0))), (q_57, .inl (cI, 301, .inl (fun _ => 0))), (q_59, .inl (cI, 301, .inl (fun _ => 0))), (q_61, .inl (cI, 301, .inl (fun _ => 0))), (q_63, .inl (cI, 301, .inl (fun _ => 0))), (q_65, .inl (cZ, 301, .inl (fun _ => 0))), (q_69, .inl (cI, 3400, .inl (fun _ => 0))), (q_71, .inl (cI, 3400, .inl (fun _ => 0)))] := ⟨_, rfl⟩
  have hP : va_P (dC, dI) classes ((h0, .inr (12, fs_71)) :: ar_72) H := by rw [har]; exact hP2
  have hD : va_D A ((h0, .inr (12, fs_71)) :: ar_72) := by rw [har]; exact hD2
  clear hP2 hD2
  refine va_putF (D := (dC, dI)) (ci := 12) (v := .ref q_71) (ty := (.array .int)) (C := R_Mod) (T := T_Mod) (N := 76) hx hb hT in_Mod ty_Mod tyo_Mod nm_Mod hown hK hP hD hS 0 rfl rfl 45 (by decide) (hT _ vt_1313) (fun _ h9 => h9) rfl hin rfl (by decide +kernel) rfl rfl (by rw [hfs]; exact Nat.le_of_ble_eq_true rfl) d_Mod_init_333 (fun H locs hP2 hD2 hS2 => ?_)
  clear hP hD hS
  have hS := hS2
  clear hS2
  subst hfs
  obtain ⟨fs_73, hfs⟩ : ∃ z : List Value, z = [.ref q_0, .ref q_2, .int 0, .int 0, .int 0, .int 0, .int 0, .int 0, .int 0, .int 0, .int 0, .int 0, .ref q_14, .ref q_16, .ref q_18, .ref q_20, .ref q_22, .ref q_24, .int 32000, .ref q_27, .int 0, .int 0, .int 0, .int 0, .ref q_33, .ref q_35, .ref q_37, .int 0, .int 0, .ref q_41, .ref q_43, .ref q_45, .ref q_47, .ref q_49, .ref q_51, .ref q_53, .ref q_55, .ref q_57, .ref q_59, .ref q_61, .ref q_63, .ref q_65, .int 0, .int 0, .ref q_69, .ref q_71, .int 0, .null, .null, .null, .null, .null, .int 0, .int 0, .int 0, .int 0, .null, .int 0, .int 0, .int 0, .int 0, .int 0, .null, .null, .null, .null, .null, .null, .null, .null, .int 0, .null, .int 0, .null, .null, .int 0] := ⟨_, rfl⟩
  have hP : va_P (dC, dI) classes ((h0, .inr (12, fs_73)) :: ar_72) H := by rw [hfs]; exact hP2
  have hD : va_D A ((h0, .inr (12, fs_73)) :: ar_72) := by rw [hfs]; exact hD2
  clear hP2 hD2
  refine lv_aload_n hx hb d_Mod_init_336 rfl (lv_at hl 0 rfl) ?_
  refine lv_iconst (v := 0) hx hb d_Mod_init_337 (by decide) ?_
  refine va_put (D := (dC, dI)) (ci := 12) (v := .int 0) (ty := .int) (C := R_Mod) (T := T_Mod) (N := 76) hx hb hT in_Mod ty_Mod tyo_Mod nm_Mod hown hK hP hD hS 0 rfl rfl 46 (by decide) (hT _ vt_1314) (fun _ h9 => h9) rfl (by decide +kernel) rfl rfl (by rw [hfs]; exact Nat.le_of_ble_eq_true rfl) d_Mod_init_338 (fun H locs hP2 hD2 hS2 => ?_)
  clear hP hD hS
  have hS := hS2
  clear hS2
  subst hfs
  obtain ⟨fs_74, hfs⟩ : ∃ z : List Value, z = [.ref q_0, .ref q_2, .int 0, .int 0, .int 0, .int 0, .int 0, .int 0, .int 0, .int 0, .int 0, .int 0, .ref q_14, .ref q_16, .ref q_18, .ref q_20, .ref q_22, .ref q_24, .int 32000, .ref q_27, .int 0, .int 0, .int 0, .int 0, .ref q_33, .ref q_35, .ref q_37, .int 0, .int 0, .ref q_41, .ref q_43, .ref q_45, .ref q_47, .ref q_49, .ref q_51, .ref q_53, .ref q_55, .ref q_57, .ref q_59, .ref q_61, .ref q_63, .ref q_65, .int 0, .int 0, .ref q_69, .ref q_71, .int 0, .null, .null, .null, .null, .null, .int 0, .int 0, .int 0, .int 0, .null, .int 0, .int 0, .int 0, .int 0, .int 0, .null, .null, .null, .null, .null, .null, .null, .null, .int 0, .null, .int 0, .null, .null, .int 0] := ⟨_, rfl⟩
  have hP : va_P (dC, dI) classes ((h0, .inr (12, fs_74)) :: ar_72) H := by rw [hfs]; exact hP2
  have hD : va_D A ((h0, .inr (12, fs_74)) :: ar_72) := by rw [hfs]; exact hD2
  clear hP2 hD2
  refine lv_aload_n hx hb d_Mod_init_341 rfl (lv_at hl 0 rfl) ?_
  refine lv_sipush (v := 3400) hx hb d_Mod_init_342 (by decide) ?_
  refine va_newk (atype := .int) (ty := .int) (cA := cI) (a0 := (3400, .inl (fun _ => 0))) hx hb (hT _ vt_83) rfl hK 0 rfl (fun _ _ => rfl) hP hD hS hA (fun _ => rfl) (by decide) (by decide) (by decide) (Nat.le_of_ble_eq_true rfl) (Nat.le_of_ble_eq_true rfl) d_Mod_init_345 (fun q_74 H hP2 hD2 hS2 => ?_)
  clear hP hD hS
  have hS := hS2
  clear hS2
  refine W.widen (k := 28) (n := 2563187) (Nat.le_of_ble_eq_true rfl) (Nat.le_of_ble_eq_true rfl) ?_
  subst har
  obtain ⟨ar_75, har⟩ : ∃ z : va_W, z = [(q_0, .inl (cB, 65536, .inl (fun _ => 0))), (q_2, .inl (cB, 65536, .inl (fun _ => 0))), (q_14, .inl (cB, 400000, .inl (fun _ => 0))), (q_16, .inl (cI, 400000, .inl (fun _ => 0))), (q_18, .inl (cI, 400000, .inl (fun _ => 0))), (q_20, .inl (cI, 400000, .inl (fun _ => 0))), (q_22, .inl (cI, 400000, .inl (fun _ => 0))), (q_24, .inl (cI, 400000, .inl (fun _ => 0))), (q_27, .inl (cI, 8000, .inl (fun _ => 0))), (q_33, .inl (cB, 9400, .inl (fun _ => 0))), (q_35, .inl (cI, 301, .inl (fun _ => 0))), (q_37, .inl (cI, 301, .inl (fun _ => 0))), (q_41, .inl (cI, 301, .inl (fun _ => 0))), (q_43, .inl (cI, 301, .inl (fun _ => 0))), (q_45, .inl (cI, 301, .inl (fun _ => 0))), (q_47, .inl (cI, 301, .inl (fun _ => 0))), (q_49, .inl (cI, 301, .inl (fun _ => 0))), (q_51, .inl (cI, 301, .inl (fun _ => 0))), (q_53, .inl (cI, 301, .inl (fun _ => 0))), (q_55, .inl (cI, 301, .inl (fun _ => 0))), (q_57, .inl (cI, 301, .inl (fun _ => 0))), (q_59, .inl (cI, 301, .inl (fun _ => 0))), (q_61, .inl (cI, 301, .inl (fun _ => 0))), (q_63, .inl (cI, 301, .inl (fun _ => 0))), (q_65, .inl (cZ, 301, .inl (fun _ => 0))), (q_69, .inl (cI, 3400, .inl (fun _ => 0))), (q_71, .inl (cI, 3400, .inl (fun _ => 0))), (q_74, .inl (cI, 3400, .inl (fun _ => 0)))] := ⟨_, rfl⟩
  have hP : va_P (dC, dI) classes ((h0, .inr (12, fs_74)) :: ar_75) H := by rw [har]; exact hP2
  have hD : va_D A ((h0, .inr (12, fs_74)) :: ar_75) := by rw [har]; exact hD2
  clear hP2 hD2
  refine va_putF (D := (dC, dI)) (ci := 12) (v := .ref q_74) (ty := (.array .int)) (C := R_Mod) (T := T_Mod) (N := 76) hx hb hT in_Mod ty_Mod tyo_Mod nm_Mod hown hK hP hD hS 0 rfl rfl 47 (by decide) (hT _ vt_1315) (fun _ h9 => h9) rfl hin rfl (by decide +kernel) rfl rfl (by rw [hfs]; exact Nat.le_of_ble_eq_true rfl) d_Mod_init_347 (fun H locs hP2 hD2 hS2 => ?_)
  clear hP hD hS
  have hS := hS2
  clear hS2
  subst hfs
  obtain ⟨fs_76, hfs⟩ : ∃ z : List Value, z = [.ref q_0, .ref q_2, .int 0, .int 0, .int 0, .int 0, .int 0, .int 0, .int 0, .int 0, .int 0, .int 0, .ref q_14, .ref q_16, .ref q_18, .ref q_20, .ref q_22, .ref q_24, .int 32000, .ref q_27, .int 0, .int 0, .int 0, .int 0, .ref q_33, .ref q_35, .ref q_37, .int 0, .int 0, .ref q_41, .ref q_43, .ref q_45, .ref q_47, .ref q_49, .ref q_51, .ref q_53, .ref q_55, .ref q_57, .ref q_59, .ref q_61, .ref q_63, .ref q_65, .int 0, .int 0, .ref q_69, .ref q_71, .int 0, .ref q_74, .null, .null, .null, .null, .int 0, .int 0, .int 0, .int 0, .null, .int 0, .int 0, .int 0, .int 0, .int 0, .null, .null, .null, .null, .null, .null, .null, .null, .int 0, .null, .int 0, .null, .null, .int 0] := ⟨_, rfl⟩
  have hP : va_P (dC, dI) classes ((h0, .inr (12, fs_76)) :: ar_75) H := by rw [hfs]; exact hP2
  have hD : va_D A ((h0, .inr (12, fs_76)) :: ar_75) := by rw [hfs]; exact hD2
  clear hP2 hD2
  refine lv_aload_n hx hb d_Mod_init_350 rfl (lv_at hl 0 rfl) ?_
  refine lv_sipush (v := 3100) hx hb d_Mod_init_351 (by decide) ?_
  refine va_newk (atype := .int) (ty := .int) (cA := cI) (a0 := (3100, .inl (fun _ => 0))) hx hb (hT _ vt_83) rfl hK 0 rfl (fun _ _ => rfl) hP hD hS hA (fun _ => rfl) (by decide) (by decide) (by decide) (Nat.le_of_ble_eq_true rfl) (Nat.le_of_ble_eq_true rfl) d_Mod_init_354 (fun q_76 H hP2 hD2 hS2 => ?_)
  clear hP hD hS
  have hS := hS2
  clear hS2
  refine W.widen (k := 29) (n := 2566287) (Nat.le_of_ble_eq_true rfl) (Nat.le_of_ble_eq_true rfl) ?_
  subst har
  obtain ⟨ar_77, har⟩ : ∃ z : va_W, z = [(q_0, .inl (cB, 65536, .inl (fun _ => 0))), (q_2, .inl (cB, 65536, .inl (fun _ => 0))), (q_14, .inl (cB, 400000, .inl (fun _ => 0))), (q_16, .inl (cI, 400000, .inl (fun _ => 0))), (q_18, .inl (cI, 400000, .inl (fun _ => 0))), (q_20, .inl (cI, 400000, .inl (fun _ => 0))), (q_22, .inl (cI, 400000, .inl (fun _ => 0))), (q_24, .inl (cI, 400000, .inl (fun _ => 0))), (q_27, .inl (cI, 8000, .inl (fun _ => 0))), (q_33, .inl (cB, 9400, .inl (fun _ => 0))), (q_35, .inl (cI, 301, .inl (fun _ => 0))), (q_37, .inl (cI, 301, .inl (fun _ => 0))), (q_41, .inl (cI, 301, .inl (fun _ => 0))), (q_43, .inl (cI, 301, .inl (fun _ => 0))), (q_45, .inl (cI, 301, .inl (fun _ => 0))), (q_47, .inl (cI, 301, .inl (fun _ => 0))), (q_49, .inl (cI, 301, .inl (fun _ => 0))), (q_51, .inl (cI, 301, .inl (fun _ => 0))), (q_53, .inl (cI, 301, .inl (fun _ => 0))), (q_55, .inl (cI, 301, .inl (fun _ => 0))), (q_57, .inl (cI, 301, .inl (fun _ => 0))), (q_59, .inl (cI, 301, .inl (fun _ => 0))), (q_61, .inl (cI, 301, .inl (fun _ => 0))), (q_63, .inl (cI, 301, .inl (fun _ => 0))), (q_65, .inl (cZ, 301, .inl (fun _ => 0))), (q_69, .inl (cI, 3400, .inl (fun _ => 0))), (q_71, .inl (cI, 3400, .inl (fun _ => 0))), (q_74, .inl (cI, 3400, .inl (fun _ => 0))), (q_76, .inl (cI, 3100, .inl (fun _ => 0)))] := ⟨_, rfl⟩
  have hP : va_P (dC, dI) classes ((h0, .inr (12, fs_76)) :: ar_77) H := by rw [har]; exact hP2
  have hD : va_D A ((h0, .inr (12, fs_76)) :: ar_77) := by rw [har]; exact hD2
  clear hP2 hD2
  refine va_putF (D := (dC, dI)) (ci := 12) (v := .ref q_76) (ty := (.array .int)) (C := R_Mod) (T := T_Mod) (N := 76) hx hb hT in_Mod ty_Mod tyo_Mod nm_Mod hown hK hP hD hS 0 rfl rfl 48 (by decide) (hT _ vt_1316) (fun _ h9 => h9) rfl hin rfl (by decide +kernel) rfl rfl (by rw [hfs]; exact Nat.le_of_ble_eq_true rfl) d_Mod_init_356 (fun H locs hP2 hD2 hS2 => ?_)
  clear hP hD hS
  have hS := hS2
  clear hS2
  subst hfs
  obtain ⟨fs_78, hfs⟩ : ∃ z : List Value, z = [.ref q_0, .ref q_2, .int 0, .int 0, .int 0, .int 0, .int 0, .int 0, .int 0, .int 0, .int 0, .int 0, .ref q_14, .ref q_16, .ref q_18, .ref q_20, .ref q_22, .ref q_24, .int 32000, .ref q_27, .int 0, .int 0, .int 0, .int 0, .ref q_33, .ref q_35, .ref q_37, .int 0, .int 0, .ref q_41, .ref q_43, .ref q_45, .ref q_47, .ref q_49, .ref q_51, .ref q_53, .ref q_55, .ref q_57, .ref q_59, .ref q_61, .ref q_63, .ref q_65, .int 0, .int 0, .ref q_69, .ref q_71, .int 0, .ref q_74, .ref q_76, .null, .null, .null, .int 0, .int 0, .int 0, .int 0, .null, .int 0, .int 0, .int 0, .int 0, .int 0, .null, .null, .null, .null, .null, .null, .null, .null, .int 0, .null, .int 0, .null, .null, .int 0] := ⟨_, rfl⟩
  have hP : va_P (dC, dI) classes ((h0, .inr (12, fs_78)) :: ar_77) H := by rw [hfs]; exact hP2
  have hD : va_D A ((h0, .inr (12, fs_78)) :: ar_77) := by rw [hfs]; exact hD2
  clear hP2 hD2
  refine lv_aload_n hx hb d_Mod_init_359 rfl (lv_at hl 0 rfl) ?_
  refine lv_sipush (v := 3100) hx hb d_Mod_init_360 (by decide) ?_
  refine va_newk (atype := .int) (ty := .int) (cA := cI) (a0 := (3100, .inl (fun _ => 0))) hx hb (hT _ vt_83) rfl hK 0 rfl (fun _ _ => rfl) hP hD hS hA (fun _ => rfl) (by decide) (by decide) (by decide) (Nat.le_of_ble_eq_true rfl) (Nat.le_of_ble_eq_true rfl) d_Mod_init_363 (fun q_78 H hP2 hD2 hS2 => ?_)
  clear hP hD hS
  have hS := hS2
  clear hS2
  refine W.widen (k := 30) (n := 2569387) (Nat.le_of_ble_eq_true rfl) (Nat.le_of_ble_eq_true rfl) ?_
  subst har
  obtain ⟨ar_79, har⟩ : ∃ z : va_W, z = [(q_0, .inl (cB, 65536, .inl (fun _ => 0))), (q_2, .inl (cB, 65536, .inl (fun _ => 0))), (q_14, .inl (cB, 400000, .inl (fun _ => 0))), (q_16, .inl (cI, 400000, .inl (fun _ => 0))), (q_18, .inl (cI, 400000, .inl (fun _ => 0))), (q_20, .inl (cI, 400000, .inl (fun _ => 0))), (q_22, .inl (cI, 400000, .inl (fun _ => 0))), (q_24, .inl (cI, 400000, .inl (fun _ => 0))), (q_27, .inl (cI, 8000, .inl (fun _ => 0))), (q_33, .inl (cB, 9400, .inl (fun _ => 0))), (q_35, .inl (cI, 301, .inl (fun _ => 0))), (q_37, .inl (cI, 301, .inl (fun _ => 0))), (q_41, .inl (cI, 301, .inl (fun _ => 0))), (q_43, .inl (cI, 301, .inl (fun _ => 0))), (q_45, .inl (cI, 301, .inl (fun _ => 0))), (q_47, .inl (cI, 301, .inl (fun _ => 0))), (q_49, .inl (cI, 301, .inl (fun _ => 0))), (q_51, .inl (cI, 301, .inl (fun _ => 0))), (q_53, .inl (cI, 301, .inl (fun _ => 0))), (q_55, .inl (cI, 301, .inl (fun _ => 0))), (q_57, .inl (cI, 301, .inl (fun _ => 0))), (q_59, .inl (cI, 301, .inl (fun _ => 0))), (q_61, .inl (cI, 301, .inl (fun _ => 0))), (q_63, .inl (cI, 301, .inl (fun _ => 0))), (q_65, .inl (cZ, 301, .inl (fun _ => 0))), (q_69, .inl (cI, 3400, .inl (fun _ => 0))), (q_71, .inl (cI, 3400, .inl (fun _ => 0))), (q_74, .inl (cI, 3400, .inl (fun _ => 0))), (q_76, .inl (cI, 3100, .inl (fun _ => 0))), (q_78, .inl (cI, 3100, .inl (fun _ => 0)))] := ⟨_, rfl⟩
  have hP : va_P (dC, dI) classes ((h0, .inr (12, fs_78)) :: ar_79) H := by rw [har]; exact hP2
  have hD : va_D A ((h0, .inr (12, fs_78)) :: ar_79) := by rw [har]; exact hD2
  clear hP2 hD2
  refine va_putF (D := (dC, dI)) (ci := 12) (v := .ref q_78) (ty := (.array .int)) (C := R_Mod) (T := T_Mod) (N := 76) hx hb hT in_Mod ty_Mod tyo_Mod nm_Mod hown hK hP hD hS 0 rfl rfl 49 (by decide) (hT _ vt_1317) (fun _ h9 => h9) rfl hin rfl (by decide +kernel) rfl rfl (by rw [hfs]; exact Nat.le_of_ble_eq_true rfl) d_Mod_init_365 (fun H locs hP2 hD2 hS2 => ?_)
  clear hP hD hS
  have hS := hS2
  clear hS2
  subst hfs
  obtain ⟨fs_80, hfs⟩ : ∃ z : List Value, z = [.ref q_0, .ref q_2, .int 0, .int 0, .int 0, .int 0, .int 0, .int 0, .int 0, .int 0, .int 0, .int 0, .ref q_14, .ref q_16, .ref q_18, .ref q_20, .ref q_22, .ref q_24, .int 32000, .ref q_27, .int 0, .int 0, .int 0, .int 0, .ref q_33, .ref q_35, .ref q_37, .int 0, .int 0, .ref q_41, .ref q_43, .ref q_45, .ref q_47, .ref q_49, .ref q_51, .ref q_53, .ref q_55, .ref q_57, .ref q_59, .ref q_61, .ref q_63, .ref q_65, .int 0, .int 0, .ref q_69, .ref q_71, .int 0, .ref q_74, .ref q_76, .ref q_78, .null, .null, .int 0, .int 0, .int 0, .int 0, .null, .int 0, .int 0, .int 0, .int 0, .int 0, .null, .null, .null, .null, .null, .null, .null, .null, .int 0, .null, .int 0, .null, .null, .int 0] := ⟨_, rfl⟩
  have hP : va_P (dC, dI) classes ((h0, .inr (12, fs_80)) :: ar_79) H := by rw [hfs]; exact hP2
  have hD : va_D A ((h0, .inr (12, fs_80)) :: ar_79) := by rw [hfs]; exact hD2
  clear hP2 hD2
  refine lv_aload_n hx hb d_Mod_init_368 rfl (lv_at hl 0 rfl) ?_
  refine lv_sipush (v := 3400) hx hb d_Mod_init_369 (by decide) ?_
  refine va_newk (atype := .int) (ty := .int) (cA := cI) (a0 := (3400, .inl (fun _ => 0))) hx hb (hT _ vt_83) rfl hK 0 rfl (fun _ _ => rfl) hP hD hS hA (fun _ => rfl) (by decide) (by decide) (by decide) (Nat.le_of_ble_eq_true rfl) (Nat.le_of_ble_eq_true rfl) d_Mod_init_372 (fun q_80 H hP2 hD2 hS2 => ?_)
  clear hP hD hS
  have hS := hS2
  clear hS2
  refine W.widen (k := 31) (n := 2572787) (Nat.le_of_ble_eq_true rfl) (Nat.le_of_ble_eq_true rfl) ?_
  subst har
  obtain ⟨ar_81, har⟩ : ∃ z : va_W, z = [(q_0, .inl (cB, 65536, .inl (fun _ => 0))), (q_2, .inl (cB, 65536, .inl (fun _ => 0))), (q_14, .inl (cB, 400000, .inl (fun _ => 0))), (q_16, .inl (cI, 400000, .inl (fun _ => 0))), (q_18, .inl (cI, 400000, .inl (fun _ => 0))), (q_20, .inl (cI, 400000, .inl (fun _ => 0))), (q_22, .inl (cI, 400000, .inl (fun _ => 0))), (q_24, .inl (cI, 400000, .inl (fun _ => 0))), (q_27, .inl (cI, 8000, .inl (fun _ => 0))), (q_33, .inl (cB, 9400, .inl (fun _ => 0))), (q_35, .inl (cI, 301, .inl (fun _ => 0))), (q_37, .inl (cI, 301, .inl (fun _ => 0))), (q_41, .inl (cI, 301, .inl (fun _ => 0))), (q_43, .inl (cI, 301, .inl (fun _ => 0))), (q_45, .inl (cI, 301, .inl (fun _ => 0))), (q_47, .inl (cI, 301, .inl (fun _ => 0))), (q_49, .inl (cI, 301, .inl (fun _ => 0))), (q_51, .inl (cI, 301, .inl (fun _ => 0))), (q_53, .inl (cI, 301, .inl (fun _ => 0))), (q_55, .inl (cI, 301, .inl (fun _ => 0))), (q_57, .inl (cI, 301, .inl (fun _ => 0))), (q_59, .inl (cI, 301, .inl (fun _ => 0))), (q_61, .inl (cI, 301, .inl (fun _ => 0))), (q_63, .inl (cI, 301, .inl (fun _ => 0))), (q_65, .inl (cZ, 301, .inl (fun _ => 0))), (q_69, .inl (cI, 3400, .inl (fun _ => 0))), (q_71, .inl (cI, 3400, .inl (fun _ => 0))), (q_74, .inl (cI, 3400, .inl (fun _ => 0))), (q_76, .inl (cI, 3100, .inl (fun _ => 0))), (q_78, .inl (cI, 3100, .inl (fun _ => 0))), (q_80, .inl (cI, 3400, .inl (fun _ => 0)))] := ⟨_, rfl⟩
  have hP : va_P (dC, dI) classes ((h0, .inr (12, fs_80)) :: ar_81) H := by rw [har]; exact hP2
  have hD : va_D A ((h0, .inr (12, fs_80)) :: ar_81) := by rw [har]; exact hD2
  clear hP2 hD2
  refine va_putF (D := (dC, dI)) (ci := 12) (v := .ref q_80) (ty := (.array .int)) (C := R_Mod) (T := T_Mod) (N := 76) hx hb hT in_Mod ty_Mod tyo_Mod nm_Mod hown hK hP hD hS 0 rfl rfl 50 (by decide) (hT _ vt_1318) (fun _ h9 => h9) rfl hin rfl (by decide +kernel) rfl rfl (by rw [hfs]; exact Nat.le_of_ble_eq_true rfl) d_Mod_init_374 (fun H locs hP2 hD2 hS2 => ?_)
  clear hP hD hS
  have hS := hS2
  clear hS2
  subst hfs
  obtain ⟨fs_82, hfs⟩ : ∃ z : List Value, z = [.ref q_0, .ref q_2, .int 0, .int 0, .int 0, .int 0, .int 0, .int 0, .int 0, .int 0, .int 0, .int 0, .ref q_14, .ref q_16, .ref q_18, .ref q_20, .ref q_22, .ref q_24, .int 32000, .ref q_27, .int 0, .int 0, .int 0, .int 0, .ref q_33, .ref q_35, .ref q_37, .int 0, .int 0, .ref q_41, .ref q_43, .ref q_45, .ref q_47, .ref q_49, .ref q_51, .ref q_53, .ref q_55, .ref q_57, .ref q_59, .ref q_61, .ref q_63, .ref q_65, .int 0, .int 0, .ref q_69, .ref q_71, .int 0, .ref q_74, .ref q_76, .ref q_78, .ref q_80, .null, .int 0, .int 0, .int 0, .int 0, .null, .int 0, .int 0, .int 0, .int 0, .int 0, .null, .null, .null, .null, .null, .null, .null, .null, .int 0, .null, .int 0, .null, .null, .int 0] := ⟨_, rfl⟩
  have hP : va_P (dC, dI) classes ((h0, .inr (12, fs_82)) :: ar_81) H := by rw [hfs]; exact hP2
  have hD : va_D A ((h0, .inr (12, fs_82)) :: ar_81) := by rw [hfs]; exact hD2
  clear hP2 hD2
  refine lv_aload_n hx hb d_Mod_init_377 rfl (lv_at hl 0 rfl) ?_
  refine lv_sipush (v := 3400) hx hb d_Mod_init_378 (by decide) ?_
  refine va_newk (atype := .int) (ty := .int) (cA := cI) (a0 := (3400, .inl (fun _ => 0))) hx hb (hT _ vt_83) rfl hK 0 rfl (fun _ _ => rfl) hP hD hS hA (fun _ => rfl) (by decide) (by decide) (by decide) (Nat.le_of_ble_eq_true rfl) (Nat.le_of_ble_eq_true rfl) d_Mod_init_381 (fun q_82 H hP2 hD2 hS2 => ?_)
  clear hP hD hS
  have hS := hS2
  clear hS2
  refine W.widen (k := 32) (n := 2576187) (Nat.le_of_ble_eq_true rfl) (Nat.le_of_ble_eq_true rfl) ?_
  subst har
  obtain ⟨ar_83, har⟩ : ∃ z : va_W, z = [(q_0, .inl (cB, 65536, .inl (fun _ => 0))), (q_2, .inl (cB, 65536, .inl (fun _ => 0))), (q_14, .inl (cB, 400000, .inl (fun _ => 0))), (q_16, .inl (cI, 400000, .inl (fun _ => 0))), (q_18, .inl (cI, 400000, .inl (fun _ => 0))), (q_20, .inl (cI, 400000, .inl (fun _ => 0))), (q_22, .inl (cI, 400000, .inl (fun _ => 0))), (q_24, .inl (cI, 400000, .inl (fun _ => 0))), (q_27, .inl (cI, 8000, .inl (fun _ => 0))), (q_33, .inl (cB, 9400, .inl (fun _ => 0))), (q_35, .inl (cI, 301, .inl (fun _ => 0))), (q_37, .inl (cI, 301, .inl (fun _ => 0))), (q_41, .inl (cI, 301, .inl (fun _ => 0))), (q_43, .inl (cI, 301, .inl (fun _ => 0))), (q_45, .inl (cI, 301, .inl (fun _ => 0))), (q_47, .inl (cI, 301, .inl (fun _ => 0))), (q_49, .inl (cI, 301, .inl (fun _ => 0))), (q_51, .inl (cI, 301, .inl (fun _ => 0))), (q_53, .inl (cI, 301, .inl (fun _ => 0))), (q_55, .inl (cI, 301, .inl (fun _ => 0))), (q_57, .inl (cI, 301, .inl (fun _ => 0))), (q_59, .inl (cI, 301, .inl (fun _ => 0))), (q_61, .inl (cI, 301, .inl (fun _ => 0))), (q_63, .inl (cI, 301, .inl (fun _ => 0))), (q_65, .inl (cZ, 301, .inl (fun _ => 0))), (q_69, .inl (cI, 3400, .inl (fun _ => 0))), (q_71, .inl (cI, 3400, .inl (fun _ => 0))), (q_74, .inl (cI, 3400, .inl (fun _ => 0))), (q_76, .inl (cI, 3100, .inl (fun _ => 0))), (q_78, .inl (cI, 3100, .inl (fun _ => 0))), (q_80, .inl (cI, 3400, .inl (fun _ => 0))), (q_82, .inl (cI, 3400, .inl (fun _ => 0)))] := ⟨_, rfl⟩
  have hP : va_P (dC, dI) classes ((h0, .inr (12, fs_82)) :: ar_83) H := by rw [har]; exact hP2
  have hD : va_D A ((h0, .inr (12, fs_82)) :: ar_83) := by rw [har]; exact hD2
  clear hP2 hD2
  refine va_putF (D := (dC, dI)) (ci := 12) (v := .ref q_82) (ty := (.array .int)) (C := R_Mod) (T := T_Mod) (N := 76) hx hb hT in_Mod ty_Mod tyo_Mod nm_Mod hown hK hP hD hS 0 rfl rfl 51 (by decide) (hT _ vt_1319) (fun _ h9 => h9) rfl hin rfl (by decide +kernel) rfl rfl (by rw [hfs]; exact Nat.le_of_ble_eq_true rfl) d_Mod_init_383 (fun H locs hP2 hD2 hS2 => ?_)
  clear hP hD hS
  have hS := hS2
  clear hS2
  subst hfs
  obtain ⟨fs_84, hfs⟩ : ∃ z : List Value, z = [.ref q_0, .ref q_2, .int 0, .int 0, .int 0, .int 0, .int 0, .int 0, .int 0, .int 0, .int 0, .int 0, .ref q_14, .ref q_16, .ref q_18, .ref q_20, .ref q_22, .ref q_24, .int 32000, .ref q_27, .int 0, .int 0, .int 0, .int 0, .ref q_33, .ref q_35, .ref q_37, .int 0, .int 0, .ref q_41, .ref q_43, .ref q_45, .ref q_47, .ref q_49, .ref q_51, .ref q_53, .ref q_55, .ref q_57, .ref q_59, .ref q_61, .ref q_63, .ref q_65, .int 0, .int 0, .ref q_69, .ref q_71, .int 0, .ref q_74, .ref q_76, .ref q_78, .ref q_80, .ref q_82, .int 0, .int 0, .int 0, .int 0, .null, .int 0, .int 0, .int 0, .int 0, .int 0, .null, .null, .null, .null, .null, .null, .null, .null, .int 0, .null, .int 0, .null, .null, .int 0] := ⟨_, rfl⟩
  have hP : va_P (dC, dI) classes ((h0, .inr (12, fs_84)) :: ar_83) H := by rw [hfs]; exact hP2
  have hD : va_D A ((h0, .inr (12, fs_84)) :: ar_83) := by rw [hfs]; exact hD2
  clear hP2 hD2
  refine lv_aload_n hx hb d_Mod_init_386 rfl (lv_at hl 0 rfl) ?_
  refine lv_iconst (v := 0) hx hb d_Mod_init_387 (by decide) ?_
  refine va_put (D := (dC, dI)) (ci := 12) (v := .int 0) (ty := .int) (C := R_Mod) (T := T_Mod) (N := 76) hx hb hT in_Mod ty_Mod tyo_Mod nm_Mod hown hK hP hD hS 0 rfl rfl 52 (by decide) (hT _ vt_1320) (fun _ h9 => h9) rfl (by decide +kernel) rfl rfl (by rw [hfs]; exact Nat.le_of_ble_eq_true rfl) d_Mod_init_388 (fun H locs hP2 hD2 hS2 => ?_)
  clear hP hD hS
  have hS := hS2
  clear hS2
  subst hfs
  obtain ⟨fs_85, hfs⟩ : ∃ z : List Value, z = [.ref q_0, .ref q_2, .int 0, .int 0, .int 0, .int 0, .int 0, .int 0, .int 0, .int 0, .int 0, .int 0, .ref q_14, .ref q_16, .ref q_18, .ref q_20, .ref q_22, .ref q_24, .int 32000, .ref q_27, .int 0, .int 0, .int 0, .int 0, .ref q_33, .ref q_35, .ref q_37, .int 0, .int 0, .ref q_41, .ref q_43, .ref q_45, .ref q_47, .ref q_49, .ref q_51, .ref q_53, .ref q_55, .ref q_57, .ref q_59, .ref q_61, .ref q_63, .ref q_65, .int 0, .int 0, .ref q_69, .ref q_71, .int 0, .ref q_74, .ref q_76, .ref q_78, .ref q_80, .ref q_82, .int 0, .int 0, .int 0, .int 0, .null, .int 0, .int 0, .int 0, .int 0, .int 0, .null, .null, .null, .null, .null, .null, .null, .null, .int 0, .null, .int 0, .null, .null, .int 0] := ⟨_, rfl⟩
  have hP : va_P (dC, dI) classes ((h0, .inr (12, fs_85)) :: ar_83) H := by rw [hfs]; exact hP2
  have hD : va_D A ((h0, .inr (12, fs_85)) :: ar_83) := by rw [hfs]; exact hD2
  clear hP2 hD2
  refine lv_aload_n hx hb d_Mod_init_391 rfl (lv_at hl 0 rfl) ?_
  refine lv_iconst (v := 0) hx hb d_Mod_init_392 (by decide) ?_
  refine va_put (D := (dC, dI)) (ci := 12) (v := .int 0) (ty := .int) (C := R_Mod) (T := T_Mod) (N := 76) hx hb hT in_Mod ty_Mod tyo_Mod nm_Mod hown hK hP hD hS 0 rfl rfl 53 (by decide) (hT _ vt_1321) (fun _ h9 => h9) rfl (by decide +kernel) rfl rfl (by rw [hfs]; exact Nat.le_of_ble_eq_true rfl) d_Mod_init_393 (fun H locs hP2 hD2 hS2 => ?_)
  clear hP hD hS
  have hS := hS2
  clear hS2
  subst hfs
  obtain ⟨fs_86, hfs⟩ : ∃ z : List Value, z = [.ref q_0, .ref q_2, .int 0, .int 0, .int 0, .int 0, .int 0, .int 0, .int 0, .int 0, .int 0, .int 0, .ref q_14, .ref q_16, .ref q_18, .ref q_20, .ref q_22, .ref q_24, .int 32000, .ref q_27, .int 0, .int 0, .int 0, .int 0, .ref q_33, .ref q_35, .ref q_37, .int 0, .int 0, .ref q_41, .ref q_43, .ref q_45, .ref q_47, .ref q_49, .ref q_51, .ref q_53, .ref q_55, .ref q_57, .ref q_59, .ref q_61, .ref q_63, .ref q_65, .int 0, .int 0, .ref q_69, .ref q_71, .int 0, .ref q_74, .ref q_76, .ref q_78, .ref q_80, .ref q_82, .int 0, .int 0, .int 0, .int 0, .null, .int 0, .int 0, .int 0, .int 0, .int 0, .null, .null, .null, .null, .null, .null, .null, .null, .int 0, .null, .int 0, .null, .null, .int 0] := ⟨_, rfl⟩
  have hP : va_P (dC, dI) classes ((h0, .inr (12, fs_86)) :: ar_83) H := by rw [hfs]; exact hP2
  have hD : va_D A ((h0, .inr (12, fs_86)) :: ar_83) := by rw [hfs]; exact hD2
  clear hP2 hD2
  refine lv_aload_n hx hb d_Mod_init_396 rfl (lv_at hl 0 rfl) ?_
  refine lv_iconst (v := 0) hx hb d_Mod_init_397 (by decide) ?_
  refine va_put (D := (dC, dI)) (ci := 12) (v := .int 0) (ty := .int) (C := R_Mod) (T := T_Mod) (N := 76) hx hb hT in_Mod ty_Mod tyo_Mod nm_Mod hown hK hP hD hS 0 rfl rfl 54 (by decide) (hT _ vt_1322) (fun _ h9 => h9) rfl (by decide +kernel) rfl rfl (by rw [hfs]; exact Nat.le_of_ble_eq_true rfl) d_Mod_init_398 (fun H locs hP2 hD2 hS2 => ?_)
  clear hP hD hS
  have hS := hS2
  clear hS2
  subst hfs
  obtain ⟨fs_87, hfs⟩ : ∃ z : List Value, z = [.ref q_0, .ref q_2, .int 0, .int 0, .int 0, .int 0, .int 0, .int 0, .int 0, .int 0, .int 0, .int 0, .ref q_14, .ref q_16, .ref q_18, .ref q_20, .ref q_22, .ref q_24, .int 32000, .ref q_27, .int 0, .int 0, .int 0, .int 0, .ref q_33, .ref q_35, .ref q_37, .int 0, .int 0, .ref q_41, .ref q_43, .ref q_45, .ref q_47, .ref q_49, .ref q_51, .ref q_53, .ref q_55, .ref q_57, .ref q_59, .ref q_61, .ref q_63, .ref q_65, .int 0, .int 0, .ref q_69, .ref q_71, .int 0, .ref q_74, .ref q_76, .ref q_78, .ref q_80, .ref q_82, .int 0, .int 0, .int 0, .int 0, .null, .int 0, .int 0, .int 0, .int 0, .int 0, .null, .null, .null, .null, .null, .null, .null, .null, .int 0, .null, .int 0, .null, .null, .int 0] := ⟨_, rfl⟩
  have hP : va_P (dC, dI) classes ((h0, .inr (12, fs_87)) :: ar_83) H := by rw [hfs]; exact hP2
  have hD : va_D A ((h0, .inr (12, fs_87)) :: ar_83) := by rw [hfs]; exact hD2
  clear hP2 hD2
  refine lv_aload_n hx hb d_Mod_init_401 rfl (lv_at hl 0 rfl) ?_
  refine lv_iconst (v := 0) hx hb d_Mod_init_402 (by decide) ?_
  refine va_put (D := (dC, dI)) (ci := 12) (v := .int 0) (ty := .int) (C := R_Mod) (T := T_Mod) (N := 76) hx hb hT in_Mod ty_Mod tyo_Mod nm_Mod hown hK hP hD hS 0 rfl rfl 55 (by decide) (hT _ vt_1323) (fun _ h9 => h9) rfl (by decide +kernel) rfl rfl (by rw [hfs]; exact Nat.le_of_ble_eq_true rfl) d_Mod_init_403 (fun H locs hP2 hD2 hS2 => ?_)
  clear hP hD hS
  have hS := hS2
  clear hS2
  subst hfs
  obtain ⟨fs_88, hfs⟩ : ∃ z : List Value, z = [.ref q_0, .ref q_2, .int 0, .int 0, .int 0, .int 0, .int 0, .int 0, .int 0, .int 0, .int 0, .int 0, .ref q_14, .ref q_16, .ref q_18, .ref q_20, .ref q_22, .ref q_24, .int 32000, .ref q_27, .int 0, .int 0, .int 0, .int 0, .ref q_33, .ref q_35, .ref q_37, .int 0, .int 0, .ref q_41, .ref q_43, .ref q_45, .ref q_47, .ref q_49, .ref q_51, .ref q_53, .ref q_55, .ref q_57, .ref q_59, .ref q_61, .ref q_63, .ref q_65, .int 0, .int 0, .ref q_69, .ref q_71, .int 0, .ref q_74, .ref q_76, .ref q_78, .ref q_80, .ref q_82, .int 0, .int 0, .int 0, .int 0, .null, .int 0, .int 0, .int 0, .int 0, .int 0, .null, .null, .null, .null, .null, .null, .null, .null, .int 0, .null, .int 0, .null, .null, .int 0] := ⟨_, rfl⟩
  have hP : va_P (dC, dI) classes ((h0, .inr (12, fs_88)) :: ar_83) H := by rw [hfs]; exact hP2
  have hD : va_D A ((h0, .inr (12, fs_88)) :: ar_83) := by rw [hfs]; exact hD2
  clear hP2 hD2
  refine lv_aload_n hx hb d_Mod_init_406 rfl (lv_at hl 0 rfl) ?_
  refine lv_ldc (v := 66000) hx hb hown (hT _ vt_1324) d_Mod_init_407 ?_
  refine va_newk (atype := .int) (ty := .int) (cA := cI) (a0 := (66000, .inl (fun _ => 0))) hx hb (hT _ vt_83) rfl hK 0 rfl (fun _ _ => rfl) hP hD hS hA (fun _ => rfl) (by decide) (by decide) (by decide) (Nat.le_of_ble_eq_true rfl) (Nat.le_of_ble_eq_true rfl) d_Mod_init_409 (fun q_88 H hP2 hD2 hS2 => ?_)
  clear hP hD hS
  have hS := hS2
  clear hS2
  refine W.widen (k := 33) (n := 2642187) (Nat.le_of_ble_eq_true rfl) (Nat.le_of_ble_eq_true rfl) ?_
  subst har
  obtain ⟨ar_89, har⟩ : ∃ z : va_W, z = [(q_0, .inl (cB, 65536, .inl (fun _ => 0))), (q_2, .inl (cB, 65536, .inl (fun _ => 0))), (q_14, .inl (cB, 400000, .inl (fun _ => 0))), (q_16, .inl (cI, 400000, .inl (fun _ => 0))), (q_18, .inl (cI, 400000, .inl (fun _ => 0))), (q_20, .inl (cI, 400000, .inl (fun _ => 0))), (q_22, .inl (cI, 400000, .inl (fun _ => 0))), (q_24, .inl (cI, 400000, .inl (fun _ => 0))), (q_27, .inl (cI, 8000, .inl (fun _ => 0))), (q_33, .inl (cB, 9400, .inl (fun _ => 0))), (q_35, .inl (cI, 301, .inl (fun _ => 0))), (q_37, .inl (cI, 301, .inl (fun _ => 0))), (q_41, .inl (cI, 301, .inl (fun _ => 0))), (q_43, .inl (cI, 301, .inl (fun _ => 0))), (q_45, .inl (cI, 301, .inl (fun _ => 0))), (q_47, .inl (cI, 301, .inl (fun _ => 0))), (q_49, .inl (cI, 301, .inl (fun _ => 0))), (q_51, .inl (cI, 301, .inl (fun _ => 0))), (q_53, .inl (cI, 301, .inl (fun _ => 0))), (q_55, .inl (cI, 301, .inl (fun _ => 0))), (q_57, .inl (cI, 301, .inl (fun _ => 0))), (q_59, .inl (cI, 301, .inl (fun _ => 0))), (q_61, .inl (cI, 301, .inl (fun _ => 0))), (q_63, .inl (cI, 301, .inl (fun _ => 0))), (q_65, .inl (cZ, 301, .inl (fun _ => 0))), (q_69, .inl (cI, 3400, .inl (fun _ => 0))), (q_71, .inl (cI, 3400, .inl (fun _ => 0))), (q_74, .inl (cI, 3400, .inl (fun _ => 0))), (q_76, .inl (cI, 3100, .inl (fun _ => 0))), (q_78, .inl (cI, 3100, .inl (fun _ => 0))), (q_80, .inl (cI, 3400, .inl (fun _ => 0))), (q_82, .inl (cI, 3400, .inl (fun _ => 0))), (q_88, .inl (cI, 66000, .inl (fun _ => 0)))] := ⟨_, rfl⟩
  have hP : va_P (dC, dI) classes ((h0, .inr (12, fs_88)) :: ar_89) H := by rw [har]; exact hP2
  have hD : va_D A ((h0, .inr (12, fs_88)) :: ar_89) := by rw [har]; exact hD2
  clear hP2 hD2
  refine va_putF (D := (dC, dI)) (ci := 12) (v := .ref q_88) (ty := (.array .int)) (C := R_Mod) (T := T_Mod) (N := 76) hx hb hT in_Mod ty_Mod tyo_Mod nm_Mod hown hK hP hD hS 0 rfl rfl 56 (by decide) (hT _ vt_1325) (fun _ h9 => h9) rfl hin rfl (by decide +kernel) rfl rfl (by rw [hfs]; exact Nat.le_of_ble_eq_true rfl) d_Mod_init_411 (fun H locs hP2 hD2 hS2 => ?_)
  clear hP hD hS
  have hS := hS2
  clear hS2
  subst hfs
  obtain ⟨fs_90, hfs⟩ : ∃ z : List Value, z = [.ref q_0, .ref q_2, .int 0, .int 0, .int 0, .int 0, .int 0, .int 0, .int 0, .int 0, .int 0, .int 0, .ref q_14, .ref q_16, .ref q_18, .ref q_20, .ref q_22, .ref q_24, .int 32000, .ref q_27, .int 0, .int 0, .int 0, .int 0, .ref q_33, .ref q_35, .ref q_37, .int 0, .int 0, .ref q_41, .ref q_43, .ref q_45, .ref q_47, .ref q_49, .ref q_51, .ref q_53, .ref q_55, .ref q_57, .ref q_59, .ref q_61, .ref q_63, .ref q_65, .int 0, .int 0, .ref q_69, .ref q_71, .int 0, .ref q_74, .ref q_76, .ref q_78, .ref q_80, .ref q_82, .int 0, .int 0, .int 0, .int 0, .ref q_88, .int 0, .int 0, .int 0, .int 0, .int 0, .null, .null, .null, .null, .null, .null, .null, .null, .int 0, .null, .int 0, .null, .null, .int 0] := ⟨_, rfl⟩
  have hP : va_P (dC, dI) classes ((h0, .inr (12, fs_90)) :: ar_89) H := by rw [hfs]; exact hP2
  have hD : va_D A ((h0, .inr (12, fs_90)) :: ar_89) := by rw [hfs]; exact hD2
  clear hP2 hD2
  refine lv_aload_n hx hb d_Mod_init_414 rfl (lv_at hl 0 rfl) ?_
  refine lv_iconst (v := 0) hx hb d_Mod_init_415 (by decide) ?_
  refine va_put (D := (dC, dI)) (ci := 12) (v := .int 0) (ty := .int) (C := R_Mod) (T := T_Mod) (N := 76) hx hb hT in_Mod ty_Mod tyo_Mod nm_Mod hown hK hP hD hS 0 rfl rfl 57 (by decide) (hT _ vt_1326) (fun _ h9 => h9) rfl (by decide +kernel) rfl rfl (by rw [hfs]; exact Nat.le_of_ble_eq_true rfl) d_Mod_init_416 (fun H locs hP2 hD2 hS2 => ?_)
  clear hP hD hS
  have hS := hS2
  clear hS2
  subst hfs
  obtain ⟨fs_91, hfs⟩ : ∃ z : List Value, z = [.ref q_0, .ref q_2, .int 0, .int 0, .int 0, .int 0, .int 0, .int 0, .int 0, .int 0, .int 0, .int 0, .ref q_14, .ref q_16, .ref q_18, .ref q_20, .ref q_22, .ref q_24, .int 32000, .ref q_27, .int 0, .int 0, .int 0, .int 0, .ref q_33, .ref q_35, .ref q_37, .int 0, .int 0, .ref q_41, .ref q_43, .ref q_45, .ref q_47, .ref q_49, .ref q_51, .ref q_53, .ref q_55, .ref q_57, .ref q_59, .ref q_61, .ref q_63, .ref q_65, .int 0, .int 0, .ref q_69, .ref q_71, .int 0, .ref q_74, .ref q_76, .ref q_78, .ref q_80, .ref q_82, .int 0, .int 0, .int 0, .int 0, .ref q_88, .int 0, .int 0, .int 0, .int 0, .int 0, .null, .null, .null, .null, .null, .null, .null, .null, .int 0, .null, .int 0, .null, .null, .int 0] := ⟨_, rfl⟩
  have hP : va_P (dC, dI) classes ((h0, .inr (12, fs_91)) :: ar_89) H := by rw [hfs]; exact hP2
  have hD : va_D A ((h0, .inr (12, fs_91)) :: ar_89) := by rw [hfs]; exact hD2
  clear hP2 hD2
  refine lv_aload_n hx hb d_Mod_init_419 rfl (lv_at hl 0 rfl) ?_
  refine lv_iconst (v := 0) hx hb d_Mod_init_420 (by decide) ?_
  refine va_put (D := (dC, dI)) (ci := 12) (v := .int 0) (ty := .int) (C := R_Mod) (T := T_Mod) (N := 76) hx hb hT in_Mod ty_Mod tyo_Mod nm_Mod hown hK hP hD hS 0 rfl rfl 58 (by decide) (hT _ vt_1327) (fun _ h9 => h9) rfl (by decide +kernel) rfl rfl (by rw [hfs]; exact Nat.le_of_ble_eq_true rfl) d_Mod_init_421 (fun H locs hP2 hD2 hS2 => ?_)
  clear hP hD hS
  have hS := hS2
  clear hS2
  subst hfs
  obtain ⟨fs_92, hfs⟩ : ∃ z : List Value, z = [.ref q_0, .ref q_2, .int 0, .int 0, .int 0, .int 0, .int 0, .int 0, .int 0, .int 0, .int 0, .int 0, .ref q_14, .ref q_16, .ref q_18, .ref q_20, .ref q_22, .ref q_24, .int 32000, .ref q_27, .int 0, .int 0, .int 0, .int 0, .ref q_33, .ref q_35, .ref q_37, .int 0, .int 0, .ref q_41, .ref q_43, .ref q_45, .ref q_47, .ref q_49, .ref q_51, .ref q_53, .ref q_55, .ref q_57, .ref q_59, .ref q_61, .ref q_63, .ref q_65, .int 0, .int 0, .ref q_69, .ref q_71, .int 0, .ref q_74, .ref q_76, .ref q_78, .ref q_80, .ref q_82, .int 0, .int 0, .int 0, .int 0, .ref q_88, .int 0, .int 0, .int 0, .int 0, .int 0, .null, .null, .null, .null, .null, .null, .null, .null, .int 0, .null, .int 0, .null, .null, .int 0] := ⟨_, rfl⟩
  have hP : va_P (dC, dI) classes ((h0, .inr (12, fs_92)) :: ar_89) H := by rw [hfs]; exact hP2
  have hD : va_D A ((h0, .inr (12, fs_92)) :: ar_89) := by rw [hfs]; exact hD2
  clear hP2 hD2
  refine lv_aload_n hx hb d_Mod_init_424 rfl (lv_at hl 0 rfl) ?_
  refine lv_iconst (v := 0) hx hb d_Mod_init_425 (by decide) ?_
  refine va_put (D := (dC, dI)) (ci := 12) (v := .int 0) (ty := .int) (C := R_Mod) (T := T_Mod) (N := 76) hx hb hT in_Mod ty_Mod tyo_Mod nm_Mod hown hK hP hD hS 0 rfl rfl 59 (by decide) (hT _ vt_1328) (fun _ h9 => h9) rfl (by decide +kernel) rfl rfl (by rw [hfs]; exact Nat.le_of_ble_eq_true rfl) d_Mod_init_426 (fun H locs hP2 hD2 hS2 => ?_)
  clear hP hD hS
  have hS := hS2
  clear hS2
  subst hfs
  obtain ⟨fs_93, hfs⟩ : ∃ z : List Value, z = [.ref q_0, .ref q_2, .int 0, .int 0, .int 0, .int 0, .int 0, .int 0, .int 0, .int 0, .int 0, .int 0, .ref q_14, .ref q_16, .ref q_18, .ref q_20, .ref q_22, .ref q_24, .int 32000, .ref q_27, .int 0, .int 0, .int 0, .int 0, .ref q_33, .ref q_35, .ref q_37, .int 0, .int 0, .ref q_41, .ref q_43, .ref q_45, .ref q_47, .ref q_49, .ref q_51, .ref q_53, .ref q_55, .ref q_57, .ref q_59, .ref q_61, .ref q_63, .ref q_65, .int 0, .int 0, .ref q_69, .ref q_71, .int 0, .ref q_74, .ref q_76, .ref q_78, .ref q_80, .ref q_82, .int 0, .int 0, .int 0, .int 0, .ref q_88, .int 0, .int 0, .int 0, .int 0, .int 0, .null, .null, .null, .null, .null, .null, .null, .null, .int 0, .null, .int 0, .null, .null, .int 0] := ⟨_, rfl⟩
  have hP : va_P (dC, dI) classes ((h0, .inr (12, fs_93)) :: ar_89) H := by rw [hfs]; exact hP2
  have hD : va_D A ((h0, .inr (12, fs_93)) :: ar_89) := by rw [hfs]; exact hD2
  clear hP2 hD2
  refine lv_aload_n hx hb d_Mod_init_429 rfl (lv_at hl 0 rfl) ?_
  refine lv_iconst (v := 0) hx hb d_Mod_init_430 (by decide) ?_
  refine va_put (D := (dC, dI)) (ci := 12) (v := .int 0) (ty := .int) (C := R_Mod) (T := T_Mod) (N := 76) hx hb hT in_Mod ty_Mod tyo_Mod nm_Mod hown hK hP hD hS 0 rfl rfl 60 (by decide) (hT _ vt_1329) (fun _ h9 => h9) rfl (by decide +kernel) rfl rfl (by rw [hfs]; exact Nat.le_of_ble_eq_true rfl) d_Mod_init_431 (fun H locs hP2 hD2 hS2 => ?_)
  clear hP hD hS
  have hS := hS2
  clear hS2
  subst hfs
  obtain ⟨fs_94, hfs⟩ : ∃ z : List Value, z = [.ref q_0, .ref q_2, .int 0, .int 0, .int 0, .int 0, .int 0, .int 0, .int 0, .int 0, .int 0, .int 0, .ref q_14, .ref q_16, .ref q_18, .ref q_20, .ref q_22, .ref q_24, .int 32000, .ref q_27, .int 0, .int 0, .int 0, .int 0, .ref q_33, .ref q_35, .ref q_37, .int 0, .int 0, .ref q_41, .ref q_43, .ref q_45, .ref q_47, .ref q_49, .ref q_51, .ref q_53, .ref q_55, .ref q_57, .ref q_59, .ref q_61, .ref q_63, .ref q_65, .int 0, .int 0, .ref q_69, .ref q_71, .int 0, .ref q_74, .ref q_76, .ref q_78, .ref q_80, .ref q_82, .int 0, .int 0, .int 0, .int 0, .ref q_88, .int 0, .int 0, .int 0, .int 0, .int 0, .null, .null, .null, .null, .null, .null, .null, .null, .int 0, .null, .int 0, .null, .null, .int 0] := ⟨_, rfl⟩
  have hP : va_P (dC, dI) classes ((h0, .inr (12, fs_94)) :: ar_89) H := by rw [hfs]; exact hP2
  have hD : va_D A ((h0, .inr (12, fs_94)) :: ar_89) := by rw [hfs]; exact hD2
  clear hP2 hD2
  refine lv_aload_n hx hb d_Mod_init_434 rfl (lv_at hl 0 rfl) ?_
  refine lv_iconst (v := 0) hx hb d_Mod_init_435 (by decide) ?_
  refine va_put (D := (dC, dI)) (ci := 12) (v := .int 0) (ty := .int) (C := R_Mod) (T := T_Mod) (N := 76) hx hb hT in_Mod ty_Mod tyo_Mod nm_Mod hown hK hP hD hS 0 rfl rfl 61 (by decide) (hT _ vt_1330) (fun _ h9 => h9) rfl (by decide +kernel) rfl rfl (by rw [hfs]; exact Nat.le_of_ble_eq_true rfl) d_Mod_init_436 (fun H locs hP2 hD2 hS2 => ?_)
  clear hP hD hS
  have hS := hS2
  clear hS2
  subst hfs
  obtain ⟨fs_95, hfs⟩ : ∃ z : List Value, z = [.ref q_0, .ref q_2, .int 0, .int 0, .int 0, .int 0, .int 0, .int 0, .int 0, .int 0, .int 0, .int 0, .ref q_14, .ref q_16, .ref q_18, .ref q_20, .ref q_22, .ref q_24, .int 32000, .ref q_27, .int 0, .int 0, .int 0, .int 0, .ref q_33, .ref q_35, .ref q_37, .int 0, .int 0, .ref q_41, .ref q_43, .ref q_45, .ref q_47, .ref q_49, .ref q_51, .ref q_53, .ref q_55, .ref q_57, .ref q_59, .ref q_61, .ref q_63, .ref q_65, .int 0, .int 0, .ref q_69, .ref q_71, .int 0, .ref q_74, .ref q_76, .ref q_78, .ref q_80, .ref q_82, .int 0, .int 0, .int 0, .int 0, .ref q_88, .int 0, .int 0, .int 0, .int 0, .int 0, .null, .null, .null, .null, .null, .null, .null, .null, .int 0, .null, .int 0, .null, .null, .int 0] := ⟨_, rfl⟩
  have hP : va_P (dC, dI) classes ((h0, .inr (12, fs_95)) :: ar_89) H := by rw [hfs]; exact hP2
  have hD : va_D A ((h0, .inr (12, fs_95)) :: ar_89) := by rw [hfs]; exact hD2
  clear hP2 hD2
  refine lv_aload_n hx hb d_Mod_init_439 rfl (lv_at hl 0 rfl) ?_
  refine lv_sipush (v := 5000) hx hb d_Mod_init_440 (by decide) ?_
  refine va_newk (atype := .int) (ty := .int) (cA := cI) (a0 := (5000, .inl (fun _ => 0))) hx hb (hT _ vt_83) rfl hK 0 rfl (fun _ _ => rfl) hP hD hS hA (fun _ => rfl) (by decide) (by decide) (by decide) (Nat.le_of_ble_eq_true rfl) (Nat.le_of_ble_eq_true rfl) d_Mod_init_443 (fun q_95 H hP2 hD2 hS2 => ?_)
  clear hP hD hS
  have hS := hS2
  clear hS2
  refine W.widen (k := 34) (n := 2647187) (Nat.le_of_ble_eq_true rfl) (Nat.le_of_ble_eq_true rfl) ?_
  subst har
  obtain ⟨ar_96, har⟩ : ∃ z : va_W, z = [(q_0, .inl (cB, 65536, .inl (fun _ => 0))), (q_2, .inl (cB, 65536, .inl (fun _ => 0))), (q_14, .inl (cB, 400000, .inl (fun _ => 0))), (q_16, .inl (cI, 400000, .inl (fun _ => 0))), (q_18, .inl (cI, 400000, .inl (fun _ => 0))), (q_20, .inl (cI, 400000, .inl (fun _ => 0))), (q_22, .inl (cI, 400000, .inl (fun _ => 0))), (q_24, .inl (cI, 400000, .inl (fun _ => 0))), (q_27, .inl (cI, 8000, .inl (fun _ => 0))), (q_33, .inl (cB, 9400, .inl (fun _ => 0))), (q_35, .inl (cI, 301, .inl (fun _ => 0))), (q_37, .inl (cI, 301, .inl (fun _ => 0))), (q_41, .inl (cI, 301, .inl (fun _ => 0))), (q_43, .inl (cI, 301, .inl (fun _ => 0))), (q_45, .inl (cI, 301, .inl (fun _ => 0))), (q_47, .inl (cI, 301, .inl (fun _ => 0))), (q_49, .inl (cI, 301, .inl (fun _ => 0))), (q_51, .inl (cI, 301, .inl (fun _ => 0))), (q_53, .inl (cI, 301, .inl (fun _ => 0))), (q_55, .inl (cI, 301, .inl (fun _ => 0))), (q_57, .inl (cI, 301, .inl (fun _ => 0))), (q_59, .inl (cI, 301, .inl (fun _ => 0))), (q_61, .inl (cI, 301, .inl (fun _ => 0))), (q_63, .inl (cI, 301, .inl (fun _ => 0))), (q_65, .inl (cZ, 301, .inl (fun _ => 0))), (q_69, .inl (cI, 3400, .inl (fun _ => 0))), (q_71, .inl (cI, 3400, .inl (fun _ => 0))), (q_74, .inl (cI, 3400, .inl (fun _ => 0))), (q_76, .inl (cI, 3100, .inl (fun _ => 0))), (q_78, .inl (cI, 3100, .inl (fun _ => 0))), (q_80, .inl (cI, 3400, .inl (fun _ => 0))), (q_82, .inl (cI, 3400, .inl (fun _ => 0))), (q_88, .inl (cI, 66000, .inl (fun _ => 0))), (q_95, .inl (cI, 5000, .inl (fun _ => 0)))] := ⟨_, rfl⟩
  have hP : va_P (dC, dI) classes ((h0, .inr (12, fs_95)) :: ar_96) H := by rw [har]; exact hP2
  have hD : va_D A ((h0, .inr (12, fs_95)) :: ar_96) := by rw [har]; exact hD2
  clear hP2 hD2
  refine va_putF (D := (dC, dI)) (ci := 12) (v := .ref q_95) (ty := (.array .int)) (C := R_Mod) (T := T_Mod) (N := 76) hx hb hT in_Mod ty_Mod tyo_Mod nm_Mod hown hK hP hD hS 0 rfl rfl 62 (by decide) (hT _ vt_1331) (fun _ h9 => h9) rfl hin rfl (by decide +kernel) rfl rfl (by rw [hfs]; exact Nat.le_of_ble_eq_true rfl) d_Mod_init_445 (fun H locs hP2 hD2 hS2 => ?_)
  clear hP hD hS
  have hS := hS2
  clear hS2
  subst hfs
  obtain ⟨fs_97, hfs⟩ : ∃ z : List Value, z = [.ref q_0, .ref q_2, .int 0, .int 0, .int 0, .int 0, .int 0, .int 0, .int 0, .int 0, .int 0, .int 0, .ref q_14, .ref q_16, .ref q_18, .ref q_20, .ref q_22, .ref q_24, .int 32000, .ref q_27, .int 0, .int 0, .int 0, .int 0, .ref q_33, .ref q_35, .ref q_37, .int 0, .int 0, .ref q_41, .ref q_43, .ref q_45, .ref q_47, .ref q_49, .ref q_51, .ref q_53, .ref q_55, .ref q_57, .ref q_59, .ref q_61, .ref q_63, .ref q_65, .int 0, .int 0, .ref q_69, .ref q_71, .int 0, .ref q_74, .ref q_76, .ref q_78, .ref q_80, .ref q_82, .int 0, .int 0, .int 0, .int 0, .ref q_88, .int 0, .int 0, .int 0, .int 0, .int 0, .ref q_95, .null, .null, .null, .null, .null, .null, .null, .int 0, .null, .int 0, .null, .null, .int 0] := ⟨_, rfl⟩
  have hP : va_P (dC, dI) classes ((h0, .inr (12, fs_97)) :: ar_96) H := by rw [hfs]; exact hP2
  have hD : va_D A ((h0, .inr (12, fs_97)) :: ar_96) := by rw [hfs]; exact hD2
  clear hP2 hD2
  refine lv_aload_n hx hb d_Mod_init_448 rfl (lv_at hl 0 rfl) ?_
  refine lv_sipush (v := 301) hx hb d_Mod_init_449 (by decide) ?_
  refine va_newk (atype := .int) (ty := .int) (cA := cI) (a0 := (301, .inl (fun _ => 0))) hx hb (hT _ vt_83) rfl hK 0 rfl (fun _ _ => rfl) hP hD hS hA (fun _ => rfl) (by decide) (by decide) (by decide) (Nat.le_of_ble_eq_true rfl) (Nat.le_of_ble_eq_true rfl) d_Mod_init_452 (fun q_97 H hP2 hD2 hS2 => ?_)
  clear hP hD hS
  have hS := hS2
  clear hS2
  refine W.widen (k := 35) (n := 2647488) (Nat.le_of_ble_eq_true rfl) (Nat.le_of_ble_eq_true rfl) ?_
  subst har
  obtain ⟨ar_98, har⟩ : ∃ z : va_W, z = [(q_0, .inl (cB, 65536, .inl (fun _ => 0))), (q_2, .inl (cB, 65536, .inl (fun _ => 0))), (q_14, .inl (cB, 400000, .inl (fun _ => 0))), (q_16, .inl (cI, 400000, .inl (fun _ => 0))), (q_18, .inl (cI, 400000, .inl (fun _ => 0))), (q_20, .inl (cI, 400000, .inl (fun _ => 0))), (q_22, .inl (cI, 400000, .inl (fun _ => 0))), (q_24, .inl (cI, 400000, .inl (fun _ => 0))), (q_27, .inl (cI, 8000, .inl (fun _ => 0))), (q_33, .inl (cB, 9400, .inl (fun _ => 0))), (q_35, .inl (cI, 301, .inl (fun _ => 0))), (q_37, .inl (cI, 301, .inl (fun _ => 0))), (q_41, .inl (cI, 301, .inl (fun _ => 0))), (q_43, .inl (cI, 301, .inl (fun _ => 0))), (q_45, .inl (cI, 301, .inl (fun _ => 0))), (q_47, .inl (cI, 301, .inl (fun _ => 0))), (q_49, .inl (cI, 301, .inl (fun _ => 0))), (q_51, .inl (cI, 301, .inl (fun _ => 0))), (q_53, .inl (cI, 301, .inl (fun _ => 0))), (q_55, .inl (cI, 301, .inl (fun _ => 0))), (q_57, .inl (cI, 301, .inl (fun _ => 0))), (q_59, .inl (cI, 301, .inl (fun _ => 0))), (q_61, .inl (cI, 301, .inl (fun _ => 0))), (q_63, .inl (cI, 301, .inl (fun _ => 0))), (q_65, .inl (cZ, 301, .inl (fun _ => 0))), (q_69, .inl (cI, 3400, .inl (fun _ => 0))), (q_71, .inl (cI, 3400, .inl (fun _ => 0))), (q_74, .inl (cI, 3400, .inl (fun _ => 0))), (q_76, .inl (cI, 3100, .inl (fun _ => 0))), (q_78, .inl (cI, 3100, .inl (fun _ => 0))), (q_80, .inl (cI, 3400, .inl (fun _ => 0))), (q_82, .inl (cI, 3400, .inl (fun _ => 0))), (q_88, .inl (cI, 66000, .inl (fun _ => 0))), (q_95, .inl (cI, 5000, .inl (fun _ => 0))), (q_97, .inl (cI, 301, .inl (fun _ => 0)))] := ⟨_, rfl⟩
  have hP : va_P (dC, dI) classes ((h0, .inr (12, fs_97)) :: ar_98) H := by rw [har]; exact hP2
  have hD : va_D A ((h0, .inr (12, fs_97)) :: ar_98) := by rw [har]; exact hD2
  clear hP2 hD2
  refine va_putF (D := (dC, dI)) (ci := 12) (v := .ref q_97) (ty := (.array .int)) (C := R_Mod) (T := T_Mod) (N := 76) hx hb hT in_Mod ty_Mod tyo_Mod nm_Mod hown hK hP hD hS 0 rfl rfl 63 (by decide) (hT _ vt_1332) (fun _ h9 => h9) rfl hin rfl (by decide +kernel) rfl rfl (by rw [hfs]; exact Nat.le_of_ble_eq_true rfl) d_Mod_init_454 (fun H locs hP2 hD2 hS2 => ?_)
  clear hP hD hS
  have hS := hS2
  clear hS2
  subst hfs
  obtain ⟨fs_99, hfs⟩ : ∃ z : List Value, z = [.ref q_0, .ref q_2, .int 0, .int 0, .int 0, .int 0, .int 0, .int 0, .int 0, .int 0, .int 0, .int 0, .ref q_14, .ref q_16, .ref q_18, .ref q_20, .ref q_22, .ref q_24, .int 32000, .ref q_27, .int 0, .int 0, .int 0, .int 0, .ref q_33, .ref q_35, .ref q_37, .int 0, .int 0, .ref q_41, .ref q_43, .ref q_45, .ref q_47, .ref q_49, .ref q_51, .ref q_53, .ref q_55, .ref q_57, .ref q_59, .ref q_61, .ref q_63, .ref q_65, .int 0, .int 0, .ref q_69, .ref q_71, .int 0, .ref q_74, .ref q_76, .ref q_78, .ref q_80, .ref q_82, .int 0, .int 0, .int 0, .int 0, .ref q_88, .int 0, .int 0, .int 0, .int 0, .int 0, .ref q_95, .ref q_97, .null, .null, .null, .null, .null, .null, .int 0, .null, .int 0, .null, .null, .int 0] := ⟨_, rfl⟩
  have hP : va_P (dC, dI) classes ((h0, .inr (12, fs_99)) :: ar_98) H := by rw [hfs]; exact hP2
  have hD : va_D A ((h0, .inr (12, fs_99)) :: ar_98) := by rw [hfs]; exact hD2
  clear hP2 hD2
  refine lv_aload_n hx hb d_Mod_init_457 rfl (lv_at hl 0 rfl) ?_
  refine lv_sipush (v := 301) hx hb d_Mod_init_458 (by decide) ?_
  refine va_newk (atype := .int) (ty := .int) (cA := cI) (a0 := (301, .inl (fun _ => 0))) hx hb (hT _ vt_83) rfl hK 0 rfl (fun _ _ => rfl) hP hD hS hA (fun _ => rfl) (by decide) (by decide) (by decide) (Nat.le_of_ble_eq_true rfl) (Nat.le_of_ble_eq_true rfl) d_Mod_init_461 (fun q_99 H hP2 hD2 hS2 => ?_)
  clear hP hD hS
  have hS := hS2
  clear hS2
  refine W.widen (k := 36) (n := 2647789) (Nat.le_of_ble_eq_true rfl) (Nat.le_of_ble_eq_true rfl) ?_
  subst har
  obtain ⟨ar_100, har⟩ : ∃ z : va_W, z = [(q_0, .inl (cB, 65536, .inl (fun _ => 0))), (q_2, .inl (cB, 65536, .inl (fun _ => 0))), (q_14, .inl (cB, 400000, .inl (fun _ => 0))), (q_16, .inl (cI, 400000, .inl (fun _ => 0))), (q_18, .inl (cI, 400000, .inl (fun _ => 0))), (q_20, .inl (cI, 400000, .inl (fun _ => 0))), (q_22, .inl (cI, 400000, .inl (fun _ => 0))), (q_24, .inl (cI, 400000, .inl (fun _ => 0))), (q_27, .inl (cI, 8000, .inl (fun _ => 0))), (q_33, .inl (cB, 9400, .inl (fun _ => 0))), (q_35, .inl (cI, 301, .inl (fun _ => 0))), (q_37, .inl (cI, 301, .inl (fun _ => 0))), (q_41, .inl (cI, 301, .inl (fun _ => 0))), (q_43, .inl (cI, 301, .inl (fun _ => 0))), (q_45, .inl (cI, 301, .inl (fun _ => 0))), (q_47, .inl (cI, 301, .inl (fun _ => 0))), (q_49, .inl (cI, 301, .inl (fun _ => 0))), (q_51, .inl (cI, 301, .inl (fun _ => 0))), (q_53, .inl (cI, 301, .inl (fun _ => 0))), (q_55, .inl (cI, 301, .inl (fun _ => 0))), (q_57, .inl (cI, 301, .inl (fun _ => 0))), (q_59, .inl (cI, 301, .inl (fun _ => 0))), (q_61, .inl (cI, 301, .inl (fun _ => 0))), (q_63, .inl (cI, 301, .inl (fun _ => 0))), (q_65, .inl (cZ, 301, .inl (fun _ => 0))), (q_69, .inl (cI, 3400, .inl (fun _ => 0))), (q_71, .inl (cI, 3400, .inl (fun _ => 0))), (q_74, .inl (cI, 3400, .inl (fun _ => 0))), (q_76, .inl (cI, 3100, .inl (fun _ => 0))), (q_78, .inl (cI, 3100, .inl (fun _ => 0))), (q_80, .inl (cI, 3400, .inl (fun _ => 0))), (q_82, .inl (cI, 3400, .inl (fun _ => 0))), (q_88, .inl (cI, 66000, .inl (fun _ => 0))), (q_95, .inl (cI, 5000, .inl (fun _ => 0))), (q_97, .inl (cI, 301, .inl (fun _ => 0))), (q_99, .inl (cI, 301, .inl (fun _ => 0)))] := ⟨_, rfl⟩
  have hP : va_P (dC, dI) classes ((h0, .inr (12, fs_99)) :: ar_100) H := by rw [har]; exact hP2
  have hD : va_D A ((h0, .inr (12, fs_99)) :: ar_100) := by rw [har]; exact hD2
  clear hP2 hD2
  refine va_putF (D := (dC, dI)) (ci := 12) (v := .ref q_99) (ty := (.array .int)) (C := R_Mod) (T := T_Mod) (N := 76) hx hb hT in_Mod ty_Mod tyo_Mod nm_Mod hown hK hP hD hS 0 rfl rfl 64 (by decide) (hT _ vt_1333) (fun _ h9 => h9) rfl hin rfl (by decide +kernel) rfl rfl (by rw [hfs]; exact Nat.le_of_ble_eq_true rfl) d_Mod_init_463 (fun H locs hP2 hD2 hS2 => ?_)
  clear hP hD hS
  have hS := hS2
  clear hS2
  subst hfs
  obtain ⟨fs_101, hfs⟩ : ∃ z : List Value, z = [.ref q_0, .ref q_2, .int 0, .int 0, .int 0, .int 0, .int 0, .int 0, .int 0, .int 0, .int 0, .int 0, .ref q_14, .ref q_16, .ref q_18, .ref q_20, .ref q_22, .ref q_24, .int 32000, .ref q_27, .int 0, .int 0, .int 0, .int 0, .ref q_33, .ref q_35, .ref q_37, .int 0, .int 0, .ref q_41, .ref q_43, .ref q_45, .ref q_47, .ref q_49, .ref q_51, .ref q_53, .ref q_55, .ref q_57, .ref q_59, .ref q_61, .ref q_63, .ref q_65, .int 0, .int 0, .ref q_69, .ref q_71, .int 0, .ref q_74, .ref q_76, .ref q_78, .ref q_80, .ref q_82, .int 0, .int 0, .int 0, .int 0, .ref q_88, .int 0, .int 0, .int 0, .int 0, .int 0, .ref q_95, .ref q_97, .ref q_99, .null, .null, .null, .null, .null, .int 0, .null, .int 0, .null, .null, .int 0] := ⟨_, rfl⟩
  have hP : va_P (dC, dI) classes ((h0, .inr (12, fs_101)) :: ar_100) H := by rw [hfs]; exact hP2
  have hD : va_D A ((h0, .inr (12, fs_101)) :: ar_100) := by rw [hfs]; exact hD2
  clear hP2 hD2
  refine lv_aload_n hx hb d_Mod_init_466 rfl (lv_at hl 0 rfl) ?_
  refine lv_sipush (v := 301) hx hb d_Mod_init_467 (by decide) ?_
  refine va_newk (atype := .int) (ty := .int) (cA := cI) (a0 := (301, .inl (fun _ => 0))) hx hb (hT _ vt_83) rfl hK 0 rfl (fun _ _ => rfl) hP hD hS hA (fun _ => rfl) (by decide) (by decide) (by decide) (Nat.le_of_ble_eq_true rfl) (Nat.le_of_ble_eq_true rfl) d_Mod_init_470 (fun q_101 H hP2 hD2 hS2 => ?_)
  clear hP hD hS
  have hS := hS2
  clear hS2
  refine W.widen (k := 37) (n := 2648090) (Nat.le_of_ble_eq_true rfl) (Nat.le_of_ble_eq_true rfl) ?_
  subst har
  obtain ⟨ar_102, har⟩ : ∃ z : va_W, z = [(q_0, .inl (cB, 65536, .inl (fun _ => 0))), (q_2, .inl (cB, 65536, .inl (fun _ => 0))), (q_14, .inl (cB, 400000, .inl (fun _ => 0))), (q_16, .inl (cI, 400000, .inl (fun _ => 0))), (q_18, .inl (cI, 400000, .inl (fun _ => 0))), (q_20, .inl (cI, 400000, .inl (fun _ => 0))), (q_22, .inl (cI, 400000, .inl (fun _ => 0))), (q_24, .inl (cI, 400000, .inl (fun _ => 0))), (q_27, .inl (cI, 8000, .inl (fun _ => 0))), (q_33, .inl (cB, 9400, .inl (fun _ => 0))), (q_35, .inl (cI, 301, .inl (fun _ => 0))), (q_37, .inl (cI, 301, .inl (fun _ => 0))), (q_41, .inl (cI, 301, .inl (fun _ => 0))), (q_43, .inl (cI, 301, .inl (fun _ => 0))), (q_45, .inl (cI, 301, .inl (fun _ => 0))), (q_47, .inl (cI, 301, .inl (fun _ => 0))), (q_49, .inl (cI, 301, .inl (fun _ => 0))), (q_51, .inl (cI, 301, .inl (fun _ => 0))), (q_53, .inl (cI, 301, .inl (fun _ => 0))), (q_55, .inl (cI, 301, .inl (fun _ => 0))), (q_57, .inl (cI, 301, .inl (fun _ => 0))), (q_59, .inl (cI, 301, .inl (fun _ => 0))), (q_61, .inl (cI, 301, .inl (fun _ => 0))), (q_63, .inl (cI, 301, .inl (fun _ => 0))), (q_65, .inl (cZ, 301, .inl (fun _ => 0))), (q_69, .inl (cI, 3400, .inl (fun _ => 0))), (q_71, .inl (cI, 3400, .inl (fun _ => 0))), (q_74, .inl (cI, 3400, .inl (fun _ => 0))), (q_76, .inl (cI, 3100, .inl (fun _ => 0))), (q_78, .inl (cI, 3100, .inl (fun _ => 0))), (q_80, .inl (cI, 3400, .inl (fun _ => 0))), (q_82, .inl (cI, 3400, .inl (fun _ => 0))), (q_88, .inl (cI, 66000, .inl (fun _ => 0))), (q_95, .inl (cI, 5000, .inl (fun _ => 0))), (q_97, .inl (cI, 301, .inl (fun _ => 0))), (q_99, .inl (cI, 301, .inl (fun _ => 0))), (q_101, .inl (cI, 301, .inl (fun _ => 0)))] := ⟨_, rfl⟩
  have hP : va_P (dC, dI) classes ((h0, .inr (12, fs_101)) :: ar_102) H := by rw [har]; exact hP2
  have hD : va_D A ((h0, .inr (12, fs_101)) :: ar_102) := by rw [har]; exact hD2
  clear hP2 hD2
  refine va_putF (D := (dC, dI)) (ci := 12) (v := .ref q_101) (ty := (.array .int)) (C := R_Mod) (T := T_Mod) (N := 76) hx hb hT in_Mod ty_Mod tyo_Mod nm_Mod hown hK hP hD hS 0 rfl rfl 65 (by decide) (hT _ vt_1334) (fun _ h9 => h9) rfl hin rfl (by decide +kernel) rfl rfl (by rw [hfs]; exact Nat.le_of_ble_eq_true rfl) d_Mod_init_472 (fun H locs hP2 hD2 hS2 => ?_)
  clear hP hD hS
  have hS := hS2
  clear hS2
  subst hfs
  obtain ⟨fs_103, hfs⟩ : ∃ z : List Value, z = [.ref q_0, .ref q_2, .int 0, .int 0, .int 0, .int 0, .int 0, .int 0, .int 0, .int 0, .int 0, .int 0, .ref q_14, .ref q_16, .ref q_18, .ref q_20, .ref q_22, .ref q_24, .int 32000, .ref q_27, .int 0, .int 0, .int 0, .int 0, .ref q_33, .ref q_35, .ref q_37, .int 0, .int 0, .ref q_41, .ref q_43, .ref q_45, .ref q_47, .ref q_49, .ref q_51, .ref q_53, .ref q_55, .ref q_57, .ref q_59, .ref q_61, .ref q_63, .ref q_65, .int 0, .int 0, .ref q_69, .ref q_71, .int 0, .ref q_74, .ref q_76, .ref q_78, .ref q_80, .ref q_82, .int 0, .int 0, .int 0, .int 0, .ref q_88, .int 0, .int 0, .int 0, .int 0, .int 0, .ref q_95, .ref q_97, .ref q_99, .ref q_101, .null, .null, .null, .null, .int 0, .null, .int 0, .null, .null, .int 0] := ⟨_, rfl⟩
  have hP : va_P (dC, dI) classes ((h0, .inr (12, fs_103)) :: ar_102) H := by rw [hfs]; exact hP2
  have hD : va_D A ((h0, .inr (12, fs_103)) :: ar_102) := by rw [hfs]; exact hD2
  clear hP2 hD2
  refine lv_aload_n hx hb d_Mod_init_475 rfl (lv_at hl 0 rfl) ?_
  refine lv_sipush (v := 301) hx hb d_Mod_init_476 (by decide) ?_
  refine va_newk (atype := .int) (ty := .int) (cA := cI) (a0 := (301, .inl (fun _ => 0))) hx hb (hT _ vt_83) rfl hK 0 rfl (fun _ _ => rfl) hP hD hS hA (fun _ => rfl) (by decide) (by decide) (by decide) (Nat.le_of_ble_eq_true rfl) (Nat.le_of_ble_eq_true rfl) d_Mod_init_479 (fun q_103 H hP2 hD2 hS2 => ?_)
  clear hP hD hS
  have hS := hS2
  clear hS2
  refine W.widen (k := 38) (n := 2648391) (Nat.le_of_ble_eq_true rfl) (Nat.le_of_ble_eq_true rfl) ?_
  subst har
  obtain ⟨ar_104, har⟩ : ∃ z : va_W, z = [(q_0, .inl (cB, 65536, .inl (fun _ => 0))), (q_2, .inl (cB, 65536, .inl (fun _ => 0))), (q_14, .inl (cB, 400000, .inl (fun _ => 0))), (q_16, .inl (cI, 400000, .inl (fun _ => 0))), (q_18, .inl (cI, 400000, .inl (fun _ => 0))), (q_20, .inl (cI, 400000, .inl (fun _ => 0))), (q_22, .inl (cI, 400000, .inl (fun _ => 0))), (q_24, .inl (cI, 400000, .inl (fun _ => 0))), (q_27, .inl (cI, 8000, .inl (fun _ => 0))), (q_33, .inl (cB, 9400, .inl (fun _ => 0))), (q_35, .inl (cI, 301, .inl (fun _ => 0))), (q_37, .inl (cI, 301, .inl (fun _ => 0))), (q_41, .inl (cI, 301, .inl (fun _ => 0))), (q_43, .inl (cI, 301, .inl (fun _ => 0))), (q_45, .inl (cI, 301, .inl (fun _ => 0))), (q_47, .inl (cI, 301, .inl (fun _ => 0))), (q_49, .inl (cI, 301, .inl (fun _ => 0))), (q_51, .inl (cI, 301, .inl (fun _ => 0))), (q_53, .inl (cI, 301, .inl (fun _ => 0))), (q_55, .inl (cI, 301, .inl (fun _ => 0))), (q_57, .inl (cI, 301, .inl (fun _ => 0))), (q_59, .inl (cI, 301, .inl (fun _ => 0))), (q_61, .inl (cI, 301, .inl (fun _ => 0))), (q_63, .inl (cI, 301, .inl (fun _ => 0))), (q_65, .inl (cZ, 301, .inl (fun _ => 0))), (q_69, .inl (cI, 3400, .inl (fun _ => 0))), (q_71, .inl (cI, 3400, .inl (fun _ => 0))), (q_74, .inl (cI, 3400, .inl (fun _ => 0))), (q_76, .inl (cI, 3100, .inl (fun _ => 0))), (q_78, .inl (cI, 3100, .inl (fun _ => 0))), (q_80, .inl (cI, 3400, .inl (fun _ => 0))), (q_82, .inl (cI, 3400, .inl (fun _ => 0))), (q_88, .inl (cI, 66000, .inl (fun _ => 0))), (q_95, .inl (cI, 5000, .inl (fun _ => 0))), (q_97, .inl (cI, 301, .inl (fun _ => 0))), (q_99, .inl (cI, 301, .inl (fun _ => 0))), (q_101, .inl (cI, 301, .inl (fun _ => 0))), (q_103, .inl (cI, 301, .inl (fun _ => 0)))] := ⟨_, rfl⟩
  have hP : va_P (dC, dI) classes ((h0, .inr (12, fs_103)) :: ar_104) H := by rw [har]; exact hP2
  have hD : va_D A ((h0, .inr (12, fs_103)) :: ar_104) := by rw [har]; exact hD2
  clear hP2 hD2
  refine va_putF (D := (dC, dI)) (ci := 12) (v := .ref q_103) (ty := (.array .int)) (C := R_Mod) (T := T_Mod) (N := 76) hx hb hT in_Mod ty_Mod tyo_Mod nm_Mod hown hK hP hD hS 0 rfl rfl 66 (by decide) (hT _ vt_1335) (fun _ h9 => h9) rfl hin rfl (by decide +kernel) rfl rfl (by rw [hfs]; exact Nat.le_of_ble_eq_true rfl) d_Mod_init_481 (fun H locs hP2 hD2 hS2 => ?_)
  clear hP hD hS
  have hS := hS2
  clear hS2
  subst hfs
  obtain ⟨fs_105, hfs⟩ : ∃ z : List Value, z = [.ref q_0, .ref q_2, .int 0, .int 0, .int 0, .int 0, .int 0, .int 0, .int 0, .int 0, .int 0, .int 0, .ref q_14, .ref q_16, .ref q_18, .ref q_20, .ref q_22, .ref q_24, .int 32000, .ref q_27, .int 0, .int 0, .int 0, .int 0, .ref q_33, .ref q_35, .ref q_37, .int 0, .int 0, .ref q_41, .ref q_43, .ref q_45, .ref q_47, .ref q_49, .ref q_51, .ref q_53, .ref q_55, .ref q_57, .ref q_59, .ref q_61, .ref q_63, .ref q_65, .int 0, .int 0, .ref q_69, .ref q_71, .int 0, .ref q_74, .ref q_76, .ref q_78, .ref q_80, .ref q_82, .int 0, .int 0, .int 0, .int 0, .ref q_88, .int 0, .int 0, .int 0, .int 0, .int 0, .ref q_95, .ref q_97, .ref q_99, .ref q_101, .ref q_103, .null, .null, .null, .int 0, .null, .int 0, .null, .null, .int 0] := ⟨_, rfl⟩
  have hP : va_P (dC, dI) classes ((h0, .inr (12, fs_105)) :: ar_104) H := by rw [hfs]; exact hP2
  have hD : va_D A ((h0, .inr (12, fs_105)) :: ar_104) := by rw [hfs]; exact hD2
  clear hP2 hD2
  refine lv_aload_n hx hb d_Mod_init_484 rfl (lv_at hl 0 rfl) ?_
  refine lv_sipush (v := 4000) hx hb d_Mod_init_485 (by decide) ?_
  refine va_newk (atype := .int) (ty := .int) (cA := cI) (a0 := (4000, .inl (fun _ => 0))) hx hb (hT _ vt_83) rfl hK 0 rfl (fun _ _ => rfl) hP hD hS hA (fun _ => rfl) (by decide) (by decide) (by decide) (Nat.le_of_ble_eq_true rfl) (Nat.le_of_ble_eq_true rfl) d_Mod_init_488 (fun q_105 H hP2 hD2 hS2 => ?_)
  clear hP hD hS
  have hS := hS2
  clear hS2
  refine W.widen (k := 39) (n := 2652391) (Nat.le_of_ble_eq_true rfl) (Nat.le_of_ble_eq_true rfl) ?_
  subst har
  obtain ⟨ar_106, har⟩ : ∃ z : va_W, z = [(q_0, .inl (cB, 65536, .inl (fun _ => 0))), (q_2, .inl (cB, 65536, .inl (fun _ => 0))), (q_14, .inl (cB, 400000, .inl (fun _ => 0))), (q_16, .inl (cI, 400000, .inl (fun _ => 0))), (q_18, .inl (cI, 400000, .inl (fun _ => 0))), (q_20, .inl (cI, 400000, .inl (fun _ => 0))), (q_22, .inl (cI, 400000, .inl (fun _ => 0))), (q_24, .inl (cI, 400000, .inl (fun _ => 0))), (q_27, .inl (cI, 8000, .inl (fun _ => 0))), (q_33, .inl (cB, 9400, .inl (fun _ => 0))), (q_35, .inl (cI, 301, .inl (fun _ => 0))), (q_37, .inl (cI, 301, .inl (fun _ => 0))), (q_41, .inl (cI, 301, .inl (fun _ => 0))), (q_43, .inl (cI, 301, .inl (fun _ => 0))), (q_45, .inl (cI, 301, .inl (fun _ => 0))), (q_47, .inl (cI, 301, .inl (fun _ => 0))), (q_49, .inl (cI, 301, .inl (fun _ => 0))), (q_51, .inl (cI, 301, .inl (fun _ => 0))), (q_53, .inl (cI, 301, .inl (fun _ => 0))), (q_55, .inl (cI, 301, .inl (fun _ => 0))), (q_57, .inl (cI, 301, .inl (fun _ => 0))), (q_59, .inl (cI, 301, .inl (fun _ => 0))), (q_61, .inl (cI, 301, .inl (fun _ => 0))), (q_63, .inl (cI, 301, .inl (fun _ => 0))), (q_65, .inl (cZ, 301, .inl (fun _ => 0))), (q_69, .inl (cI, 3400, .inl (fun _ => 0))), (q_71, .inl (cI, 3400, .inl (fun _ => 0))), (q_74, .inl (cI, 3400, .inl (fun _ => 0))), (q_76, .inl (cI, 3100, .inl (fun _ => 0))), (q_78, .inl (cI, 3100, .inl (fun _ => 0))), (q_80, .inl (cI, 3400, .inl (fun _ => 0))), (q_82, .inl (cI, 3400, .inl (fun _ => 0))), (q_88, .inl (cI, 66000, .inl (fun _ => 0))), (q_95, .inl (cI, 5000, .inl (fun _ => 0))), (q_97, .inl (cI, 301, .inl (fun _ => 0))), (q_99, .inl (cI, 301, .inl (fun _ => 0))), (q_101, .inl (cI, 301, .inl (fun _ => 0))), (q_103, .inl (cI, 301, .inl (fun _ => 0))), (q_105, .inl (cI, 4000, .inl (fun _ => 0)))] := ⟨_, rfl⟩
  have hP : va_P (dC, dI) classes ((h0, .inr (12, fs_105)) :: ar_106) H := by rw [har]; exact hP2
  have hD : va_D A ((h0, .inr (12, fs_105)) :: ar_106) := by rw [har]; exact hD2
  clear hP2 hD2
  refine va_putF (D := (dC, dI)) (ci := 12) (v := .ref q_105) (ty := (.array .int)) (C := R_Mod) (T := T_Mod) (N := 76) hx hb hT in_Mod ty_Mod tyo_Mod nm_Mod hown hK hP hD hS 0 rfl rfl 67 (by decide) (hT _ vt_1336) (fun _ h9 => h9) rfl hin rfl (by decide +kernel) rfl rfl (by rw [hfs]; exact Nat.le_of_ble_eq_true rfl) d_Mod_init_490 (fun H locs hP2 hD2 hS2 => ?_)
  clear hP hD hS
  have hS := hS2
  clear hS2
  subst hfs
  obtain ⟨fs_107, hfs⟩ : ∃ z : List Value, z = [.ref q_0, .ref q_2, .int 0, .int 0, .int 0, .int 0, .int 0, .int 0, .int 0, .int 0, .int 0, .int 0, .ref q_14, .ref q_16, .ref q_18, .ref q_20, .ref q_22, .ref q_24, .int 32000, .ref q_27, .int 0, .int 0, .int 0, .int 0, .ref q_33, .ref q_35, .ref q_37, .int 0, .int 0, .ref q_41, .ref q_43, .ref q_45, .ref q_47, .ref q_49, .ref q_51, .ref q_53, .ref q_55, .ref q_57, .ref q_59, .ref q_61, .ref q_63, .ref q_65, .int 0, .int 0, .ref q_69, .ref q_71, .int 0, .ref q_74, .ref q_76, .ref q_78, .ref q_80, .ref q_82, .int 0, .int 0, .int 0, .int 0, .ref q_88, .int 0, .int 0, .int 0, .int 0, .int 0, .ref q_95, .ref q_97, .ref q_99, .ref q_101, .ref q_103, .ref q_105, .null, .null, .int 0, .null, .int 0, .null, .null, .int 0] := ⟨_, rfl⟩
  have hP : va_P (dC, dI) classes ((h0, .inr (12, fs_107)) :: ar_106) H := by rw [hfs]; exact hP2
  have hD : va_D A ((h0, .inr (12, fs_107)) :: ar_106) := by rw [hfs]; exact hD2
  clear hP2 hD2
  refine lv_aload_n hx hb d_Mod_init_493 rfl (lv_at hl 0 rfl) ?_
  refine lv_sipush (v := 4000) hx hb d_Mod_init_494 (by decide) ?_
  refine va_newk (atype := .boolean) (ty := .boolean) (cA := cZ) (a0 := (4000, .inl (fun _ => 0))) hx hb (hT _ vt_1308) rfl hK 2 rfl (fun _ _ => rfl) hP hD hS hA (fun _ => rfl) (by decide) (by decide) (by decide) (Nat.le_of_ble_eq_true rfl) (Nat.le_of_ble_eq_true rfl) d_Mod_init_497 (fun q_107 H hP2 hD2 hS2 => ?_)
  clear hP hD hS
  have hS := hS2
  clear hS2
  refine W.widen (k := 40) (n := 2656391) (Nat.le_of_ble_eq_true rfl) (Nat.le_of_ble_eq_true rfl) ?_
  subst har
  obtain ⟨ar_108, har⟩ : ∃ z : va_W, z = [(q_0, .inl (cB, 65536, .inl (fun _ => 0))), (q_2, .inl (cB, 65536, .inl (fun _ => 0))), (q_14, .inl (cB, 400000, .inl (fun _ => 0))), (q_16, .inl (cI, 400000, .inl (fun _ => 0))), (q_18, .inl (cI, 400000, .inl (fun _ => 0))), (q_20, .inl (cI, 400000, .inl (fun _ => 0))), (q_22, .inl (cI, 400000, .inl (fun _ => 0))), (q_24, .inl (cI, 400000, .inl (fun _ => 0))), (q_27, .inl (cI, 8000, .inl (fun _ => 0))), (q_33, .inl (cB, 9400, .inl (fun _ => 0))), (q_35, .inl (cI, 301, .inl (fun _ => 0))), (q_37, .inl (cI, 301, .inl (fun _ => 0))), (q_41, .inl (cI, 301, .inl (fun _ => 0))), (q_43, .inl (cI, 301, .inl (fun _ => 0))), (q_45, .inl (cI, 301, .inl (fun _ => 0))), (q_47, .inl (cI, 301, .inl (fun _ => 0))), (q_49, .inl (cI, 301, .inl (fun _ => 0))), (q_51, .inl (cI, 301, .inl (fun _ => 0))), (q_53, .inl (cI, 301, .inl (fun _ => 0))), (q_55, .inl (cI, 301, .inl (fun _ => 0))), (q_57, .inl (cI, 301, .inl (fun _ => 0))), (q_59, .inl (cI, 301, .inl (fun _ => 0))), (q_61, .inl (cI, 301, .inl (fun _ => 0))), (q_63, .inl (cI, 301, .inl (fun _ => 0))), (q_65, .inl (cZ, 301, .inl (fun _ => 0))), (q_69, .inl (cI, 3400, .inl (fun _ => 0))), (q_71, .inl (cI, 3400, .inl (fun _ => 0))), (q_74, .inl (cI, 3400, .inl (fun _ => 0))), (q_76, .inl (cI, 3100, .inl (fun _ => 0))), (q_78, .inl (cI, 3100, .inl (fun _ => 0))), (q_80, .inl (cI, 3400, .inl (fun _ => 0))), (q_82, .inl (cI, 3400, .inl (fun _ => 0))), (q_88, .inl (cI, 66000, .inl (fun _ => 0))), (q_95, .inl (cI, 5000, .inl (fun _ => 0))), (q_97, .inl (cI, 301, .inl (fun _ => 0))), (q_99, .inl (cI, 301, .inl (fun _ => 0))), (q_101, .inl (cI, 301, .inl (fun _ => 0))), (q_103, .inl (cI, 301, .inl (fun _ => 0))), (q_105, .inl (cI, 4000, .inl (fun _ => 0))), (q_107, .inl (cZ, 4000, .inl (fun _ => 0)))] := ⟨_, rfl⟩
  have hP : va_P (dC, dI) classes ((h0, .inr (12, fs_107)) :: ar_108) H := by rw [har]; exact hP2
  have hD : va_D A ((h0, .inr (12, fs_107)) :: ar_108) := by rw [har]; exact hD2
  clear hP2 hD2
  refine va_putF (D := (dC, dI)) (ci := 12) (v := .ref q_107) (ty := (.array .boolean)) (C := R_Mod) (T := T_Mod) (N := 76) hx hb hT in_Mod ty_Mod tyo_Mod nm_Mod hown hK hP hD hS 0 rfl rfl 68 (by decide) (hT _ vt_1337) (fun _ h9 => h9) rfl hin rfl (by decide +kernel) rfl rfl (by rw [hfs]; exact Nat.le_of_ble_eq_true rfl) d_Mod_init_499 (fun H locs hP2 hD2 hS2 => ?_)
  clear hP hD hS
  have hS := hS2
  clear hS2
  subst hfs
  obtain ⟨fs_109, hfs⟩ : ∃ z : List Value, z = [.ref q_0, .ref q_2, .int 0, .int 0, .int 0, .int 0, .int 0, .int 0, .int 0, .int 0, .int 0, .int 0, .ref q_14, .ref q_16, .ref q_18, .ref q_20, .ref q_22, .ref q_24, .int 32000, .ref q_27, .int 0, .int 0, .int 0, .int 0, .ref q_33, .ref q_35, .ref q_37, .int 0, .int 0, .ref q_41, .ref q_43, .ref q_45, .ref q_47, .ref q_49, .ref q_51, .ref q_53, .ref q_55, .ref q_57, .ref q_59, .ref q_61, .ref q_63, .ref q_65, .int 0, .int 0, .ref q_69, .ref q_71, .int 0, .ref q_74, .ref q_76, .ref q_78, .ref q_80, .ref q_82, .int 0, .int 0, .int 0, .int 0, .ref q_88, .int 0, .int 0, .int 0, .int 0, .int 0, .ref q_95, .ref q_97, .ref q_99, .ref q_101, .ref q_103, .ref q_105, .ref q_107, .null, .int 0, .null, .int 0, .null, .null, .int 0] := ⟨_, rfl⟩
  have hP : va_P (dC, dI) classes ((h0, .inr (12, fs_109)) :: ar_108) H := by rw [hfs]; exact hP2
  have hD : va_D A ((h0, .inr (12, fs_109)) :: ar_108) := by rw [hfs]; exact hD2
  clear hP2 hD2
  refine lv_aload_n hx hb d_Mod_init_502 rfl (lv_at hl 0 rfl) ?_
  refine lv_sipush (v := 4000) hx hb d_Mod_init_503 (by decide) ?_
  refine va_newk (atype := .boolean) (ty := .boolean) (cA := cZ) (a0 := (4000, .inl (fun _ => 0))) hx hb (hT _ vt_1308) rfl hK 2 rfl (fun _ _ => rfl) hP hD hS hA (fun _ => rfl) (by decide) (by decide) (by decide) (Nat.le_of_ble_eq_true rfl) (Nat.le_of_ble_eq_true rfl) d_Mod_init_506 (fun q_109 H hP2 hD2 hS2 => ?_)
  clear hP hD hS
  have hS := hS2
  clear hS2
  refine W.widen (k := 41) (n := 2660391) (Nat.le_of_ble_eq_true rfl) (Nat.le_of_ble_eq_true rfl) ?_
  subst har
  obtain ⟨ar_110, har⟩ : ∃ z : va_W, z = [(q_0, .inl (cB, 65536, .inl (fun _ => 0))), (q_2, .inl (cB, 65536, .inl (fun _ => 0))), (q_14, .inl (cB, 400000, .inl (fun _ => 0))), (q_16, .inl (cI, 400000, .inl (fun _ => 0))), (q_18, .inl (cI, 400000, .inl (fun _ => 0))), (q_20, .inl (cI, 400000, .inl (fun _ => 0))), (q_22, .inl (cI, 400000, .inl (fun _ => 0))), (q_24, .inl (cI, 400000, .inl (fun _ => 0))), (q_27, .inl (cI, 8000, .inl (fun _ => 0))), (q_33, .inl (cB, 9400, .inl (fun _ => 0))), (q_35, .inl (cI, 301, .inl (fun _ => 0))), (q_37, .inl (cI, 301, .inl (fun _ => 0))), (q_41, .inl (cI, 301, .inl (fun _ => 0))), (q_43, .inl (cI, 301, .inl (fun _ => 0))), (q_45, .inl (cI, 301, .inl (fun _ => 0))), (q_47, .inl (cI, 301, .inl (fun _ => 0))), (q_49, .inl (cI, 301, .inl (fun _ => 0))), (q_51, .inl (cI, 301, .inl (fun _ => 0))), (q_53, .inl (cI, 301, .inl (fun _ => 0))), (q_55, .inl (cI, 301, .inl (fun _ => 0))), (q_57, .inl (cI, 301, .inl (fun _ => 0))), (q_59, .inl (cI, 301, .inl (fun _ => 0))), (q_61, .inl (cI, 301, .inl (fun _ => 0))), (q_63, .inl (cI, 301, .inl (fun _ => 0))), (q_65, .inl (cZ, 301, .inl (fun _ => 0))), (q_69, .inl (cI, 3400, .inl (fun _ => 0))), (q_71, .inl (cI, 3400, .inl (fun _ => 0))), (q_74, .inl (cI, 3400, .inl (fun _ => 0))), (q_76, .inl (cI, 3100, .inl (fun _ => 0))), (q_78, .inl (cI, 3100, .inl (fun _ => 0))), (q_80, .inl (cI, 3400, .inl (fun _ => 0))), (q_82, .inl (cI, 3400, .inl (fun _ => 0))), (q_88, .inl (cI, 66000, .inl (fun _ => 0))), (q_95, .inl (cI, 5000, .inl (fun _ => 0))), (q_97, .inl (cI, 301, .inl (fun _ => 0))), (q_99, .inl (cI, 301, .inl (fun _ => 0))), (q_101, .inl (cI, 301, .inl (fun _ => 0))), (q_103, .inl (cI, 301, .inl (fun _ => 0))), (q_105, .inl (cI, 4000, .inl (fun _ => 0))), (q_107, .inl (cZ, 4000, .inl (fun _ => 0))), (q_109, .inl (cZ, 4000, .inl (fun _ => 0)))] := ⟨_, rfl⟩
  have hP : va_P (dC, dI) classes ((h0, .inr (12, fs_109)) :: ar_110) H := by rw [har]; exact hP2
  have hD : va_D A ((h0, .inr (12, fs_109)) :: ar_110) := by rw [har]; exact hD2
  clear hP2 hD2
  refine va_putF (D := (dC, dI)) (ci := 12) (v := .ref q_109) (ty := (.array .boolean)) (C := R_Mod) (T := T_Mod) (N := 76) hx hb hT in_Mod ty_Mod tyo_Mod nm_Mod hown hK hP hD hS 0 rfl rfl 69 (by decide) (hT _ vt_1338) (fun _ h9 => h9) rfl hin rfl (by decide +kernel) rfl rfl (by rw [hfs]; exact Nat.le_of_ble_eq_true rfl) d_Mod_init_508 (fun H locs hP2 hD2 hS2 => ?_)
  clear hP hD hS
  have hS := hS2
  clear hS2
  subst hfs
  obtain ⟨fs_111, hfs⟩ : ∃ z : List Value, z = [.ref q_0, .ref q_2, .int 0, .int 0, .int 0, .int 0, .int 0, .int 0, .int 0, .int 0, .int 0, .int 0, .ref q_14, .ref q_16, .ref q_18, .ref q_20, .ref q_22, .ref q_24, .int 32000, .ref q_27, .int 0, .int 0, .int 0, .int 0, .ref q_33, .ref q_35, .ref q_37, .int 0, .int 0, .ref q_41, .ref q_43, .ref q_45, .ref q_47, .ref q_49, .ref q_51, .ref q_53, .ref q_55, .ref q_57, .ref q_59, .ref q_61, .ref q_63, .ref q_65, .int 0, .int 0, .ref q_69, .ref q_71, .int 0, .ref q_74, .ref q_76, .ref q_78, .ref q_80, .ref q_82, .int 0, .int 0, .int 0, .int 0, .ref q_88, .int 0, .int 0, .int 0, .int 0, .int 0, .ref q_95, .ref q_97, .ref q_99, .ref q_101, .ref q_103, .ref q_105, .ref q_107, .ref q_109, .int 0, .null, .int 0, .null, .null, .int 0] := ⟨_, rfl⟩
  have hP : va_P (dC, dI) classes ((h0, .inr (12, fs_111)) :: ar_110) H := by rw [hfs]; exact hP2
  have hD : va_D A ((h0, .inr (12, fs_111)) :: ar_110) := by rw [hfs]; exact hD2
  clear hP2 hD2
  refine lv_aload_n hx hb d_Mod_init_511 rfl (lv_at hl 0 rfl) ?_
  refine lv_iconst (v := 0) hx hb d_Mod_init_512 (by decide) ?_
  refine va_put (D := (dC, dI)) (ci := 12) (v := .int 0) (ty := .int) (C := R_Mod) (T := T_Mod) (N := 76) hx hb hT in_Mod ty_Mod tyo_Mod nm_Mod hown hK hP hD hS 0 rfl rfl 70 (by decide) (hT _ vt_1339) (fun _ h9 => h9) rfl (by decide +kernel) rfl rfl (by rw [hfs]; exact Nat.le_of_ble_eq_true rfl) d_Mod_init_513 (fun H locs hP2 hD2 hS2 => ?_)
  clear hP hD hS
  have hS := hS2
  clear hS2
  subst hfs
  obtain ⟨fs_112, hfs⟩ : ∃ z : List Value, z = [.ref q_0, .ref q_2, .int 0, .int 0, .int 0, .int 0, .int 0, .int 0, .int 0, .int 0, .int 0, .int 0, .ref q_14, .ref q_16, .ref q_18, .ref q_20, .ref q_22, .ref q_24, .int 32000, .ref q_27, .int 0, .int 0, .int 0, .int 0, .ref q_33, .ref q_35, .ref q_37, .int 0, .int 0, .ref q_41, .ref q_43, .ref q_45, .ref q_47, .ref q_49, .ref q_51, .ref q_53, .ref q_55, .ref q_57, .ref q_59, .ref q_61, .ref q_63, .ref q_65, .int 0, .int 0, .ref q_69, .ref q_71, .int 0, .ref q_74, .ref q_76, .ref q_78, .ref q_80, .ref q_82, .int 0, .int 0, .int 0, .int 0, .ref q_88, .int 0, .int 0, .int 0, .int 0, .int 0, .ref q_95, .ref q_97, .ref q_99, .ref q_101, .ref q_103, .ref q_105, .ref q_107, .ref q_109, .int 0, .null, .int 0, .null, .null, .int 0] := ⟨_, rfl⟩
  have hP : va_P (dC, dI) classes ((h0, .inr (12, fs_112)) :: ar_110) H := by rw [hfs]; exact hP2
  have hD : va_D A ((h0, .inr (12, fs_112)) :: ar_110) := by rw [hfs]; exact hD2
  clear hP2 hD2
  refine lv_aload_n hx hb d_Mod_init_516 rfl (lv_at hl 0 rfl) ?_
  refine lv_sipush (v := 9000) hx hb d_Mod_init_517 (by decide) ?_
  refine va_newk (atype := .int) (ty := .int) (cA := cI) (a0 := (9000, .inl (fun _ => 0))) hx hb (hT _ vt_83) rfl hK 0 rfl (fun _ _ => rfl) hP hD hS hA (fun _ => rfl) (by decide) (by decide) (by decide) (Nat.le_of_ble_eq_true rfl) (Nat.le_of_ble_eq_true rfl) d_Mod_init_520 (fun q_112 H hP2 hD2 hS2 => ?_)
  clear hP hD hS
  have hS := hS2
  clear hS2
  refine W.widen (k := 42) (n := 2669391) (Nat.le_of_ble_eq_true rfl) (Nat.le_of_ble_eq_true rfl) ?_
  subst har
  obtain ⟨ar_113, har⟩ : ∃ z : va_W, z = [(q_0, .inl (cB, 65536, .inl (fun _ => 0))), (q_2, .inl (cB, 65536, .inl (fun _ => 0))), (q_14, .inl (cB, 400000, .inl (fun _ => 0))), (q_16, .inl (cI, 400000, .inl (fun _ => 0))), (q_18, .inl (cI, 400000, .inl (fun _ => 0))), (q_20, .inl (cI, 400000, .inl (fun _ => 0))), (q_22, .inl (cI, 400000, .inl (fun _ => 0))), (q_24, .inl (cI, 400000, .inl (fun _ => 0))), (q_27, .inl (cI, 8000, .inl (fun _ => 0))), (q_33, .inl (cB, 9400, .inl (fun _ => 0))), (q_35, .inl (cI, 301, .inl (fun _ => 0))), (q_37, .inl (cI, 301, .inl (fun _ => 0))), (q_41, .inl (cI, 301, .inl (fun _ => 0))), (q_43, .inl (cI, 301, .inl (fun _ => 0))), (q_45, .inl (cI, 301, .inl (fun _ => 0))), (q_47, .inl (cI, 301, .inl (fun _ => 0))), (q_49, .inl (cI, 301, .inl (fun _ => 0))), (q_51, .inl (cI, 301, .inl (fun _ => 0))), (q_53, .inl (cI, 301, .inl (fun _ => 0))), (q_55, .inl (cI, 301, .inl (fun _ => 0))), (q_57, .inl (cI, 301, .inl (fun _ => 0))), (q_59, .inl (cI, 301, .inl (fun _ => 0))), (q_61, .inl (cI, 301, .inl (fun _ => 0))), (q_63, .inl (cI, 301, .inl (fun _ => 0))), (q_65, .inl (cZ, 301, .inl (fun _ => 0))), (q_69, .inl (cI, 3400, .inl (fun _ => 0))), (q_71, .inl (cI, 3400, .inl (fun _ => 0))), (q_74, .inl (cI, 3400, .inl (fun _ => 0))), (q_76, .inl (cI, 3100, .inl (fun _ => 0))), (q_78, .inl (cI, 3100, .inl (fun _ => 0))), (q_80, .inl (cI, 3400, .inl (fun _ => 0))), (q_82, .inl (cI, 3400, .inl (fun _ => 0))), (q_88, .inl (cI, 66000, .inl (fun _ => 0))), (q_95, .inl (cI, 5000, .inl (fun _ => 0))), (q_97, .inl (cI, 301, .inl (fun _ => 0))), (q_99, .inl (cI, 301, .inl (fun _ => 0))), (q_101, .inl (cI, 301, .inl (fun _ => 0))), (q_103, .inl (cI, 301, .inl (fun _ => 0))), (q_105, .inl (cI, 4000, .inl (fun _ => 0))), (q_107, .inl (cZ, 4000, .inl (fun _ => 0))), (q_109, .inl (cZ, 4000, .inl (fun _ => 0))), (q_112, .inl (cI, 9000, .inl (fun _ => 0)))] := ⟨_, rfl⟩
  have hP : va_P (dC, dI) classes ((h0, .inr (12, fs_112)) :: ar_113) H := by rw [har]; exact hP2
  have hD : va_D A ((h0, .inr (12, fs_112)) :: ar_113) := by rw [har]; exact hD2
  clear hP2 hD2
  refine va_putF (D := (dC, dI)) (ci := 12) (v := .ref q_112) (ty := (.array .int)) (C := R_Mod) (T := T_Mod) (N := 76) hx hb hT in_Mod ty_Mod tyo_Mod nm_Mod hown hK hP hD hS 0 rfl rfl 71 (by decide) (hT _ vt_1340) (fun _ h9 => h9) rfl hin rfl (by decide +kernel) rfl rfl (by rw [hfs]; exact Nat.le_of_ble_eq_true rfl) d_Mod_init_522 (fun H locs hP2 hD2 hS2 => ?_)
  clear hP hD hS
  have hS := hS2
  clear hS2
  subst hfs
  obtain ⟨fs_114, hfs⟩ : ∃ z : List Value, z = [.ref q_0, .ref q_2, .int 0, .int 0, .int 0, .int 0, .int 0, .int 0, .int 0, .int 0, .int 0, .int 0, .ref q_14, .ref q_16, .ref q_18, .ref q_20, .ref q_22, .ref q_24, .int 32000, .ref q_27, .int 0, .int 0, .int 0, .int 0, .ref q_33, .ref q_35, .ref q_37, .int 0, .int 0, .ref q_41, .ref q_43, .ref q_45, .ref q_47, .ref q_49, .ref q_51, .ref q_53, .ref q_55, .ref q_57, .ref q_59, .ref q_61, .ref q_63, .ref q_65, .int 0, .int 0, .ref q_69, .ref q_71, .int 0, .ref q_74, .ref q_76, .ref q_78, .ref q_80, .ref q_82, .int 0, .int 0, .int 0, .int 0, .ref q_88, .int 0, .int 0, .int 0, .int 0, .int 0, .ref q_95, .ref q_97, .ref q_99, .ref q_101, .ref q_103, .ref q_105, .ref q_107, .ref q_109, .int 0, .ref q_112, .int 0, .null, .null, .int 0] := ⟨_, rfl⟩
  have hP : va_P (dC, dI) classes ((h0, .inr (12, fs_114)) :: ar_113) H := by rw [hfs]; exact hP2
  have hD : va_D A ((h0, .inr (12, fs_114)) :: ar_113) := by rw [hfs]; exact hD2
  clear hP2 hD2
  refine lv_aload_n hx hb d_Mod_init_525 rfl (lv_at hl 0 rfl) ?_
  refine lv_iconst (v := 0) hx hb d_Mod_init_526 (by decide) ?_
  refine va_put (D := (dC, dI)) (ci := 12) (v := .int 0) (ty := .int) (C := R_Mod) (T := T_Mod) (N := 76) hx hb hT in_Mod ty_Mod tyo_Mod nm_Mod hown hK hP hD hS 0 rfl rfl 72 (by decide) (hT _ vt_1341) (fun _ h9 => h9) rfl (by decide +kernel) rfl rfl (by rw [hfs]; exact Nat.le_of_ble_eq_true rfl) d_Mod_init_527 (fun H locs hP2 hD2 hS2 => ?_)
  clear hP hD hS
  have hS := hS2
  clear hS2
  subst hfs
  obtain ⟨fs_115, hfs⟩ : ∃ z : List Value, z = [.ref q_0, .ref q_2, .int 0, .int 0, .int 0, .int 0, .int 0, .int 0, .int 0, .int 0, .int 0, .int 0, .ref q_14, .ref q_16, .ref q_18, .ref q_20, .ref q_22, .ref q_24, .int 32000, .ref q_27, .int 0, .int 0, .int 0, .int 0, .ref q_33, .ref q_35, .ref q_37, .int 0, .int 0, .ref q_41, .ref q_43, .ref q_45, .ref q_47, .ref q_49, .ref q_51, .ref q_53, .ref q_55, .ref q_57, .ref q_59, .ref q_61, .ref q_63, .ref q_65, .int 0, .int 0, .ref q_69, .ref q_71, .int 0, .ref q_74, .ref q_76, .ref q_78, .ref q_80, .ref q_82, .int 0, .int 0, .int 0, .int 0, .ref q_88, .int 0, .int 0, .int 0, .int 0, .int 0, .ref q_95, .ref q_97, .ref q_99, .ref q_101, .ref q_103, .ref q_105, .ref q_107, .ref q_109, .int 0, .ref q_112, .int 0, .null, .null, .int 0] := ⟨_, rfl⟩
  have hP : va_P (dC, dI) classes ((h0, .inr (12, fs_115)) :: ar_113) H := by rw [hfs]; exact hP2
  have hD : va_D A ((h0, .inr (12, fs_115)) :: ar_113) := by rw [hfs]; exact hD2
  clear hP2 hD2
  refine lv_aload_n hx hb d_Mod_init_530 rfl (lv_at hl 0 rfl) ?_
  refine lv_sipush (v := 301) hx hb d_Mod_init_531 (by decide) ?_
  refine va_newk (atype := .int) (ty := .int) (cA := cI) (a0 := (301, .inl (fun _ => 0))) hx hb (hT _ vt_83) rfl hK 0 rfl (fun _ _ => rfl) hP hD hS hA (fun _ => rfl) (by decide) (by decide) (by decide) (Nat.le_of_ble_eq_true rfl) (Nat.le_of_ble_eq_true rfl) d_Mod_init_534 (fun q_115 H hP2 hD2 hS2 => ?_)
  clear hP hD hS
  have hS := hS2
  clear hS2
  refine W.widen (k := 43) (n := 2669692) (Nat.le_of_ble_eq_true rfl) (Nat.le_of_ble_eq_true rfl) ?_
  subst har
  obtain ⟨ar_116, har⟩ : ∃ z : va_W, z = [(q_0, .inl (cB, 65536, .inl (fun _ => 0))), (q_2, .inl (cB, 65536, .inl (fun _ => 0))), (q_14, .inl (cB, 400000, .inl (fun _ => 0))), (q_16, .inl (cI, 400000, .inl (fun _ => 0))), (q_18, .inl (cI, 400000, .inl (fun _ => 0))), (q_20, .inl (cI, 400000, .inl (fun _ => 0))), (q_22, .inl (cI, 400000, .inl (fun _ => 0))), (q_24, .inl (cI, 400000, .inl (fun _ => 0))), (q_27, .inl (cI, 8000, .inl (fun _ => 0))), (q_33, .inl (cB, 9400, .inl (fun _ => 0))), (q_35, .inl (cI, 301, .inl (fun _ => 0))), (q_37, .inl (cI, 301, .inl (fun _ => 0))), (q_41, .inl (cI, 301, .inl (fun _ => 0))), (q_43, .inl (cI, 301, .inl (fun _ => 0))), (q_45, .inl (cI, 301, .inl (fun _ => 0))), (q_47, .inl (cI, 301, .inl (fun _ => 0))), (q_49, .inl (cI, 301, .inl (fun _ => 0))), (q_51, .inl (cI, 301, .inl (fun _ => 0))), (q_53, .inl (cI, 301, .inl (fun _ => 0))), (q_55, .inl (cI, 301, .inl (fun _ => 0))), (q_57, .inl (cI, 301, .inl (fun _ => 0))), (q_59, .inl (cI, 301, .inl (fun _ => 0))), (q_61, .inl (cI, 301, .inl (fun _ => 0))), (q_63, .inl (cI, 301, .inl (fun _ => 0))), (q_65, .inl (cZ, 301, .inl (fun _ => 0))), (q_69, .inl (cI, 3400, .inl (fun _ => 0))), (q_71, .inl (cI, 3400, .inl (fun _ => 0))), (q_74, .inl (cI, 3400, .inl (fun _ => 0))), (q_76, .inl (cI, 3100, .inl (fun _ => 0))), (q_78, .inl (cI, 3100, .inl (fun _ => 0))), (q_80, .inl (cI, 3400, .inl (fun _ => 0))), (q_82, .inl (cI, 3400, .inl (fun _ => 0))), (q_88, .inl (cI, 66000, .inl (fun _ => 0))), (q_95, .inl (cI, 5000, .inl (fun _ => 0))), (q_97, .inl (cI, 301, .inl (fun _ => 0))), (q_99, .inl (cI, 301, .inl (fun _ => 0))), (q_101, .inl (cI, 301, .inl (fun _ => 0))), (q_103, .inl (cI, 301, .inl (fun _ => 0))), (q_105, .inl (cI, 4000, .inl (fun _ => 0))), (q_107, .inl (cZ, 4000, .inl (fun _ => 0))), (q_109, .inl (cZ, 4000, .inl (fun _ => 0))), (q_112, .inl (cI, 9000, .inl (fun _ => 0))), (q_115, .inl (cI, 301, .inl (fun _ => 0)))] := ⟨_, rfl⟩
  have hP : va_P (dC, dI) classes ((h0, .inr (12, fs_115)) :: ar_116) H := by rw [har]; exact hP2
  have hD : va_D A ((h0, .inr (12, fs_115)) :: ar_116) := by rw [har]; exact hD2
  clear hP2 hD2
  refine va_putF (D := (dC, dI)) (ci := 12) (v := .ref q_115) (ty := (.array .int)) (C := R_Mod) (T := T_Mod) (N := 76) hx hb hT in_Mod ty_Mod tyo_Mod nm_Mod hown hK hP hD hS 0 rfl rfl 73 (by decide) (hT _ vt_1342) (fun _ h9 => h9) rfl hin rfl (by decide +kernel) rfl rfl (by rw [hfs]; exact Nat.le_of_ble_eq_true rfl) d_Mod_init_536 (fun H locs hP2 hD2 hS2 => ?_)
  clear hP hD hS
  have hS := hS2
  clear hS2
  subst hfs
  obtain ⟨fs_117, hfs⟩ : ∃ z : List Value, z = [.ref q_0, .ref q_2, .int 0, .int 0, .int 0, .int 0, .int 0, .int 0, .int 0, .int 0, .int 0, .int 0, .ref q_14, .ref q_16, .ref q_18, .ref q_20, .ref q_22, .ref q_24, .int 32000, .ref q_27, .int 0, .int 0, .int 0, .int 0, .ref q_33, .ref q_35, .ref q_37, .int 0, .int 0, .ref q_41, .ref q_43, .ref q_45, .ref q_47, .ref q_49, .ref q_51, .ref q_53, .ref q_55, .ref q_57, .ref q_59, .ref q_61, .ref q_63, .ref q_65, .int 0, .int 0, .ref q_69, .ref q_71, .int 0, .ref q_74, .ref q_76, .ref q_78, .ref q_80, .ref q_82, .int 0, .int 0, .int 0, .int 0, .ref q_88, .int 0, .int 0, .int 0, .int 0, .int 0, .ref q_95, .ref q_97, .ref q_99, .ref q_101, .ref q_103, .ref q_105, .ref q_107, .ref q_109, .int 0, .ref q_112, .int 0, .ref q_115, .null, .int 0] := ⟨_, rfl⟩
  have hP : va_P (dC, dI) classes ((h0, .inr (12, fs_117)) :: ar_116) H := by rw [hfs]; exact hP2
  have hD : va_D A ((h0, .inr (12, fs_117)) :: ar_116) := by rw [hfs]; exact hD2
  clear hP2 hD2
  refine lv_aload_n hx hb d_Mod_init_539 rfl (lv_at hl 0 rfl) ?_
  refine lv_sipush (v := 301) hx hb d_Mod_init_540 (by decide) ?_
  refine va_newk (atype := .int) (ty := .int) (cA := cI) (a0 := (301, .inl (fun _ => 0))) hx hb (hT _ vt_83) rfl hK 0 rfl (fun _ _ => rfl) hP hD hS hA (fun _ => rfl) (by decide) (by decide) (by decide) (Nat.le_of_ble_eq_true rfl) (Nat.le_of_ble_eq_true rfl) d_Mod_init_543 (fun q_117 H hP2 hD2 hS2 => ?_)
  clear hP hD hS
  have hS := hS2
  clear hS2
  refine W.widen (k := 44) (n := 2669993) (Nat.le_of_ble_eq_true rfl) (Nat.le_of_ble_eq_true rfl) ?_
  subst har
  obtain ⟨ar_118, har⟩ : ∃ z : va_W, z = [(q_0, .inl (cB, 65536, .inl (fun _ => 0))), (q_2, .inl (cB, 65536, .inl (fun _ => 0))), (q_14, .inl (cB, 400000, .inl (fun _ => 0))), (q_16, .inl (cI, 400000, .inl (fun _ => 0))), (q_18, .inl (cI, 400000, .inl (fun _ => 0))), (q_20, .inl (cI, 400000, .inl (fun _ => 0))), (q_22, .inl (cI, 400000, .inl (fun _ => 0))), (q_24, .inl (cI, 400000, .inl (fun _ => 0))), (q_27, .inl (cI, 8000, .inl (fun _ => 0))), (q_33, .inl (cB, 9400, .inl (fun _ => 0))), (q_35, .inl (cI, 301, .inl (fun _ => 0))), (q_37, .inl (cI, 301, .inl (fun _ => 0))), (q_41, .inl (cI, 301, .inl (fun _ => 0))), (q_43, .inl (cI, 301, .inl (fun _ => 0))), (q_45, .inl (cI, 301, .inl (fun _ => 0))), (q_47, .inl (cI, 301, .inl (fun _ => 0))), (q_49, .inl (cI, 301, .inl (fun _ => 0))), (q_51, .inl (cI, 301, .inl (fun _ => 0))), (q_53, .inl (cI, 301, .inl (fun _ => 0))), (q_55, .inl (cI, 301, .inl (fun _ => 0))), (q_57, .inl (cI, 301, .inl (fun _ => 0))), (q_59, .inl (cI, 301, .inl (fun _ => 0))), (q_61, .inl (cI, 301, .inl (fun _ => 0))), (q_63, .inl (cI, 301, .inl (fun _ => 0))), (q_65, .inl (cZ, 301, .inl (fun _ => 0))), (q_69, .inl (cI, 3400, .inl (fun _ => 0))), (q_71, .inl (cI, 3400, .inl (fun _ => 0))), (q_74, .inl (cI, 3400, .inl (fun _ => 0))), (q_76, .inl (cI, 3100, .inl (fun _ => 0))), (q_78, .inl (cI, 3100, .inl (fun _ => 0))), (q_80, .inl (cI, 3400, .inl (fun _ => 0))), (q_82, .inl (cI, 3400, .inl (fun _ => 0))), (q_88, .inl (cI, 66000, .inl (fun _ => 0))), (q_95, .inl (cI, 5000, .inl (fun _ => 0))), (q_97, .inl (cI, 301, .inl (fun _ => 0))), (q_99, .inl (cI, 301, .inl (fun _ => 0))), (q_101, .inl (cI, 301, .inl (fun _ => 0))), (q_103, .inl (cI, 301, .inl (fun _ => 0))), (q_105, .inl (cI, 4000, .inl (fun _ => 0))), (q_107, .inl (cZ, 4000, .inl (fun _ => 0))), (q_109, .inl (cZ, 4000, .inl (fun _ => 0))), (q_112, .inl (cI, 9000, .inl (fun _ => 0))), (q_115, .inl (cI, 301, .inl (fun _ => 0))), (q_117, .inl (cI, 301, .inl (fun _ => 0)))] := ⟨_, rfl⟩
  have hP : va_P (dC, dI) classes ((h0, .inr (12, fs_117)) :: ar_118) H := by rw [har]; exact hP2
  have hD : va_D A ((h0, .inr (12, fs_117)) :: ar_118) := by rw [har]; exact hD2
  clear hP2 hD2
  refine va_putF (D := (dC, dI)) (ci := 12) (v := .ref q_117) (ty := (.array .int)) (C := R_Mod) (T := T_Mod) (N := 76) hx hb hT in_Mod ty_Mod tyo_Mod nm_Mod hown hK hP hD hS 0 rfl rfl 74 (by decide) (hT _ vt_1343) (fun _ h9 => h9) rfl hin rfl (by decide +kernel) rfl rfl (by rw [hfs]; exact Nat.le_of_ble_eq_true rfl) d_Mod_init_545 (fun H locs hP2 hD2 hS2 => ?_)
  clear hP hD hS
  have hS := hS2
  clear hS2
  subst hfs
  obtain ⟨fs_119, hfs⟩ : ∃ z : List Value, z = [.ref q_0, .ref q_2, .int 0, .int 0, .int 0, .int 0, .int 0, .int 0, .int 0, .int 0, .int 0, .int 0, .ref q_14, .ref q_16, .ref q_18, .ref q_20, .ref q_22, .ref q_24, .int 32000, .ref q_27, .int 0, .int 0, .int 0, .int 0, .ref q_33, .ref q_35, .ref q_37, .int 0, .int 0, .ref q_41, .ref q_43, .ref q_45, .ref q_47, .ref q_49, .ref q_51, .ref q_53, .ref q_55, .ref q_57, .ref q_59, .ref q_61, .ref q_63, .ref q_65, .int 0, .int 0, .ref q_69, .ref q_71, .int 0, .ref q_74, .ref q_76, .ref q_78, .ref q_80, .ref q_82, .int 0, .int 0, .int 0, .int 0, .ref q_88, .int 0, .int 0, .int 0, .int 0, .int 0, .ref q_95, .ref q_97, .ref q_99, .ref q_101, .ref q_103, .ref q_105, .ref q_107, .ref q_109, .int 0, .ref q_112, .int 0, .ref q_115, .ref q_117, .int 0] := ⟨_, rfl⟩
  have hP : va_P (dC, dI) classes ((h0, .inr (12, fs_119)) :: ar_118) H := by rw [hfs]; exact hP2
  have hD : va_D A ((h0, .inr (12, fs_119)) :: ar_118) := by rw [hfs]; exact hD2
  clear hP2 hD2
  refine lv_aload_n hx hb d_Mod_init_548 rfl (lv_at hl 0 rfl) ?_
  refine lv_iconst (v := 0) hx hb d_Mod_init_549 (by decide) ?_
  refine va_put (D := (dC, dI)) (ci := 12) (v := .int 0) (ty := .int) (C := R_Mod) (T := T_Mod) (N := 76) hx hb hT in_Mod ty_Mod tyo_Mod nm_Mod hown hK hP hD hS 0 rfl rfl 75 (by decide) (hT _ vt_1344) (fun _ h9 => h9) rfl (by decide +kernel) rfl rfl (by rw [hfs]; exact Nat.le_of_ble_eq_true rfl) d_Mod_init_550 (fun H locs hP2 hD2 hS2 => ?_)
  clear hP hD hS
  have hS := hS2
  clear hS2
  subst hfs
  obtain ⟨fs_120, hfs⟩ : ∃ z : List Value, z = [.ref q_0, .ref q_2, .int 0, .int 0, .int 0, .int 0, .int 0, .int 0, .int 0, .int 0, .int 0, .int 0, .ref q_14, .ref q_16, .ref q_18, .ref q_20, .ref q_22, .ref q_24, .int 32000, .ref q_27, .int 0, .int 0, .int 0, .int 0, .ref q_33, .ref q_35, .ref q_37, .int 0, .int 0, .ref q_41, .ref q_43, .ref q_45, .ref q_47, .ref q_49, .ref q_51, .ref q_53, .ref q_55, .ref q_57, .ref q_59, .ref q_61, .ref q_63, .ref q_65, .int 0, .int 0, .ref q_69, .ref q_71, .int 0, .ref q_74, .ref q_76, .ref q_78, .ref q_80, .ref q_82, .int 0, .int 0, .int 0, .int 0, .ref q_88, .int 0, .int 0, .int 0, .int 0, .int 0, .ref q_95, .ref q_97, .ref q_99, .ref q_101, .ref q_103, .ref q_105, .ref q_107, .ref q_109, .int 0, .ref q_112, .int 0, .ref q_115, .ref q_117, .int 0] := ⟨_, rfl⟩
  have hP : va_P (dC, dI) classes ((h0, .inr (12, fs_120)) :: ar_118) H := by rw [hfs]; exact hP2
  have hD : va_D A ((h0, .inr (12, fs_120)) :: ar_118) := by rw [hfs]; exact hD2
  clear hP2 hD2
  subst hfs
  subst har
  have hP9 : va_P (dC, dI) classes [(h0, .inr (12, [.ref q_0, .ref q_2, .int 0, .int 0, .int 0, .int 0, .int 0, .int 0, .int 0, .int 0, .int 0, .int 0, .ref q_14, .ref q_16, .ref q_18, .ref q_20, .ref q_22, .ref q_24, .int 32000, .ref q_27, .int 0, .int 0, .int 0, .int 0, .ref q_33, .ref q_35, .ref q_37, .int 0, .int 0, .ref q_41, .ref q_43, .ref q_45, .ref q_47, .ref q_49, .ref q_51, .ref q_53, .ref q_55, .ref q_57, .ref q_59, .ref q_61, .ref q_63, .ref q_65, .int 0, .int 0, .ref q_69, .ref q_71, .int 0, .ref q_74, .ref q_76, .ref q_78, .ref q_80, .ref q_82, .int 0, .int 0, .int 0, .int 0, .ref q_88, .int 0, .int 0, .int 0, .int 0, .int 0, .ref q_95, .ref q_97, .ref q_99, .ref q_101, .ref q_103, .ref q_105, .ref q_107, .ref q_109, .int 0, .ref q_112, .int 0, .ref q_115, .ref q_117, .int 0])), (q_0, .inl (cB, 65536, .inl (fun _ => 0))), (q_2, .inl (cB, 65536, .inl (fun _ => 0))), (q_14, .inl (cB, 400000, .inl (fun _ => 0))), (q_16, .inl (cI, 400000, .inl (fun _ => 0))), (q_18, .inl (cI, 400000, .inl (fun _ => 0))), (q_20, .inl (cI, 400000, .inl (fun _ => 0))), (q_22, .inl (cI, 400000, .inl (fun _ => 0))), (q_24, .inl (cI, 400000, .inl (fun _ => 0))), (q_27, .inl (cI, 8000, .inl (fun _ => 0))), (q_33, .inl (cB, 9400, .inl (fun _ => 0))), (q_35, .inl (cI, 301, .inl (fun _ => 0))), (q_37, .inl (cI, 301, .inl (fun _ => 0))), (q_41, .inl (cI, 301, .inl (fun _ => 0))), (q_43, .inl (cI, 301, .inl (fun _ => 0))), (q_45, .inl (cI, 301, .inl (fun _ => 0))), (q_47, .inl (cI, 301, .inl (fun _ => 0))), (q_49, .inl (cI, 301, .inl (fun _ => 0))), (q_51, .inl (cI, 301, .inl (fun _ => 0))), (q_53, .inl (cI, 301, .inl (fun _ => 0))), (q_55, .inl (cI, 301, .inl (fun _ => 0))), (q_57, .inl (cI, 301, .inl (fun _ => 0))), (q_59, .inl (cI, 301, .inl (fun _ => 0))), (q_61, .inl (cI, 301, .inl (fun _ => 0))), (q_63, .inl (cI, 301, .inl (fun _ => 0))), (q_65, .inl (cZ, 301, .inl (fun _ => 0))), (q_69, .inl (cI, 3400, .inl (fun _ => 0))), (q_71, .inl (cI, 3400, .inl (fun _ => 0))), (q_74, .inl (cI, 3400, .inl (fun _ => 0))), (q_76, .inl (cI, 3100, .inl (fun _ => 0))), (q_78, .inl (cI, 3100, .inl (fun _ => 0))), (q_80, .inl (cI, 3400, .inl (fun _ => 0))), (q_82, .inl (cI, 3400, .inl (fun _ => 0))), (q_88, .inl (cI, 66000, .inl (fun _ => 0))), (q_95, .inl (cI, 5000, .inl (fun _ => 0))), (q_97, .inl (cI, 301, .inl (fun _ => 0))), (q_99, .inl (cI, 301, .inl (fun _ => 0))), (q_101, .inl (cI, 301, .inl (fun _ => 0))), (q_103, .inl (cI, 301, .inl (fun _ => 0))), (q_105, .inl (cI, 4000, .inl (fun _ => 0))), (q_107, .inl (cZ, 4000, .inl (fun _ => 0))), (q_109, .inl (cZ, 4000, .inl (fun _ => 0))), (q_112, .inl (cI, 9000, .inl (fun _ => 0))), (q_115, .inl (cI, 301, .inl (fun _ => 0))), (q_117, .inl (cI, 301, .inl (fun _ => 0)))] H := hP
  have hD9 : va_D A [(h0, .inr (12, [.ref q_0, .ref q_2, .int 0, .int 0, .int 0, .int 0, .int 0, .int 0, .int 0, .int 0, .int 0, .int 0, .ref q_14, .ref q_16, .ref q_18, .ref q_20, .ref q_22, .ref q_24, .int 32000, .ref q_27, .int 0, .int 0, .int 0, .int 0, .ref q_33, .ref q_35, .ref q_37, .int 0, .int 0, .ref q_41, .ref q_43, .ref q_45, .ref q_47, .ref q_49, .ref q_51, .ref q_53, .ref q_55, .ref q_57, .ref q_59, .ref q_61, .ref q_63, .ref q_65, .int 0, .int 0, .ref q_69, .ref q_71, .int 0, .ref q_74, .ref q_76, .ref q_78, .ref q_80, .ref q_82, .int 0, .int 0, .int 0, .int 0, .ref q_88, .int 0, .int 0, .int 0, .int 0, .int 0, .ref q_95, .ref q_97, .ref q_99, .ref q_101, .ref q_103, .ref q_105, .ref q_107, .ref q_109, .int 0, .ref q_112, .int 0, .ref q_115, .ref q_117, .int 0])), (q_0, .inl (cB, 65536, .inl (fun _ => 0))), (q_2, .inl (cB, 65536, .inl (fun _ => 0))), (q_14, .inl (cB, 400000, .inl (fun _ => 0))), (q_16, .inl (cI, 400000, .inl (fun _ => 0))), (q_18, .inl (cI, 400000, .inl (fun _ => 0))), (q_20, .inl (cI, 400000, .inl (fun _ => 0))), (q_22, .inl (cI, 400000, .inl (fun _ => 0))), (q_24, .inl (cI, 400000, .inl (fun _ => 0))), (q_27, .inl (cI, 8000, .inl (fun _ => 0))), (q_33, .inl (cB, 9400, .inl (fun _ => 0))), (q_35, .inl (cI, 301, .inl (fun _ => 0))), (q_37, .inl (cI, 301, .inl (fun _ => 0))), (q_41, .inl (cI, 301, .inl (fun _ => 0))), (q_43, .inl (cI, 301, .inl (fun _ => 0))), (q_45, .inl (cI, 301, .inl (fun _ => 0))), (q_47, .inl (cI, 301, .inl (fun _ => 0))), (q_49, .inl (cI, 301, .inl (fun _ => 0))), (q_51, .inl (cI, 301, .inl (fun _ => 0))), (q_53, .inl (cI, 301, .inl (fun _ => 0))), (q_55, .inl (cI, 301, .inl (fun _ => 0))), (q_57, .inl (cI, 301, .inl (fun _ => 0))), (q_59, .inl (cI, 301, .inl (fun _ => 0))), (q_61, .inl (cI, 301, .inl (fun _ => 0))), (q_63, .inl (cI, 301, .inl (fun _ => 0))), (q_65, .inl (cZ, 301, .inl (fun _ => 0))), (q_69, .inl (cI, 3400, .inl (fun _ => 0))), (q_71, .inl (cI, 3400, .inl (fun _ => 0))), (q_74, .inl (cI, 3400, .inl (fun _ => 0))), (q_76, .inl (cI, 3100, .inl (fun _ => 0))), (q_78, .inl (cI, 3100, .inl (fun _ => 0))), (q_80, .inl (cI, 3400, .inl (fun _ => 0))), (q_82, .inl (cI, 3400, .inl (fun _ => 0))), (q_88, .inl (cI, 66000, .inl (fun _ => 0))), (q_95, .inl (cI, 5000, .inl (fun _ => 0))), (q_97, .inl (cI, 301, .inl (fun _ => 0))), (q_99, .inl (cI, 301, .inl (fun _ => 0))), (q_101, .inl (cI, 301, .inl (fun _ => 0))), (q_103, .inl (cI, 301, .inl (fun _ => 0))), (q_105, .inl (cI, 4000, .inl (fun _ => 0))), (q_107, .inl (cZ, 4000, .inl (fun _ => 0))), (q_109, .inl (cZ, 4000, .inl (fun _ => 0))), (q_112, .inl (cI, 9000, .inl (fun _ => 0))), (q_115, .inl (cI, 301, .inl (fun _ => 0))), (q_117, .inl (cI, 301, .inl (fun _ => 0)))] := hD
  exact W.vret hx hb hr (fun t ht hW => ⟨⟨(), rfl, trivial, q_0, q_2, q_14, q_16, q_18, q_20, q_22, q_24, q_27, q_33, q_35, q_37, q_41, q_43, q_45, q_47, q_49, q_51, q_53, q_55, q_57, q_59, q_61, q_63, q_65, q_69, q_71, q_74, q_76, q_78, q_80, q_82, q_88, q_95, q_97, q_99, q_101, q_103, q_105, q_107, q_109, q_112, q_115, q_117, by rw [ht]; exact hP9, va_K.moved hW.alike hK, hD9⟩, hS.F ht⟩) hS.2.2 d_Mod_init_553
