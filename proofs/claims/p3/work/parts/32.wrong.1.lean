def wA (q sz : Nat) : Nat → Prop := fun x => x = q ∨ sz ≤ x
def PwZ (dC : Nat → ClassId) (dI : Nat → Nat → Nat) (av : List Value) (sz q : Nat) (ws : va_W) : Array Value → State → Prop := fun a U => Pw dC dI av sz ws [] a U ∧ mZ (wA q sz) U
theorem PwZ_blind {dC : Nat → ClassId} {dI : Nat → Nat → Nat} {av : List Value} {sz q : Nat} {ws : va_W} : FrameBlind (PwZ dC dI av sz q ws) :=
  fun a U g mk h => ⟨Pw_blind a U g mk h.1, h.2.by (U := U.calling g mk a) (State.WarmedH.refl U) (fun _ _ _ => rfl)⟩
theorem wA_of {q sz : Nat} {e : va_E} : ∀ x, va_A [(q, e)] sz x → wA q sz x := by
  rintro x (⟨k, e', h⟩ | h)
  · match k, h with
    | 0, h => exact Or.inl (congrArg Prod.fst (Option.some.inj h)).symm
    | k + 1, h => simp at h
  · exact Or.inr h
theorem wA_to {q sz : Nat} {e : va_E} : ∀ x, wA q sz x → va_A [(q, e)] sz x := by
  rintro x (rfl | h)
  · exact Or.inl ⟨0, e, rfl⟩
  · exact Or.inr h
theorem mZ.nar {A B : Nat → Prop} {U : State} (h : mZ A U) (hAB : ∀ q, B q → A q) : mZ B U := ⟨h.1.narrow hAB, h.2.narrow hAB⟩
theorem PwZ_of {dC : Nat → ClassId} {dI : Nat → Nat → Nat} {av : List Value} {s : State} {H : Heap} {A : Nat → Prop} {q : Nat} {e : va_E} {locs : List Loc} (hP : va_P (dC, dI) classes [(q, e)] H) (hK : va_K (dC, dI) classes [] s) (hD : va_D A [(q, e)]) (hS : va_S A s.heap H locs) (hZ : mZ A s) (hA : ∀ x, s.heap.size ≤ x → A x) :
    ∀ U : State, U.heap = H → s.WarmedH U.vm → PwZ dC dI av H.size q [(q, e)] av.toArray U :=
  fun U hU hW => ⟨Pw_of hP hK hD U hU hW, (hZ.by hW (fun x h1 h2 => by rw [hU]; exact hS.2.1 x h1 h2)).nar (by
    rintro x (rfl | h)
    · exact hD.2 0 _ rfl
    · exact hA x (Nat.le_trans hS.1 h))⟩
set_option maxHeartbeats 4000000 in
set_option maxRecDepth 100000 in
theorem w_Thr (l : Launch) (dC : Nat → ClassId) (dI : Nat → Nat → Nat) (sz q : Nat) (f0 : Value) (f1 : Value) (f2 : Value) (f3 : Value) (f4 : Value) (f5 : Int32) (f6 : Int32) (f7 : Int32) : Met l y_Thr_init_1 w_Thr_init_1 ({ frames := 10, cells := 0, slots := 0, locals := 300 }) (PwZ dC dI [.ref q, .null, .null, .int 0, .int 0] sz q [(q, .inr (13, [f0, f1, f2, f3, f4, .int f5, .int f6, .int f7]))]) (va_Qv (fun _ : Unit => True) (fun _ t => va_P (dC, dI) classes [(q, .inr (13, [.null, .null, .null, .null, f4, .int f5, .int f6, .int f7]))] t.heap ∧ va_K (dC, dI) classes [] t ∧ va_D (va_A [(q, .inr (13, [f0, f1, f2, f3, f4, .int f5, .int f6, .int f7]))] sz) [(q, .inr (13, [.null, .null, .null, .null, f4, .int f5, .int f6, .int f7]))]) (va_A [(q, .inr (13, [f0, f1, f2, f3, f4, .int f5, .int f6, .int f7]))] sz)) 0 0 (va_A [(q, .inr (13, [f0, f1, f2, f3, f4, .int f5, .int f6, .int f7]))] sz) := by
  refine Met.ofW (cc := b_Thr_init_1) (maxL := 5) (ret := none) (by decide) rfl ?_
  intro p e s m args below meth c s₁ B hml hv
  obtain ⟨⟨rfl, hsz, hP, hK, hD0⟩, hNw⟩ := hv
  have hx := B.exec
  have hb := B.bytes
  have hr := B.returns
  have hT : ∀ w ∈ vT, w.before _ s = true := fun w h => atoms_spec (ws := w_Thr_init_1) B.pre w (List.mem_cons_of_mem _ h)
  have hown : s.vm.findClass R_Thr = some m.cls := findClass_of_methodNamed B.named
  have hlocks := B.notSynchronized
  have hin : meth.name = "<init>" := (name_of_methodNamed B.named B.method).1
  subst hsz
  have hD := hD0.self (sz := s.heap.size)
  generalize hAe : va_A [(q, .inr (13, [f0, f1, f2, f3, f4, .int f5, .int f6, .int f7]))] s.heap.size = A at hD ⊢
  have hA : ∀ q : Nat, s.heap.size ≤ q → A q := fun q h => by rw [← hAe]; exact Or.inr h
  have hS : va_S A s.heap s.heap [] := va_S.rf
  have hP : va_P (dC, dI) classes [(q, .inr (13, [f0, f1, f2, f3, f4, .int f5, .int f6, .int f7]))] s.heap := hP
  have hl := lv_entry ([.ref q, .null, .null, .int 0, .int 0]) (n := 5) (Nat.le_of_ble_eq_true rfl)
  rw [lg_entry_eq]
  generalize (lg_sl ([.ref q, .null, .null, .int 0, .int 0]) ++ List.replicate (5 - (lg_sl ([.ref q, .null, .null, .int 0, .int 0])).length) Slot.unset).toArray = ls at hl ⊢
  have hl : lv_has ls 5 [(0, .ref q), (1, .null), (2, .null), (3, .int 0), (4, .int 0)] := hl
  have hZ : mZ A s := hNw.nar (by rw [← hAe]; exact wA_of)
  refine lv_aload_n hx hb d_Thr_init_1_0 rfl (lv_at hl 0 rfl) ?_
  refine W.objInit hx hb hown (hT _ vt_1814) (hT _ vt_1) (hT _ vt_2) rfl (by rw [hml]; exact hl.1) rfl d_Thr_init_1_1 (Nat.le_of_ble_eq_true rfl) (Nat.le_of_ble_eq_true rfl) ?_
  refine W.eq (g2 := F0 m 4 ls []) rfl ?_
  refine lv_aload_n hx hb d_Thr_init_1_4 rfl (lv_at hl 0 rfl) ?_
  refine lv_aload_n hx hb d_Thr_init_1_5 rfl (lv_at hl 0 rfl) ?_
  refine va_put (D := (dC, dI)) (ci := 13) (v := .ref q) (ty := (.object "java/lang/Throwable")) (C := R_Wro) (T := T_Wro) (N := 8) hx hb hT in_Wro ty_Wro tyo_Wro nm_Wro hown hK hP hD hS 0 rfl rfl 0 (by decide) (hT _ vt_1835) (fun _ h9 => h9) rfl (by decide +kernel) rfl rfl (Nat.le_of_ble_eq_true rfl) d_Thr_init_1_6 (fun H locs hP hD hS => ?_)
  have hP : va_P (dC, dI) classes [(q, .inr (13, [.ref q, f1, f2, f3, f4, .int f5, .int f6, .int f7]))] H := hP
  have hD : va_D A [(q, .inr (13, [.ref q, f1, f2, f3, f4, .int f5, .int f6, .int f7]))] := hD
  refine lv_aload_n hx hb d_Thr_init_1_9 rfl (lv_at hl 0 rfl) ?_
  rcases hZ.1 with ht1 | ⟨t1, ht1⟩
  · skip
    refine va_gets hx hb ht1 hS hown (hT _ vt_1815) (fun _ h => h) d_Thr_init_1_10 ?_
    refine va_put (D := (dC, dI)) (ci := 13) (v := .null) (ty := (.array (.object "java/lang/StackTraceElement"))) (C := R_Wro) (T := T_Wro) (N := 8) hx hb hT in_Wro ty_Wro tyo_Wro nm_Wro hown hK hP hD hS 0 rfl rfl 1 (by decide) (hT _ vt_1836) (fun _ h9 => h9) rfl (by decide +kernel) rfl rfl (Nat.le_of_ble_eq_true rfl) d_Thr_init_1_13 (fun H locs hP hD hS => ?_)
    have hP : va_P (dC, dI) classes [(q, .inr (13, [.ref q, .null, f2, f3, f4, .int f5, .int f6, .int f7]))] H := hP
    have hD : va_D A [(q, .inr (13, [.ref q, .null, f2, f3, f4, .int f5, .int f6, .int f7]))] := hD
    refine lv_aload_n hx hb d_Thr_init_1_16 rfl (lv_at hl 0 rfl) ?_
    rcases hZ.2 with ht2 | ⟨t2, ht2⟩
    · skip
      refine va_gets hx hb ht2 hS hown (hT _ vt_1816) (fun _ h => h) d_Thr_init_1_17 ?_
      refine va_put (D := (dC, dI)) (ci := 13) (v := .null) (ty := (.object "java/util/List")) (C := R_Wro) (T := T_Wro) (N := 8) hx hb hT in_Wro ty_Wro tyo_Wro nm_Wro hown hK hP hD hS 0 rfl rfl 2 (by decide) (hT _ vt_1837) (fun _ h9 => h9) rfl (by decide +kernel) rfl rfl (Nat.le_of_ble_eq_true rfl) d_Thr_init_1_20 (fun H locs hP hD hS => ?_)
      have hP : va_P (dC, dI) classes [(q, .inr (13, [.ref q, .null, .null, f3, f4, .int f5, .int f6, .int f7]))] H := hP
      have hD : va_D A [(q, .inr (13, [.ref q, .null, .null, f3, f4, .int f5, .int f6, .int f7]))] := hD
      refine lv_iload hx hb d_Thr_init_1_23 (lv_at hl 4 rfl) ?_
      refine lv_if_eq (tgt := 36) hx hb d_Thr_init_1_25 (by decide) (fun c_1 => ?_) (fun c_1 => absurd (rfl) c_1)
      refine lv_aload_n hx hb d_Thr_init_1_36 rfl (lv_at hl 0 rfl) ?_
      refine lv_null hx hb d_Thr_init_1_37 ?_
      refine va_put (D := (dC, dI)) (ci := 13) (v := .null) (ty := (.array (.object "java/lang/StackTraceElement"))) (C := R_Wro) (T := T_Wro) (N := 8) hx hb hT in_Wro ty_Wro tyo_Wro nm_Wro hown hK hP hD hS 0 rfl rfl 1 (by decide) (hT _ vt_1836) (fun _ h9 => h9) rfl (by decide +kernel) rfl rfl (Nat.le_of_ble_eq_true rfl) d_Thr_init_1_38 (fun H locs hP hD hS => ?_)
      have hP : va_P (dC, dI) classes [(q, .inr (13, [.ref q, .null, .null, f3, f4, .int f5, .int f6, .int f7]))] H := hP
      have hD : va_D A [(q, .inr (13, [.ref q, .null, .null, f3, f4, .int f5, .int f6, .int f7]))] := hD
      refine lv_aload_n hx hb d_Thr_init_1_41 rfl (lv_at hl 0 rfl) ?_
      refine lv_aload_nN hx hb d_Thr_init_1_42 rfl (lv_at hl 1 rfl) ?_
      refine va_put (D := (dC, dI)) (ci := 13) (v := .null) (ty := (.object "java/lang/String")) (C := R_Wro) (T := T_Wro) (N := 8) hx hb hT in_Wro ty_Wro tyo_Wro nm_Wro hown hK hP hD hS 0 rfl rfl 3 (by decide) (hT _ vt_1834) (fun _ h9 => h9) rfl (by decide +kernel) rfl rfl (Nat.le_of_ble_eq_true rfl) d_Thr_init_1_43 (fun H locs hP hD hS => ?_)
      have hP : va_P (dC, dI) classes [(q, .inr (13, [.ref q, .null, .null, .null, f4, .int f5, .int f6, .int f7]))] H := hP
      have hD : va_D A [(q, .inr (13, [.ref q, .null, .null, .null, f4, .int f5, .int f6, .int f7]))] := hD
      refine lv_aload_n hx hb d_Thr_init_1_46 rfl (lv_at hl 0 rfl) ?_
      refine lv_aload_nN hx hb d_Thr_init_1_47 rfl (lv_at hl 2 rfl) ?_
      refine va_put (D := (dC, dI)) (ci := 13) (v := .null) (ty := (.object "java/lang/Throwable")) (C := R_Wro) (T := T_Wro) (N := 8) hx hb hT in_Wro ty_Wro tyo_Wro nm_Wro hown hK hP hD hS 0 rfl rfl 0 (by decide) (hT _ vt_1835) (fun _ h9 => h9) rfl (by decide +kernel) rfl rfl (Nat.le_of_ble_eq_true rfl) d_Thr_init_1_48 (fun H locs hP hD hS => ?_)
      have hP : va_P (dC, dI) classes [(q, .inr (13, [.null, .null, .null, .null, f4, .int f5, .int f6, .int f7]))] H := hP
      have hD : va_D A [(q, .inr (13, [.null, .null, .null, .null, f4, .int f5, .int f6, .int f7]))] := hD
      refine lv_iload_n hx hb d_Thr_init_1_51 rfl (lv_at hl 3 rfl) ?_
      refine lv_if_ne (tgt := 60) hx hb d_Thr_init_1_52 (by decide) (fun c_2 => absurd (rfl) c_2) (fun c_2 => ?_)
      refine lv_aload_n hx hb d_Thr_init_1_55 rfl (lv_at hl 0 rfl) ?_
      refine lv_null hx hb d_Thr_init_1_56 ?_
      refine va_put (D := (dC, dI)) (ci := 13) (v := .null) (ty := (.object "java/util/List")) (C := R_Wro) (T := T_Wro) (N := 8) hx hb hT in_Wro ty_Wro tyo_Wro nm_Wro hown hK hP hD hS 0 rfl rfl 2 (by decide) (hT _ vt_1837) (fun _ h9 => h9) rfl (by decide +kernel) rfl rfl (Nat.le_of_ble_eq_true rfl) d_Thr_init_1_57 (fun H locs hP hD hS => ?_)
      have hP : va_P (dC, dI) classes [(q, .inr (13, [.null, .null, .null, .null, f4, .int f5, .int f6, .int f7]))] H := hP
      have hD : va_D A [(q, .inr (13, [.null, .null, .null, .null, f4, .int f5, .int f6, .int f7]))] := hD
      refine W.widen (k := 0) (n := 0) (Nat.le_of_ble_eq_true rfl) (Nat.le_of_ble_eq_true rfl) ?_
      have hP9 := hP.sub (ws' := [(q, .inr (13, [.null, .null, .null, .null, f4, .int f5, .int f6, .int f7]))]) [0] rfl
      have hD9 := hD.sub (ws' := [(q, .inr (13, [.null, .null, .null, .null, f4, .int f5, .int f6, .int f7]))]) [0] (by decide) rfl
      have hK9 := hK.sub (tys' := []) [] rfl
      exact W.vret hx hb hr (fun t ht hW => ⟨⟨(), rfl, trivial, by rw [ht]; exact hP9, va_K.moved hW.alike hK9, hD9⟩, hS.F ht⟩) hS.2.2 d_Thr_init_1_60
    · skip
      refine va_gets hx hb ht2 hS hown (hT _ vt_1816) (fun _ h => h) d_Thr_init_1_17 ?_
      refine va_put (D := (dC, dI)) (ci := 13) (v := .ref t2) (ty := (.object "java/util/List")) (C := R_Wro) (T := T_Wro) (N := 8) hx hb hT in_Wro ty_Wro tyo_Wro nm_Wro hown hK hP hD hS 0 rfl rfl 2 (by decide) (hT _ vt_1837) (fun _ h9 => h9) rfl (by decide +kernel) rfl rfl (Nat.le_of_ble_eq_true rfl) d_Thr_init_1_20 (fun H locs hP hD hS => ?_)
      have hP : va_P (dC, dI) classes [(q, .inr (13, [.ref q, .null, .ref t2, f3, f4, .int f5, .int f6, .int f7]))] H := hP
      have hD : va_D A [(q, .inr (13, [.ref q, .null, .ref t2, f3, f4, .int f5, .int f6, .int f7]))] := hD
      refine lv_iload hx hb d_Thr_init_1_23 (lv_at hl 4 rfl) ?_
      refine lv_if_eq (tgt := 36) hx hb d_Thr_init_1_25 (by decide) (fun c_1 => ?_) (fun c_1 => absurd (rfl) c_1)
      refine lv_aload_n hx hb d_Thr_init_1_36 rfl (lv_at hl 0 rfl) ?_
      refine lv_null hx hb d_Thr_init_1_37 ?_
      refine va_put (D := (dC, dI)) (ci := 13) (v := .null) (ty := (.array (.object "java/lang/StackTraceElement"))) (C := R_Wro) (T := T_Wro) (N := 8) hx hb hT in_Wro ty_Wro tyo_Wro nm_Wro hown hK hP hD hS 0 rfl rfl 1 (by decide) (hT _ vt_1836) (fun _ h9 => h9) rfl (by decide +kernel) rfl rfl (Nat.le_of_ble_eq_true rfl) d_Thr_init_1_38 (fun H locs hP hD hS => ?_)
      have hP : va_P (dC, dI) classes [(q, .inr (13, [.ref q, .null, .ref t2, f3, f4, .int f5, .int f6, .int f7]))] H := hP
      have hD : va_D A [(q, .inr (13, [.ref q, .null, .ref t2, f3, f4, .int f5, .int f6, .int f7]))] := hD
      refine lv_aload_n hx hb d_Thr_init_1_41 rfl (lv_at hl 0 rfl) ?_
      refine lv_aload_nN hx hb d_Thr_init_1_42 rfl (lv_at hl 1 rfl) ?_
      refine va_put (D := (dC, dI)) (ci := 13) (v := .null) (ty := (.object "java/lang/String")) (C := R_Wro) (T := T_Wro) (N := 8) hx hb hT in_Wro ty_Wro tyo_Wro nm_Wro hown hK hP hD hS 0 rfl rfl 3 (by decide) (hT _ vt_1834) (fun _ h9 => h9) rfl (by decide +kernel) rfl rfl (Nat.le_of_ble_eq_true rfl) d_Thr_init_1_43 (fun H locs hP hD hS => ?_)
      have hP : va_P (dC, dI) classes [(q, .inr (13, [.ref q, .null, .ref t2, .null, f4, .int f5, .int f6, .int f7]))] H := hP
      have hD : va_D A [(q, .inr (13, [.ref q, .null, .ref t2, .null, f4, .int f5, .int f6, .int f7]))] := hD
      refine lv_aload_n hx hb d_Thr_init_1_46 rfl (lv_at hl 0 rfl) ?_
      refine lv_aload_nN hx hb d_Thr_init_1_47 rfl (lv_at hl 2 rfl) ?_
      refine va_put (D := (dC, dI)) (ci := 13) (v := .null) (ty := (.object "java/lang/Throwable")) (C := R_Wro) (T := T_Wro) (N := 8) hx hb hT in_Wro ty_Wro tyo_Wro nm_Wro hown hK hP hD hS 0 rfl rfl 0 (by decide) (hT _ vt_1835) (fun _ h9 => h9) rfl (by decide +kernel) rfl rfl (Nat.le_of_ble_eq_true rfl) d_Thr_init_1_48 (fun H locs hP hD hS => ?_)
      have hP : va_P (dC, dI) classes [(q, .inr (13, [.null, .null, .ref t2, .null, f4, .int f5, .int f6, .int f7]))] H := hP
      have hD : va_D A [(q, .inr (13, [.null, .null, .ref t2, .null, f4, .int f5, .int f6, .int f7]))] := hD
      refine lv_iload_n hx hb d_Thr_init_1_51 rfl (lv_at hl 3 rfl) ?_
      refine lv_if_ne (tgt := 60) hx hb d_Thr_init_1_52 (by decide) (fun c_2 => absurd (rfl) c_2) (fun c_2 => ?_)
      refine lv_aload_n hx hb d_Thr_init_1_55 rfl (lv_at hl 0 rfl) ?_
      refine lv_null hx hb d_Thr_init_1_56 ?_
      refine va_put (D := (dC, dI)) (ci := 13) (v := .null) (ty := (.object "java/util/List")) (C := R_Wro) (T := T_Wro) (N := 8) hx hb hT in_Wro ty_Wro tyo_Wro nm_Wro hown hK hP hD hS 0 rfl rfl 2 (by decide) (hT _ vt_1837) (fun _ h9 => h9) rfl (by decide +kernel) rfl rfl (Nat.le_of_ble_eq_true rfl) d_Thr_init_1_57 (fun H locs hP hD hS => ?_)
      have hP : va_P (dC, dI) classes [(q, .inr (13, [.null, .null, .null, .null, f4, .int f5, .int f6, .int f7]))] H := hP
      have hD : va_D A [(q, .inr (13, [.null, .null, .null, .null, f4, .int f5, .int f6, .int f7]))] := hD
      refine W.widen (k := 0) (n := 0) (Nat.le_of_ble_eq_true rfl) (Nat.le_of_ble_eq_true rfl) ?_
      have hP9 := hP.sub (ws' := [(q, .inr (13, [.null, .null, .null, .null, f4, .int f5, .int f6, .int f7]))]) [0] rfl
      have hD9 := hD.sub (ws' := [(q, .inr (13, [.null, .null, .null, .null, f4, .int f5, .int f6, .int f7]))]) [0] (by decide) rfl
      have hK9 := hK.sub (tys' := []) [] rfl
      exact W.vret hx hb hr (fun t ht hW => ⟨⟨(), rfl, trivial, by rw [ht]; exact hP9, va_K.moved hW.alike hK9, hD9⟩, hS.F ht⟩) hS.2.2 d_Thr_init_1_60
  · skip
    refine va_gets hx hb ht1 hS hown (hT _ vt_1815) (fun _ h => h) d_Thr_init_1_10 ?_
    refine va_put (D := (dC, dI)) (ci := 13) (v := .ref t1) (ty := (.array (.object "java/lang/StackTraceElement"))) (C := R_Wro) (T := T_Wro) (N := 8) hx hb hT in_Wro ty_Wro tyo_Wro nm_Wro hown hK hP hD hS 0 rfl rfl 1 (by decide) (hT _ vt_1836) (fun _ h9 => h9) rfl (by decide +kernel) rfl rfl (Nat.le_of_ble_eq_true rfl) d_Thr_init_1_13 (fun H locs hP hD hS => ?_)
    have hP : va_P (dC, dI) classes [(q, .inr (13, [.ref q, .ref t1, f2, f3, f4, .int f5, .int f6, .int f7]))] H := hP
    have hD : va_D A [(q, .inr (13, [.ref q, .ref t1, f2, f3, f4, .int f5, .int f6, .int f7]))] := hD
    refine lv_aload_n hx hb d_Thr_init_1_16 rfl (lv_at hl 0 rfl) ?_
    rcases hZ.2 with ht2 | ⟨t2, ht2⟩
    · skip
      refine va_gets hx hb ht2 hS hown (hT _ vt_1816) (fun _ h => h) d_Thr_init_1_17 ?_
      refine va_put (D := (dC, dI)) (ci := 13) (v := .null) (ty := (.object "java/util/List")) (C := R_Wro) (T := T_Wro) (N := 8) hx hb hT in_Wro ty_Wro tyo_Wro nm_Wro hown hK hP hD hS 0 rfl rfl 2 (by decide) (hT _ vt_1837) (fun _ h9 => h9) rfl (by decide +kernel) rfl rfl (Nat.le_of_ble_eq_true rfl) d_Thr_init_1_20 (fun H locs hP hD hS => ?_)
      have hP : va_P (dC, dI) classes [(q, .inr (13, [.ref q, .ref t1, .null, f3, f4, .int f5, .int f6, .int f7]))] H := hP
      have hD : va_D A [(q, .inr (13, [.ref q, .ref t1, .null, f3, f4, .int f5, .int f6, .int f7]))] := hD
      refine lv_iload hx hb d_Thr_init_1_23 (lv_at hl 4 rfl) ?_
      refine lv_if_eq (tgt := 36) hx hb d_Thr_init_1_25 (by decide) (fun c_1 => ?_) (fun c_1 => absurd (rfl) c_1)
      refine lv_aload_n hx hb d_Thr_init_1_36 rfl (lv_at hl 0 rfl) ?_
      refine lv_null hx hb d_Thr_init_1_37 ?_
      refine va_put (D := (dC, dI)) (ci := 13) (v := .null) (ty := (.array (.object "java/lang/StackTraceElement"))) (C := R_Wro) (T := T_Wro) (N := 8) hx hb hT in_Wro ty_Wro tyo_Wro nm_Wro hown hK hP hD hS 0 rfl rfl 1 (by decide) (hT _ vt_1836) (fun _ h9 => h9) rfl (by decide +kernel) rfl rfl (Nat.le_of_ble_eq_true rfl) d_Thr_init_1_38 (fun H locs hP hD hS => ?_)
      have hP : va_P (dC, dI) classes [(q, .inr (13, [.ref q, .null, .null, f3, f4, .int f5, .int f6, .int f7]))] H := hP
      have hD : va_D A [(q, .inr (13, [.ref q, .null, .null, f3, f4, .int f5, .int f6, .int f7]))] := hD
      refine lv_aload_n hx hb d_Thr_init_1_41 rfl (lv_at hl 0 rfl) ?_
      refine lv_aload_nN hx hb d_Thr_init_1_42 rfl (lv_at hl 1 rfl) ?_
      refine va_put (D := (dC, dI)) (ci := 13) (v := .null) (ty := (.object "java/lang/String")) (C := R_Wro) (T := T_Wro) (N := 8) hx hb hT in_Wro ty_Wro tyo_Wro nm_Wro hown hK hP hD hS 0 rfl rfl 3 (by decide) (hT _ vt_1834) (fun _ h9 => h9) rfl (by decide +kernel) rfl rfl (Nat.le_of_ble_eq_true rfl) d_Thr_init_1_43 (fun H locs hP hD hS => ?_)
      have hP : va_P (dC, dI) classes [(q, .inr (13, [.ref q, .null, .null, .null, f4, .int f5, .int f6, .int f7]))] H := hP
      have hD : va_D A [(q, .inr (13, [.ref q, .null, .null, .null, f4, .int f5, .int f6, .int f7]))] := hD
      refine lv_aload_n hx hb d_Thr_init_1_46 rfl (lv_at hl 0 rfl) ?_
      refine lv_aload_nN hx hb d_Thr_init_1_47 rfl (lv_at hl 2 rfl) ?_
      refine va_put (D := (dC, dI)) (ci := 13) (v := .null) (ty := (.object "java/lang/Throwable")) (C := R_Wro) (T := T_Wro) (N := 8) hx hb hT in_Wro ty_Wro tyo_Wro nm_Wro hown hK hP hD hS 0 rfl rfl 0 (by decide) (hT _ vt_1835) (fun _ h9 => h9) rfl (by decide +kernel) rfl rfl (Nat.le_of_ble_eq_true rfl) d_Thr_init_1_48 (fun H locs hP hD hS => ?_)
      have hP : va_P (dC, dI) classes [(q, .inr (13, [.null, .null, .null, .null, f4, .int f5, .int f6, .int f7]))] H := hP
      have hD : va_D A [(q, .inr (13, [.null, .null, .null, .null, f4, .int f5, .int f6, .int f7]))] := hD
      refine lv_iload_n hx hb d_Thr_init_1_51 rfl (lv_at hl 3 rfl) ?_
      refine lv_if_ne (tgt := 60) hx hb d_Thr_init_1_52 (by decide) (fun c_2 => absurd (rfl) c_2) (fun c_2 => ?_)
      refine lv_aload_n hx hb d_Thr_init_1_55 rfl (lv_at hl 0 rfl) ?_
      refine lv_null hx hb d_Thr_init_1_56 ?_
      refine va_put (D := (dC, dI)) (ci := 13) (v := .null) (ty := (.object "java/util/List")) (C := R_Wro) (T := T_Wro) (N := 8) hx hb hT in_Wro ty_Wro tyo_Wro nm_Wro hown hK hP hD hS 0 rfl rfl 2 (by decide) (hT _ vt_1837) (fun _ h9 => h9) rfl (by decide +kernel) rfl rfl (Nat.le_of_ble_eq_true rfl) d_Thr_init_1_57 (fun H locs hP hD hS => ?_)
      have hP : va_P (dC, dI) classes [(q, .inr (13, [.null, .null, .null, .null, f4, .int f5, .int f6, .int f7]))] H := hP
      have hD : va_D A [(q, .inr (13, [.null, .null, .null, .null, f4, .int f5, .int f6, .int f7]))] := hD
      refine W.widen (k := 0) (n := 0) (Nat.le_of_ble_eq_true rfl) (Nat.le_of_ble_eq_true rfl) ?_
      have hP9 := hP.sub (ws' := [(q, .inr (13, [.null, .null, .null, .null, f4, .int f5, .int f6, .int f7]))]) [0] rfl
      have hD9 := hD.sub (ws' := [(q, .inr (13, [.null, .null, .null, .null, f4, .int f5, .int f6, .int f7]))]) [0] (by decide) rfl
      have hK9 := hK.sub (tys' := []) [] rfl
      exact W.vret hx hb hr (fun t ht hW => ⟨⟨(), rfl, trivial, by rw [ht]; exact hP9, va_K.moved hW.alike hK9, hD9⟩, hS.F ht⟩) hS.2.2 d_Thr_init_1_60
    · skip
      refine va_gets hx hb ht2 hS hown (hT _ vt_1816) (fun _ h => h) d_Thr_init_1_17 ?_
      refine va_put (D := (dC, dI)) (ci := 13) (v := .ref t2) (ty := (.object "java/util/List")) (C := R_Wro) (T := T_Wro) (N := 8) hx hb hT in_Wro ty_Wro tyo_Wro nm_Wro hown hK hP hD hS 0 rfl rfl 2 (by decide) (hT _ vt_1837) (fun _ h9 => h9) rfl (by decide +kernel) rfl rfl (Nat.le_of_ble_eq_true rfl) d_Thr_init_1_20 (fun H locs hP hD hS => ?_)
      have hP : va_P (dC, dI) classes [(q, .inr (13, [.ref q, .ref t1, .ref t2, f3, f4, .int f5, .int f6, .int f7]))] H := hP
      have hD : va_D A [(q, .inr (13, [.ref q, .ref t1, .ref t2, f3, f4, .int f5, .int f6, .int f7]))] := hD
      refine lv_iload hx hb d_Thr_init_1_23 (lv_at hl 4 rfl) ?_
      refine lv_if_eq (tgt := 36) hx hb d_Thr_init_1_25 (by decide) (fun c_1 => ?_) (fun c_1 => absurd (rfl) c_1)
      refine lv_aload_n hx hb d_Thr_init_1_36 rfl (lv_at hl 0 rfl) ?_
      refine lv_null hx hb d_Thr_init_1_37 ?_
      refine va_put (D := (dC, dI)) (ci := 13) (v := .null) (ty := (.array (.object "java/lang/StackTraceElement"))) (C := R_Wro) (T := T_Wro) (N := 8) hx hb hT in_Wro ty_Wro tyo_Wro nm_Wro hown hK hP hD hS 0 rfl rfl 1 (by decide) (hT _ vt_1836) (fun _ h9 => h9) rfl (by decide +kernel) rfl rfl (Nat.le_of_ble_eq_true rfl) d_Thr_init_1_38 (fun H locs hP hD hS => ?_)
      have hP : va_P (dC, dI) classes [(q, .inr (13, [.ref q, .null, .ref t2, f3, f4, .int f5, .int f6, .int f7]))] H := hP
      have hD : va_D A [(q, .inr (13, [.ref q, .null, .ref t2, f3, f4, .int f5, .int f6, .int f7]))] := hD
      refine lv_aload_n hx hb d_Thr_init_1_41 rfl (lv_at hl 0 rfl) ?_
      refine lv_aload_nN hx hb d_Thr_init_1_42 rfl (lv_at hl 1 rfl) ?_
      refine va_put (D := (dC, dI)) (ci := 13) (v := .null) (ty := (.object "java/lang/String")) (C := R_Wro) (T := T_Wro) (N := 8) hx hb hT in_Wro ty_Wro tyo_Wro nm_Wro hown hK hP hD hS 0 rfl rfl 3 (by decide) (hT _ vt_1834) (fun _ h9 => h9) rfl (by decide +kernel) rfl rfl (Nat.le_of_ble_eq_true rfl) d_Thr_init_1_43 (fun H locs hP hD hS => ?_)
      have hP : va_P (dC, dI) classes [(q, .inr (13, [.ref q, .null, .ref t2, .null, f4, .int f5, .int f6, .int f7]))] H := hP
      have hD : va_D A [(q, .inr (13, [.ref q, .null, .ref t2, .null, f4, .int f5, .int f6, .int f7]))] := hD
      refine lv_aload_n hx hb d_Thr_init_1_46 rfl (lv_at hl 0 rfl) ?_
      refine lv_aload_nN hx hb d_Thr_init_1_47 rfl (lv_at hl 2 rfl) ?_
      refine va_put (D := (dC, dI)) (ci := 13) (v := .null) (ty := (.object "java/lang/Throwable")) (C := R_Wro) (T := T_Wro) (N := 8) hx hb hT in_Wro ty_Wro tyo_Wro nm_Wro hown hK hP hD hS 0 rfl rfl 0 (by decide) (hT _ vt_1835) (fun _ h9 => h9) rfl (by decide +kernel) rfl rfl (Nat.le_of_ble_eq_true rfl) d_Thr_init_1_48 (fun H locs hP hD hS => ?_)
      have hP : va_P (dC, dI) classes [(q, .inr (13, [.null, .null, .ref t2, .null, f4, .int f5, .int f6, .int f7]))] H := hP
      have hD : va_D A [(q, .inr (13, [.null, .null, .ref t2, .null, f4, .int f5, .int f6, .int f7]))] := hD
      refine lv_iload_n hx hb d_Thr_init_1_51 rfl (lv_at hl 3 rfl) ?_
      refine lv_if_ne (tgt := 60) hx hb d_Thr_init_1_52 (by decide) (fun c_2 => absurd (rfl) c_2) (fun c_2 => ?_)
      refine lv_aload_n hx hb d_Thr_init_1_55 rfl (lv_at hl 0 rfl) ?_
      refine lv_null hx hb d_Thr_init_1_56 ?_
      refine va_put (D := (dC, dI)) (ci := 13) (v := .null) (ty := (.object "java/util/List")) (C := R_Wro) (T := T_Wro) (N := 8) hx hb hT in_Wro ty_Wro tyo_Wro nm_Wro hown hK hP hD hS 0 rfl rfl 2 (by decide) (hT _ vt_1837) (fun _ h9 => h9) rfl (by decide +kernel) rfl rfl (Nat.le_of_ble_eq_true rfl) d_Thr_init_1_57 (fun H locs hP hD hS => ?_)
      have hP : va_P (dC, dI) classes [(q, .inr (13, [.null, .null, .null, .null, f4, .int f5, .int f6, .int f7]))] H := hP
      have hD : va_D A [(q, .inr (13, [.null, .null, .null, .null, f4, .int f5, .int f6, .int f7]))] := hD
      refine W.widen (k := 0) (n := 0) (Nat.le_of_ble_eq_true rfl) (Nat.le_of_ble_eq_true rfl) ?_
      have hP9 := hP.sub (ws' := [(q, .inr (13, [.null, .null, .null, .null, f4, .int f5, .int f6, .int f7]))]) [0] rfl
      have hD9 := hD.sub (ws' := [(q, .inr (13, [.null, .null, .null, .null, f4, .int f5, .int f6, .int f7]))]) [0] (by decide) rfl
      have hK9 := hK.sub (tys' := []) [] rfl
      exact W.vret hx hb hr (fun t ht hW => ⟨⟨(), rfl, trivial, by rw [ht]; exact hP9, va_K.moved hW.alike hK9, hD9⟩, hS.F ht⟩) hS.2.2 d_Thr_init_1_60
set_option maxHeartbeats 4000000 in
set_option maxRecDepth 100000 in
theorem w_Exc (l : Launch) (dC : Nat → ClassId) (dI : Nat → Nat → Nat) (sz q : Nat) (f0 : Value) (f1 : Value) (f2 : Value) (f3 : Value) (f4 : Value) (f5 : Int32) (f6 : Int32) (f7 : Int32) : Met l y_Exc_init_1 w_Exc_init_1 ({ frames := 20, cells := 0, slots := 0, locals := 600 }) (PwZ dC dI [.ref q, .null, .null, .int 0, .int 0] sz q [(q, .inr (13, [f0, f1, f2, f3, f4, .int f5, .int f6, .int f7]))]) (va_Qv (fun _ : Unit => True) (fun _ t => va_P (dC, dI) classes [(q, .inr (13, [.null, .null, .null, .null, f4, .int f5, .int f6, .int f7]))] t.heap ∧ va_K (dC, dI) classes [] t ∧ va_D (va_A [(q, .inr (13, [f0, f1, f2, f3, f4, .int f5, .int f6, .int f7]))] sz) [(q, .inr (13, [.null, .null, .null, .null, f4, .int f5, .int f6, .int f7]))]) (va_A [(q, .inr (13, [f0, f1, f2, f3, f4, .int f5, .int f6, .int f7]))] sz)) 0 0 (va_A [(q, .inr (13, [f0, f1, f2, f3, f4, .int f5, .int f6, .int f7]))] sz) := by
  refine Met.ofW (cc := b_Exc_init_1) (maxL := 5) (ret := none) (by decide) rfl ?_
  intro p e s m args below meth c s₁ B hml hv
  obtain ⟨⟨rfl, hsz, hP, hK, hD0⟩, hNw⟩ := hv
  have hx := B.exec
  have hb := B.bytes
  have hr := B.returns
  have hT : ∀ w ∈ vT, w.before _ s = true := fun w h => atoms_spec (ws := w_Exc_init_1) B.pre w (List.mem_cons_of_mem _ h)
  have hown : s.vm.findClass R_Exc = some m.cls := findClass_of_methodNamed B.named
  have hlocks := B.notSynchronized
  have hin : meth.name = "<init>" := (name_of_methodNamed B.named B.method).1
  subst hsz
  have hD := hD0.self (sz := s.heap.size)
  generalize hAe : va_A [(q, .inr (13, [f0, f1, f2, f3, f4, .int f5, .int f6, .int f7]))] s.heap.size = A at hD ⊢
  have hA : ∀ q : Nat, s.heap.size ≤ q → A q := fun q h => by rw [← hAe]; exact Or.inr h
  have hS : va_S A s.heap s.heap [] := va_S.rf
  have hP : va_P (dC, dI) classes [(q, .inr (13, [f0, f1, f2, f3, f4, .int f5, .int f6, .int f7]))] s.heap := hP
  have hl := lv_entry ([.ref q, .null, .null, .int 0, .int 0]) (n := 5) (Nat.le_of_ble_eq_true rfl)
  rw [lg_entry_eq]
  generalize (lg_sl ([.ref q, .null, .null, .int 0, .int 0]) ++ List.replicate (5 - (lg_sl ([.ref q, .null, .null, .int 0, .int 0])).length) Slot.unset).toArray = ls at hl ⊢
  have hl : lv_has ls 5 [(0, .ref q), (1, .null), (2, .null), (3, .int 0), (4, .int 0)] := hl
  have hZ : mZ A s := hNw.nar (by rw [← hAe]; exact wA_of)
  refine lv_aload_n hx hb d_Exc_init_1_0 rfl (lv_at hl 0 rfl) ?_
  refine lv_aload_nN hx hb d_Exc_init_1_1 rfl (lv_at hl 1 rfl) ?_
  refine lv_aload_nN hx hb d_Exc_init_1_2 rfl (lv_at hl 2 rfl) ?_
  refine lv_iload_n hx hb d_Exc_init_1_3 rfl (lv_at hl 3 rfl) ?_
  refine lv_iload hx hb d_Exc_init_1_4 (lv_at hl 4 rfl) ?_
  have hFc := va_free (wc := [(q, .inr (13, [f0, f1, f2, f3, f4, .int f5, .int f6, .int f7]))]) hD hS hA [0] rfl
  refine va_callv (va_runI (As := [.null, .null, .int 0, .int 0]) (rest := []) ⟨hx, hb, hml, hown, hT⟩ (w_Thr l dC dI s.heap.size q f0 f1 f2 f3 f4 f5 f6 f7) (cwI 4 hT (gI vt_1893) rfl rfl rfl (hT _ vt_1758) (hT _ vt_1891) (hT _ vt_1892) rfl (by decide +kernel) ⟨Nat.le_of_ble_eq_true rfl, Nat.le_of_ble_eq_true rfl⟩) ⟨PwZ_blind, PwZ_of hP hK hD hS hZ hA⟩ rfl rfl hl.1 rfl (lv_room (Nat.le_of_ble_eq_true rfl)) d_Exc_init_1_6 ⟨Nat.le_of_ble_eq_true rfl, Nat.le_of_ble_eq_true rfl⟩) hS (fun q _ h => hFc q h) hFc (fun u t H1 locs ht hvm hw hB hz1 hk1 hS => ?_)
  obtain ⟨hP1, -, hD1⟩ := hB
  rw [ht] at hP1
  have hD : va_D A [(q, .inr (13, [.null, .null, .null, .null, f4, .int f5, .int f6, .int f7]))] := hD1.weaken (fun k q0 h1 h2 => hFc _ h2)
  generalize H1 = H at hP1 hS ⊢
  have hP := hP1
  have hP : va_P (dC, dI) classes [(q, .inr (13, [.null, .null, .null, .null, f4, .int f5, .int f6, .int f7]))] H := hP
  have hD : va_D A [(q, .inr (13, [.null, .null, .null, .null, f4, .int f5, .int f6, .int f7]))] := hD
  refine W.widen (k := 0) (n := 0) (Nat.le_of_ble_eq_true rfl) (Nat.le_of_ble_eq_true rfl) ?_
  have hP9 := hP.sub (ws' := [(q, .inr (13, [.null, .null, .null, .null, f4, .int f5, .int f6, .int f7]))]) [0] rfl
  have hD9 := hD.sub (ws' := [(q, .inr (13, [.null, .null, .null, .null, f4, .int f5, .int f6, .int f7]))]) [0] (by decide) rfl
  have hK9 := hK.sub (tys' := []) [] rfl
  exact W.vret hx hb hr (fun t ht hW => ⟨⟨(), rfl, trivial, by rw [ht]; exact hP9, va_K.moved hW.alike hK9, hD9⟩, hS.F ht⟩) hS.2.2 d_Exc_init_1_9
set_option maxHeartbeats 4000000 in
set_option maxRecDepth 100000 in
theorem w_Rte (l : Launch) (dC : Nat → ClassId) (dI : Nat → Nat → Nat) (sz q : Nat) (f0 : Value) (f1 : Value) (f2 : Value) (f3 : Value) (f4 : Value) (f5 : Int32) (f6 : Int32) (f7 : Int32) : Met l y_Rte_init_1 w_Rte_init_1 ({ frames := 30, cells := 0, slots := 0, locals := 900 }) (PwZ dC dI [.ref q, .null, .null, .int 0, .int 0] sz q [(q, .inr (13, [f0, f1, f2, f3, f4, .int f5, .int f6, .int f7]))]) (va_Qv (fun _ : Unit => True) (fun _ t => va_P (dC, dI) classes [(q, .inr (13, [.null, .null, .null, .null, f4, .int f5, .int f6, .int f7]))] t.heap ∧ va_K (dC, dI) classes [] t ∧ va_D (va_A [(q, .inr (13, [f0, f1, f2, f3, f4, .int f5, .int f6, .int f7]))] sz) [(q, .inr (13, [.null, .null, .null, .null, f4, .int f5, .int f6, .int f7]))]) (va_A [(q, .inr (13, [f0, f1, f2, f3, f4, .int f5, .int f6, .int f7]))] sz)) 0 0 (va_A [(q, .inr (13, [f0, f1, f2, f3, f4, .int f5, .int f6, .int f7]))] sz) := by
  refine Met.ofW (cc := b_Rte_init_1) (maxL := 5) (ret := none) (by decide) rfl ?_
  intro p e s m args below meth c s₁ B hml hv
  obtain ⟨⟨rfl, hsz, hP, hK, hD0⟩, hNw⟩ := hv
  have hx := B.exec
  have hb := B.bytes
  have hr := B.returns
  have hT : ∀ w ∈ vT, w.before _ s = true := fun w h => atoms_spec (ws := w_Rte_init_1) B.pre w (List.mem_cons_of_mem _ h)
  have hown : s.vm.findClass R_Rte = some m.cls := findClass_of_methodNamed B.named
  have hlocks := B.notSynchronized
  have hin : meth.name = "<init>" := (name_of_methodNamed B.named B.method).1
  subst hsz
  have hD := hD0.self (sz := s.heap.size)
  generalize hAe : va_A [(q, .inr (13, [f0, f1, f2, f3, f4, .int f5, .int f6, .int f7]))] s.heap.size = A at hD ⊢
  have hA : ∀ q : Nat, s.heap.size ≤ q → A q := fun q h => by rw [← hAe]; exact Or.inr h
  have hS : va_S A s.heap s.heap [] := va_S.rf
  have hP : va_P (dC, dI) classes [(q, .inr (13, [f0, f1, f2, f3, f4, .int f5, .int f6, .int f7]))] s.heap := hP
  have hl := lv_entry ([.ref q, .null, .null, .int 0, .int 0]) (n := 5) (Nat.le_of_ble_eq_true rfl)
  rw [lg_entry_eq]
  generalize (lg_sl ([.ref q, .null, .null, .int 0, .int 0]) ++ List.replicate (5 - (lg_sl ([.ref q, .null, .null, .int 0, .int 0])).length) Slot.unset).toArray = ls at hl ⊢
  have hl : lv_has ls 5 [(0, .ref q), (1, .null), (2, .null), (3, .int 0), (4, .int 0)] := hl
  have hZ : mZ A s := hNw.nar (by rw [← hAe]; exact wA_of)
  refine lv_aload_n hx hb d_Rte_init_1_0 rfl (lv_at hl 0 rfl) ?_
  refine lv_aload_nN hx hb d_Rte_init_1_1 rfl (lv_at hl 1 rfl) ?_
  refine lv_aload_nN hx hb d_Rte_init_1_2 rfl (lv_at hl 2 rfl) ?_
  refine lv_iload_n hx hb d_Rte_init_1_3 rfl (lv_at hl 3 rfl) ?_
  refine lv_iload hx hb d_Rte_init_1_4 (lv_at hl 4 rfl) ?_
  have hFc := va_free (wc := [(q, .inr (13, [f0, f1, f2, f3, f4, .int f5, .int f6, .int f7]))]) hD hS hA [0] rfl
  refine va_callv (va_runI (As := [.null, .null, .int 0, .int 0]) (rest := []) ⟨hx, hb, hml, hown, hT⟩ (w_Exc l dC dI s.heap.size q f0 f1 f2 f3 f4 f5 f6 f7) (cwI 4 hT (gI vt_1890) rfl rfl rfl (hT _ vt_1759) (hT _ vt_1888) (hT _ vt_1889) rfl (by decide +kernel) ⟨Nat.le_of_ble_eq_true rfl, Nat.le_of_ble_eq_true rfl⟩) ⟨PwZ_blind, PwZ_of hP hK hD hS hZ hA⟩ rfl rfl hl.1 rfl (lv_room (Nat.le_of_ble_eq_true rfl)) d_Rte_init_1_6 ⟨Nat.le_of_ble_eq_true rfl, Nat.le_of_ble_eq_true rfl⟩) hS (fun q _ h => hFc q h) hFc (fun u t H1 locs ht hvm hw hB hz1 hk1 hS => ?_)
  obtain ⟨hP1, -, hD1⟩ := hB
  rw [ht] at hP1
  have hD : va_D A [(q, .inr (13, [.null, .null, .null, .null, f4, .int f5, .int f6, .int f7]))] := hD1.weaken (fun k q0 h1 h2 => hFc _ h2)
  generalize H1 = H at hP1 hS ⊢
  have hP := hP1
  have hP : va_P (dC, dI) classes [(q, .inr (13, [.null, .null, .null, .null, f4, .int f5, .int f6, .int f7]))] H := hP
  have hD : va_D A [(q, .inr (13, [.null, .null, .null, .null, f4, .int f5, .int f6, .int f7]))] := hD
  refine W.widen (k := 0) (n := 0) (Nat.le_of_ble_eq_true rfl) (Nat.le_of_ble_eq_true rfl) ?_
  have hP9 := hP.sub (ws' := [(q, .inr (13, [.null, .null, .null, .null, f4, .int f5, .int f6, .int f7]))]) [0] rfl
  have hD9 := hD.sub (ws' := [(q, .inr (13, [.null, .null, .null, .null, f4, .int f5, .int f6, .int f7]))]) [0] (by decide) rfl
  have hK9 := hK.sub (tys' := []) [] rfl
  exact W.vret hx hb hr (fun t ht hW => ⟨⟨(), rfl, trivial, by rw [ht]; exact hP9, va_K.moved hW.alike hK9, hD9⟩, hS.F ht⟩) hS.2.2 d_Rte_init_1_9
set_option maxHeartbeats 4000000 in
set_option maxRecDepth 100000 in
theorem w_Wro (l : Launch) (dC : Nat → ClassId) (dI : Nat → Nat → Nat) (sz q : Nat) (f0 : Value) (f1 : Value) (f2 : Value) (f3 : Value) (f4 : Value) (f5 : Int32) (f6 : Int32) (f7 : Int32) (k pl : Int32) : Met l y_Wro_init w_Wro_init ({ frames := 40, cells := 0, slots := 0, locals := 1200 }) (PwZ dC dI [.ref q, .int k, .int pl] sz q [(q, .inr (13, [f0, f1, f2, f3, f4, .int f5, .int f6, .int f7]))]) (va_Qv (fun _ : Unit => True) (fun _ t => va_P (dC, dI) classes [(q, .inr (13, [.null, .null, .null, .null, f4, .int k, .int pl, .int f7]))] t.heap ∧ va_K (dC, dI) classes [] t ∧ va_D (va_A [(q, .inr (13, [f0, f1, f2, f3, f4, .int f5, .int f6, .int f7]))] sz) [(q, .inr (13, [.null, .null, .null, .null, f4, .int k, .int pl, .int f7]))]) (va_A [(q, .inr (13, [f0, f1, f2, f3, f4, .int f5, .int f6, .int f7]))] sz)) 0 0 (va_A [(q, .inr (13, [f0, f1, f2, f3, f4, .int f5, .int f6, .int f7]))] sz) := by
  refine Met.ofW (cc := b_Wro_init) (maxL := 3) (ret := none) (by decide) rfl ?_
  intro p e s m args below meth c s₁ B hml hv
  obtain ⟨⟨rfl, hsz, hP, hK, hD0⟩, hNw⟩ := hv
  have hx := B.exec
  have hb := B.bytes
  have hr := B.returns
  have hT : ∀ w ∈ vT, w.before _ s = true := fun w h => atoms_spec (ws := w_Wro_init) B.pre w (List.mem_cons_of_mem _ h)
  have hown : s.vm.findClass R_Wro = some m.cls := findClass_of_methodNamed B.named
  have hlocks := B.notSynchronized
  have hin : meth.name = "<init>" := (name_of_methodNamed B.named B.method).1
  subst hsz
  have hD := hD0.self (sz := s.heap.size)
  generalize hAe : va_A [(q, .inr (13, [f0, f1, f2, f3, f4, .int f5, .int f6, .int f7]))] s.heap.size = A at hD ⊢
  have hA : ∀ q : Nat, s.heap.size ≤ q → A q := fun q h => by rw [← hAe]; exact Or.inr h
  have hS : va_S A s.heap s.heap [] := va_S.rf
  have hP : va_P (dC, dI) classes [(q, .inr (13, [f0, f1, f2, f3, f4, .int f5, .int f6, .int f7]))] s.heap := hP
  have hl := lv_entry ([.ref q, .int k, .int pl]) (n := 3) (Nat.le_of_ble_eq_true rfl)
  rw [lg_entry_eq]
  generalize (lg_sl ([.ref q, .int k, .int pl]) ++ List.replicate (3 - (lg_sl ([.ref q, .int k, .int pl])).length) Slot.unset).toArray = ls at hl ⊢
  have hl : lv_has ls 3 [(0, .ref q), (1, .int k), (2, .int pl)] := hl
  have hZ : mZ A s := hNw.nar (by rw [← hAe]; exact wA_of)
  refine lv_aload_n hx hb d_Wro_init_0 rfl (lv_at hl 0 rfl) ?_
  refine lv_null hx hb d_Wro_init_1 ?_
  refine lv_null hx hb d_Wro_init_2 ?_
  refine lv_iconst (v := 0) hx hb d_Wro_init_3 (by decide) ?_
  refine lv_iconst (v := 0) hx hb d_Wro_init_4 (by decide) ?_
  have hFc := va_free (wc := [(q, .inr (13, [f0, f1, f2, f3, f4, .int f5, .int f6, .int f7]))]) hD hS hA [0] rfl
  refine va_callv (va_runI (As := [.null, .null, .int 0, .int 0]) (rest := []) ⟨hx, hb, hml, hown, hT⟩ (w_Rte l dC dI s.heap.size q f0 f1 f2 f3 f4 f5 f6 f7) (cwI 4 hT (gI vt_1469) rfl rfl rfl (hT _ vt_1467) (hT _ vt_1466) (hT _ vt_1468) rfl (by decide +kernel) ⟨Nat.le_of_ble_eq_true rfl, Nat.le_of_ble_eq_true rfl⟩) ⟨PwZ_blind, PwZ_of hP hK hD hS hZ hA⟩ rfl rfl hl.1 rfl (lv_room (Nat.le_of_ble_eq_true rfl)) d_Wro_init_5 ⟨Nat.le_of_ble_eq_true rfl, Nat.le_of_ble_eq_true rfl⟩) hS (fun q _ h => hFc q h) hFc (fun u t H1 locs ht hvm hw hB hz1 hk1 hS => ?_)
  obtain ⟨hP1, -, hD1⟩ := hB
  rw [ht] at hP1
  have hD : va_D A [(q, .inr (13, [.null, .null, .null, .null, f4, .int f5, .int f6, .int f7]))] := hD1.weaken (fun k q0 h1 h2 => hFc _ h2)
  generalize H1 = H at hP1 hS ⊢
  have hP := hP1
  have hP : va_P (dC, dI) classes [(q, .inr (13, [.null, .null, .null, .null, f4, .int f5, .int f6, .int f7]))] H := hP
  have hD : va_D A [(q, .inr (13, [.null, .null, .null, .null, f4, .int f5, .int f6, .int f7]))] := hD
  refine lv_aload_n hx hb d_Wro_init_8 rfl (lv_at hl 0 rfl) ?_
  refine lv_iload_n hx hb d_Wro_init_9 rfl (lv_at hl 1 rfl) ?_
  refine va_putF (D := (dC, dI)) (ci := 13) (v := .int k) (ty := .int) (C := R_Wro) (T := T_Wro) (N := 8) hx hb hT in_Wro ty_Wro tyo_Wro nm_Wro hown hK hP hD hS 0 rfl rfl 5 (by decide) (hT _ vt_1470) (fun _ h9 => h9) rfl hin rfl (by decide +kernel) rfl rfl (Nat.le_of_ble_eq_true rfl) d_Wro_init_10 (fun H locs hP hD hS => ?_)
  have hP : va_P (dC, dI) classes [(q, .inr (13, [.null, .null, .null, .null, f4, .int k, .int f6, .int f7]))] H := hP
  have hD : va_D A [(q, .inr (13, [.null, .null, .null, .null, f4, .int k, .int f6, .int f7]))] := hD
  refine lv_aload_n hx hb d_Wro_init_13 rfl (lv_at hl 0 rfl) ?_
  refine lv_iload_n hx hb d_Wro_init_14 rfl (lv_at hl 2 rfl) ?_
  refine va_putF (D := (dC, dI)) (ci := 13) (v := .int pl) (ty := .int) (C := R_Wro) (T := T_Wro) (N := 8) hx hb hT in_Wro ty_Wro tyo_Wro nm_Wro hown hK hP hD hS 0 rfl rfl 6 (by decide) (hT _ vt_1471) (fun _ h9 => h9) rfl hin rfl (by decide +kernel) rfl rfl (Nat.le_of_ble_eq_true rfl) d_Wro_init_15 (fun H locs hP hD hS => ?_)
  have hP : va_P (dC, dI) classes [(q, .inr (13, [.null, .null, .null, .null, f4, .int k, .int pl, .int f7]))] H := hP
  have hD : va_D A [(q, .inr (13, [.null, .null, .null, .null, f4, .int k, .int pl, .int f7]))] := hD
  refine W.widen (k := 0) (n := 0) (Nat.le_of_ble_eq_true rfl) (Nat.le_of_ble_eq_true rfl) ?_
  have hP9 := hP.sub (ws' := [(q, .inr (13, [.null, .null, .null, .null, f4, .int k, .int pl, .int f7]))]) [0] rfl
  have hD9 := hD.sub (ws' := [(q, .inr (13, [.null, .null, .null, .null, f4, .int k, .int pl, .int f7]))]) [0] (by decide) rfl
  have hK9 := hK.sub (tys' := []) [] rfl
  exact W.vret hx hb hr (fun t ht hW => ⟨⟨(), rfl, trivial, by rw [ht]; exact hP9, va_K.moved hW.alike hK9, hD9⟩, hS.F ht⟩) hS.2.2 d_Wro_init_18
/-- a Wrong is made: where it lies -/
def mN (g : mG) (A : Nat → Prop) (s : State) (α : mS) (H : Heap) (locs : List Loc) (q : Nat) (fs : List Value) : Prop := va_P (kD g.1) classes ((q, .inr (13, fs)) :: mW g α) H ∧ va_D A ((q, .inr (13, fs)) :: mW g α) ∧ va_S A s.heap H locs
section MWRO
variable {p : Program} {l : Launch} {e : Env} {R : Room} {s : State} {m : MethodId} {args : Array Value} {below : List Frame} {meth : Method} {c : Code} {H : Heap} {locs : List Loc} {cells slots : Nat} {Q : State → Prop} {g : mG} {A : Nat → Prop} {α : mS} {cc : ByteArray} {nL index pc : Nat} {own : String} {ls : Array Slot} {rest : List Value}
variable {x : kO × mS} {fr0 lo0 q : Nat} {fs : List Value}
theorem mN.i (h : mN g A s α H locs q fs) : mI g A s α H locs := ⟨⟨h.1.sub [1, 2, 3, 4, 5, 6, 7, 8, 9, 10, 11, 12, 13, 14, 15, 16, 17, 18, 19, 20, 21, 22, 23, 24, 25, 26, 27, 28, 29, 30, 31, 32, 33, 34, 35, 36, 37, 38, 39, 40, 41, 42, 43, 44, 45] rfl, h.2.1.sub [1, 2, 3, 4, 5, 6, 7, 8, 9, 10, 11, 12, 13, 14, 15, 16, 17, 18, 19, 20, 21, 22, 23, 24, 25, 26, 27, 28, 29, 30, 31, 32, 33, 34, 35, 36, 37, 38, 39, 40, 41, 42, 43, 44, 45] (by decide) rfl⟩, h.2.2⟩
theorem mg_new (S : CallFix p m c cc nL s args vT own) (E : mE g A s) (hI : mI g A s α H locs) (hcl : Cond.classLink own index "FamilyKernelModel$Wrong" ∈ vT) (hdg : decode cc pc = .ok (.new index, 3))
    (kk : ∀ (q : Nat) (H1 : Heap), mN g A s α H1 locs q [.null, .null, .null, .null, .null, .int 0, .int 0, .int 0] → W p l e (mR fr0 lo0) s m args below meth c H1 locs 1 8 Q (F0 m (pc + 3) ls (.ref q :: rest))) : W p l e (mR fr0 lo0) s m args below meth c H locs 0 0 Q (F0 m pc ls rest) :=
  va_new (ci := 13) (fs := [.null, .null, .null, .null, .null, .int 0, .int 0, .int 0]) (C := R_Wro) (T := T_Wro) (N := 8) S.1 S.2.1 S.2.2.2.2 in_Wro ty_Wro tyo_Wro S.2.2.2.1 (S.2.2.2.2 _ hcl) (S.2.2.2.2 _ vt_1459) (S.2.2.2.2 _ vt_1458) E.1 hI.1.1 hI.1.2 hI.2 E.2.1 rfl df_Wro (Nat.le_refl _) (Nat.le_refl _) hdg (fun q H1 hP hD hS => kk q H1 ⟨hP.sub [45, 0, 1, 2, 3, 4, 5, 6, 7, 8, 9, 10, 11, 12, 13, 14, 15, 16, 17, 18, 19, 20, 21, 22, 23, 24, 25, 26, 27, 28, 29, 30, 31, 32, 33, 34, 35, 36, 37, 38, 39, 40, 41, 42, 43, 44] rfl, hD.sub [45, 0, 1, 2, 3, 4, 5, 6, 7, 8, 9, 10, 11, 12, 13, 14, 15, 16, 17, 18, 19, 20, 21, 22, 23, 24, 25, 26, 27, 28, 29, 30, 31, 32, 33, 34, 35, 36, 37, 38, 39, 40, 41, 42, 43, 44] (by decide) rfl, hS⟩)
theorem mg_init {k pl : Int32} (S : CallFix p m c cc nL s args vT own) (E : mE g A s) (hN : mN g A s α H locs q [.null, .null, .null, .null, .null, .int 0, .int 0, .int 0]) (hml : Cond.methodLink own index y_Wro_init ∈ vT) (hsz : ls.size = nL) (hfr : 41 ≤ fr0 ∧ 1222 ≤ lo0) (hW : (rest.map fun v => v.category).sum ≤ 8) (hdg : decode cc pc = .ok (.invokespecial index, 3))
    (kk : ∀ (H1 : Heap) (locs1 : List Loc), mN g A s α H1 locs1 q [.null, .null, .null, .null, .null, .int k, .int pl, .int 0] → W p l e (mR fr0 lo0) s m args below meth c H1 locs1 1 8 Q (F0 m (pc + 3) ls rest)) : W p l e (mR fr0 lo0) s m args below meth c H locs 1 8 Q (F0 m pc ls (.int pl :: .int k :: .ref q :: rest)) := by
  obtain ⟨hP, hD, hS⟩ := hN
  have hP0 := hP.sub (ws' := [(q, .inr (13, [.null, .null, .null, .null, .null, .int 0, .int 0, .int 0]))]) [0] rfl
  have hD0 := hD.sub (ws' := [(q, .inr (13, [.null, .null, .null, .null, .null, .int 0, .int 0, .int 0]))]) [0] (by decide) rfl
  have hFc := va_free (wc := [(q, .inr (13, [.null, .null, .null, .null, .null, .int 0, .int 0, .int 0]))]) hD hS E.2.1 [0] rfl
  refine va_callv (va_runI (As := [.int k, .int pl]) (rest := rest) S (w_Wro l g.1.1 g.1.2.1 H.size q (.null) (.null) (.null) (.null) (.null) 0 0 0 k pl) (cwI 2 S.2.2.2.2 (gI vt_1462) rfl rfl rfl (S.2.2.2.2 _ vt_1458) (S.2.2.2.2 _ hml) (S.2.2.2.2 _ vt_1461) rfl (by decide +kernel) ⟨by show 40 + 1 ≤ fr0; omega, by show 8 + (3 + 11) + 1200 ≤ lo0; omega⟩) ⟨PwZ_blind, PwZ_of hP0 (E.1.sub [] rfl) hD0 hS E.2.2.1 E.2.1⟩ rfl rfl hsz rfl (lv_room hW) hdg ⟨Nat.le_refl _, Nat.le_refl _⟩) hS (fun q _ h => hFc q h) hFc (fun u t H1 locs1 ht hvm hw hB hz1 hk1 hS1 => kk H1 locs1 ?_)
  obtain ⟨hP1, -, hD1⟩ := hB
  rw [ht] at hP1
  refine ⟨fun k1 q1 h => ?_, hD.set (p := 0) rfl, hS1⟩
  match k1, h with
  | 0, h => exact hP1 0 q1 h
  | k1 + 1, h =>
    have h9 := hP (k1 + 1) q1 h
    refine h9.kept (hk1 _ h9.lt ?_)
    rintro (⟨j, e0, hj⟩ | hj)
    · match j, hj with
      | 0, hj =>
        have e1 : q = q1.1 := congrArg Prod.fst (Option.some.inj hj)
        exact absurd (hD.1 0 (k1 + 1) _ q1 rfl h e1) (by omega)
      | j + 1, hj => simp at hj
    · have := h9.lt
      omega
theorem mg_athrow {k pl : Int32} (S : CallFix p m c cc nL s args vT own) (hlocks : meth.locks = false) (hno : c.exceptionTable.isEmpty = true) (E : mE g A s) (hN : mN g A s α H locs q [.null, .null, .null, .null, .null, .int k, .int pl, .int 0]) (h : some ((none, mTh α k pl) : kO × mS) = some x) (hdg : decode cc pc = .ok (.athrow, 1)) :
    W p l e R s m args below meth c H locs 1 8 (vEQ below (mQ g A (mQr x)) args s A) (F0 m pc ls (.ref q :: rest)) := by
  cases h
  intro T hT X
  have hout : ∀ z ∈ c.exceptionTable.toList, covers z (F0 m pc ls (.ref q :: rest)).pc = false := by
    intro z h
    have h0 : c.exceptionTable.toList = [] := by simpa using hno
    rw [h0] at h
    cases h
  obtain ⟨w1, w2, w3, w4, w5⟩ := X.athrowLeaves S.1 (g := F0 m pc ls (.ref q :: rest)) rfl rfl rfl hout rfl (by rw [S.2.1]; exact hdg) hlocks
  refine ⟨T.setFrames (.throwing q :: below), w1, .threw q, locs, 1, 8, w2, w3, w4, w5, hN.2.2.2.2, mTh α k pl, ⟨rfl, q, rfl⟩, ⟨?_, ?_⟩, ?_, rfl, rfl⟩
  · have : (T.setFrames (.throwing q :: below)).heap = H := hT
    rw [this]; exact hN.i.1
  · exact E.at hN.2.2 (U := T.setFrames (.throwing q :: below)) hT w4
  · intro x1 e1
    cases e1
    have : (T.setFrames (.throwing q :: below)).heap = H := hT
    exact ⟨by rw [this]; exact hN.1, hN.2.1⟩
end MWRO
