set_option maxHeartbeats 4000000 in
set_option maxRecDepth 100000 in
theorem mod_feed_loop {p : Program} {l : Launch} {e : Env} {R : Room} {s : State} {m : MethodId} {args : Array Value} {below : List Frame} {meth : Method} {c : Code} {dC : Nat → ClassId} {dI : Nat → Nat → Nat} {A : Nat → Prop} {cB : ClassId} {h0 tp : Nat} {p1 p2 p3 p4 p5 : Int32} (hx : p.tables.exec = Jvm.exec) (hb : c.code = b_Mod_feed) (hT : ∀ w ∈ vT, w.before args s = true) (hown : s.vm.findClass R_Mod = some m.cls) (hK : va_K (dC, dI) classes [(cB, .byte)] s) {Q : State → Prop}
    (hend : ∀ (fs : List Value) (f : Nat → Int32) (H : Heap) (locs : List Loc) (ls : Array Slot), fs.length = 76 → fs[2]? = some (.int (nI 20)) → fs[4]? = some (.int 0) → va_P (dC, dI) classes [(h0, .inr (12, fs)), (tp, .inl (cB, 65536, .inl f))] H → va_D A [(h0, .inr (12, fs)), (tp, .inl (cB, 65536, .inl f))] → va_S A s.heap H locs → lv_has ls 8 [(0, .ref h0)] → W p l e R s m args below meth c H locs 0 0 Q (F0 m 123 ls [])) :
    ∀ (n i : Nat), i + n = 20 → ∀ (fs : List Value) (f : Nat → Int32) (H : Heap) (locs : List Loc) (ls : Array Slot), fs.length = 76 → fs[0]? = some (.ref tp) → fs[2]? = some (.int (nI i)) → fs[4]? = some (.int 0) → va_P (dC, dI) classes [(h0, .inr (12, fs)), (tp, .inl (cB, 65536, .inl f))] H → va_D A [(h0, .inr (12, fs)), (tp, .inl (cB, 65536, .inl f))] → va_S A s.heap H locs → lv_has ls 8 [(6, .int (nI i)), (0, .ref h0), (1, .int p1), (2, .int p2), (3, .int p3), (4, .int p4), (5, .int p5)] → W p l e R s m args below meth c H locs 0 0 Q (F0 m 32 ls []) := by
  intro n
  induction n with
  | zero =>
    intro i hi fs f H locs ls hl0 ht hs hth hP hD hS hl
    have hi : i = 20 := by omega
    subst hi
    refine lv_iload hx hb d_Mod_feed_32 (lv_at hl 0 rfl) ?_
    refine lv_bipush (v := 20) hx hb d_Mod_feed_34 (by decide) ?_
    refine lv_icmp_ge (tgt := 123) hx hb d_Mod_feed_36 (by decide) (fun c_1 => ?_) (fun c_1 => absurd (by decide) c_1)
    exact hend fs f H locs ls hl0 hs hth hP hD hS (lv_sub hl [1] rfl)
  | succ n ih =>
    intro i hi fs f H locs ls hl0 ht hs hth hP hD hS hl
    have hi20 : i < 20 := by omega
    have key : ∀ v : Int32, W p l e R s m args below meth c H locs 0 0 Q (F0 m 85 ls [.int v]) := by
      intro v
      refine lv_istore (lv' := [(7, .int v), (6, .int (nI i)), (0, .ref h0), (1, .int p1), (2, .int p2), (3, .int p3), (4, .int p4), (5, .int p5)]) hx hb d_Mod_feed_85 hl (by decide) rfl (fun ls hl => ?_)
      refine lv_aload_n hx hb d_Mod_feed_87 rfl (lv_at hl 2 rfl) ?_
      refine va_get (D := (dC, dI)) (ci := 12) (v := .ref tp) (C := R_Mod) (T := T_Mod) (N := 76) hx hb hT in_Mod hown hK hP 0 rfl rfl 0 (by decide) (hT _ vt_171) (fun _ h9 => h9) ht d_Mod_feed_88 ?_
      refine lv_aload_n hx hb d_Mod_feed_91 rfl (lv_at hl 2 rfl) ?_
      refine lv_dup hx hb d_Mod_feed_92 rfl ?_
      refine va_get (D := (dC, dI)) (ci := 12) (v := .int (nI i)) (C := R_Mod) (T := T_Mod) (N := 76) hx hb hT in_Mod hown hK hP 0 rfl rfl 2 (by decide) (hT _ vt_173) (fun _ h9 => h9) hs d_Mod_feed_93 ?_
      refine lv_dup_x1 hx hb d_Mod_feed_96 rfl rfl ?_
      refine lv_iconst (v := 1) hx hb d_Mod_feed_97 (by decide) ?_
      refine lv_iadd hx hb d_Mod_feed_98 ?_
      rw [nI_1]
      refine va_put (D := (dC, dI)) (ci := 12) (v := .int (nI (i + 1))) (ty := .int) (C := R_Mod) (T := T_Mod) (N := 76) hx hb hT in_Mod ty_Mod tyo_Mod nm_Mod hown hK hP hD hS 0 rfl rfl 2 (by decide) (hT _ vt_173) (fun _ h9 => h9) rfl (by decide +kernel) rfl rfl (by rw [hl0]; decide) d_Mod_feed_99 (fun H locs hP hD hS => ?_)
      obtain ⟨fs_1, hfs_1⟩ : ∃ z, z = List.set fs 2 (.int (nI (i + 1))) := ⟨_, rfl⟩
      have hP : va_P (dC, dI) classes [(h0, .inr (12, fs_1)), (tp, .inl (cB, 65536, .inl f))] H := by rw [hfs_1]; exact hP
      have hD : va_D A [(h0, .inr (12, fs_1)), (tp, .inl (cB, 65536, .inl f))] := by rw [hfs_1]; exact hD
      have lfs_1 : List.length fs_1 = 76 := by rw [hfs_1, List.length_set, hl0]
      refine lv_iload hx hb d_Mod_feed_102 (lv_at hl 0 rfl) ?_
      refine lv_bipush (v := 24) hx hb d_Mod_feed_104 (by decide) ?_
      refine lv_bipush (v := 8) hx hb d_Mod_feed_106 (by decide) ?_
      refine lv_iload hx hb d_Mod_feed_108 (lv_at hl 1 rfl) ?_
      refine lv_iconst (v := 4) hx hb d_Mod_feed_110 (by decide) ?_
      refine lv_irem hx hb d_Mod_feed_111 (by decide) ?_
      refine lv_topi (fun x_2 ex_2 => ?_)
      refine lv_imul hx hb d_Mod_feed_112 ?_
      refine lv_topi (fun x_3 ex_3 => ?_)
      refine lv_isub hx hb d_Mod_feed_113 ?_
      refine lv_topi (fun x_4 ex_4 => ?_)
      refine lv_iushr hx hb d_Mod_feed_114 rfl ?_
      refine lv_topi (fun x_5 ex_5 => ?_)
      refine lv_i2b hx hb d_Mod_feed_115 rfl ?_
      refine lv_topi (fun x_6 ex_6 => ?_)
      refine va_bast hx hb hK hP hD hS 1 0 rfl rfl (vp_in_nI (by omega) (by decide)) d_Mod_feed_116 (fun H locs hP hD hS => ?_)
      generalize upd f _ _ = f_7 at hP hD
      have hP : va_P (dC, dI) classes [(h0, .inr (12, fs_1)), (tp, .inl (cB, 65536, .inl f_7))] H := hP
      have hD : va_D A [(h0, .inr (12, fs_1)), (tp, .inl (cB, 65536, .inl f_7))] := hD
      refine lv_iinc (v := (nI (i + 1))) (lv' := [(6, .int (nI (i + 1))), (7, .int v), (0, .ref h0), (1, .int p1), (2, .int p2), (3, .int p3), (4, .int p4), (5, .int p5)]) hx hb d_Mod_feed_117 hl (k := 1) rfl (nI_1 i) (by decide) rfl (fun ls hl => ?_)
      refine lv_goto (tgt := 32) hx hb d_Mod_feed_120 (by decide) ?_
      refine ih (i + 1) (by omega) fs_1 f_7 H locs ls lfs_1 ?_ ?_ ?_ hP hD hS (lv_sub hl [0, 2, 3, 4, 5, 6, 7] rfl)
      · exact (by rw [hfs_1, List.getElem?_set_ne (by decide)]; exact ht)
      · exact (by rw [hfs_1]; exact List.getElem?_set_self (by rw [hl0]; decide))
      · exact (by rw [hfs_1, List.getElem?_set_ne (by decide)]; exact hth)
    refine lv_iload hx hb d_Mod_feed_32 (lv_at hl 0 rfl) ?_
    refine lv_bipush (v := 20) hx hb d_Mod_feed_34 (by decide) ?_
    refine lv_icmp_ge (tgt := 123) hx hb d_Mod_feed_36 (by decide) (fun c_1 => absurd c_1 (nI_ge hi20 (by decide))) (fun c_1 => ?_)
    refine lv_iload hx hb d_Mod_feed_39 (lv_at hl 0 rfl) ?_
    refine lv_iconst (v := 4) hx hb d_Mod_feed_41 (by decide) ?_
    refine lv_icmp_ge (tgt := 49) hx hb d_Mod_feed_42 (by decide) (fun c_0 => ?_) (fun c_0 => ?_)
    rotate_left
    · skip
      refine lv_iload_n hx hb d_Mod_feed_45 rfl (lv_at hl 2 rfl) ?_
      refine lv_goto (tgt := 85) hx hb d_Mod_feed_46 (by decide) ?_
      exact key _
    refine lv_iload hx hb d_Mod_feed_49 (lv_at hl 0 rfl) ?_
    refine lv_bipush (v := 8) hx hb d_Mod_feed_51 (by decide) ?_
    refine lv_icmp_ge (tgt := 60) hx hb d_Mod_feed_53 (by decide) (fun c_1 => ?_) (fun c_1 => ?_)
    rotate_left
    · skip
      refine lv_iload_n hx hb d_Mod_feed_56 rfl (lv_at hl 3 rfl) ?_
      refine lv_goto (tgt := 85) hx hb d_Mod_feed_57 (by decide) ?_
      exact key _
    refine lv_iload hx hb d_Mod_feed_60 (lv_at hl 0 rfl) ?_
    refine lv_bipush (v := 12) hx hb d_Mod_feed_62 (by decide) ?_
    refine lv_icmp_ge (tgt := 71) hx hb d_Mod_feed_64 (by decide) (fun c_2 => ?_) (fun c_2 => ?_)
    rotate_left
    · skip
      refine lv_iload_n hx hb d_Mod_feed_67 rfl (lv_at hl 4 rfl) ?_
      refine lv_goto (tgt := 85) hx hb d_Mod_feed_68 (by decide) ?_
      exact key _
    refine lv_iload hx hb d_Mod_feed_71 (lv_at hl 0 rfl) ?_
    refine lv_bipush (v := 16) hx hb d_Mod_feed_73 (by decide) ?_
    refine lv_icmp_ge (tgt := 83) hx hb d_Mod_feed_75 (by decide) (fun c_3 => ?_) (fun c_3 => ?_)
    rotate_left
    · skip
      refine lv_iload hx hb d_Mod_feed_78 (lv_at hl 5 rfl) ?_
      refine lv_goto (tgt := 85) hx hb d_Mod_feed_80 (by decide) ?_
      exact key _
    refine lv_iload hx hb d_Mod_feed_83 (lv_at hl 6 rfl) ?_
    exact key _
set_option maxHeartbeats 4000000 in
set_option maxRecDepth 100000 in
/-- feed on an empty tape -/
theorem c_Mod_feed (l : Launch) (dC : Nat → ClassId) (dI : Nat → Nat → Nat) (sz : Nat) (h0 tp : Nat) (cB : ClassId) (fs : List Value) (hz : Mz fs) (ht : fs[0]? = some (.ref tp)) (p1 p2 p3 p4 p5 : Int32) : Met l y_Mod_feed w_Mod_feed ({ frames := 30, cells := 0, slots := 0, locals := 900 }) (Pw dC dI [.ref h0, .int p1, .int p2, .int p3, .int p4, .int p5] sz [(h0, .inr (12, fs)), (tp, .inl (cB, 65536, .inl (fun _ => 0)))] [(cB, .byte)]) (va_Qi (fun (r : Int32) (_ : Unit) => r = 20) (fun _ t => ∃ (fs2 : List Value), va_P (dC, dI) classes [(h0, .inr (12, fs2))] t.heap ∧ va_K (dC, dI) classes [] t ∧ va_D (va_A [(h0, .inr (12, fs)), (tp, .inl (cB, 65536, .inl (fun _ => 0)))] sz) [(h0, .inr (12, fs2))] ∧ fs2.length = 76 ∧ fs2[4]? = some (.int 0)) (va_A [(h0, .inr (12, fs)), (tp, .inl (cB, 65536, .inl (fun _ => 0)))] sz)) 0 0 (va_A [(h0, .inr (12, fs)), (tp, .inl (cB, 65536, .inl (fun _ => 0)))] sz) := by
  refine Met.ofW (cc := b_Mod_feed) (maxL := 8) (ret := (some .int)) (by decide) rfl ?_
  intro p e s m args below meth c s₁ B hml hv
  obtain ⟨rfl, hsz, hP, hK, hD0⟩ := hv
  have hx := B.exec
  have hb := B.bytes
  have hr := B.returns
  have hT : ∀ w ∈ vT, w.before _ s = true := fun w h => atoms_spec (ws := w_Mod_feed) B.pre w (List.mem_cons_of_mem _ h)
  have hown : s.vm.findClass R_Mod = some m.cls := findClass_of_methodNamed B.named
  have hlocks := B.notSynchronized
  subst hsz
  have hD := hD0.self (sz := s.heap.size)
  generalize hAe : va_A [(h0, .inr (12, fs)), (tp, .inl (cB, 65536, .inl (fun _ => 0)))] s.heap.size = A at hD ⊢
  have hA : ∀ q : Nat, s.heap.size ≤ q → A q := fun q h => by rw [← hAe]; exact Or.inr h
  have hS : va_S A s.heap s.heap [] := va_S.rf
  have hP : va_P (dC, dI) classes [(h0, .inr (12, fs)), (tp, .inl (cB, 65536, .inl (fun _ => 0)))] s.heap := hP
  have hl := lv_entry ([.ref h0, .int p1, .int p2, .int p3, .int p4, .int p5]) (n := 8) (Nat.le_of_ble_eq_true rfl)
  rw [lg_entry_eq]
  generalize (lg_sl ([.ref h0, .int p1, .int p2, .int p3, .int p4, .int p5]) ++ List.replicate (8 - (lg_sl ([.ref h0, .int p1, .int p2, .int p3, .int p4, .int p5])).length) Slot.unset).toArray = ls at hl ⊢
  have hl : lv_has ls 8 [(0, .ref h0), (1, .int p1), (2, .int p2), (3, .int p3), (4, .int p4), (5, .int p5)] := hl
  refine lv_aload_n hx hb d_Mod_feed_0 rfl (lv_at hl 0 rfl) ?_
  refine lv_iconst (v := 0) hx hb d_Mod_feed_1 (by decide) ?_
  refine va_put (D := (dC, dI)) (ci := 12) (v := .int 0) (ty := .int) (C := R_Mod) (T := T_Mod) (N := 76) hx hb hT in_Mod ty_Mod tyo_Mod nm_Mod hown hK hP hD hS 0 rfl rfl 4 (by decide) (hT _ vt_175) (fun _ h9 => h9) rfl (by decide +kernel) rfl rfl (by rw [hz.1]; decide) d_Mod_feed_2 (fun H locs hP hD hS => ?_)
  obtain ⟨fs_1, hfs_1⟩ : ∃ z, z = List.set fs 4 (.int 0) := ⟨_, rfl⟩
  have hP : va_P (dC, dI) classes [(h0, .inr (12, fs_1)), (tp, .inl (cB, 65536, .inl (fun _ => 0)))] H := by rw [hfs_1]; exact hP
  have hD : va_D A [(h0, .inr (12, fs_1)), (tp, .inl (cB, 65536, .inl (fun _ => 0)))] := by rw [hfs_1]; exact hD
  have lfs_1 : List.length fs_1 = 76 := by rw [hfs_1, List.length_set, hz.1]
  refine lv_aload_n hx hb d_Mod_feed_5 rfl (lv_at hl 0 rfl) ?_
  refine lv_iconst (v := 1) hx hb d_Mod_feed_6 (by decide) ?_
  refine lv_aload_n hx hb d_Mod_feed_7 rfl (lv_at hl 0 rfl) ?_
  refine va_get (D := (dC, dI)) (ci := 12) (v := .int 0) (C := R_Mod) (T := T_Mod) (N := 76) hx hb hT in_Mod hown hK hP 0 rfl rfl 2 (by decide) (hT _ vt_173) (fun _ h9 => h9) (by rw [hfs_1, List.getElem?_set_ne (by decide)]; exact hz.2 2 (by decide)) d_Mod_feed_8 ?_
  refine lv_ldc (v := 65516) hx hb hown (hT _ vt_366) d_Mod_feed_11 ?_
  refine lv_icmp_le (tgt := 20) hx hb d_Mod_feed_13 (by decide) (fun c_2 => ?_) (fun c_2 => absurd (by decide) c_2)
  refine lv_iconst (v := 0) hx hb d_Mod_feed_20 (by decide) ?_
  refine W.callR (W.runV (As := [.int 1, .int 0]) (rest := []) ⟨hx, hb, hml, hown, hT⟩ (c_Mod_refuse0 l dC dI h0 fs_1 1) (cwV 2 hT (gV vt_349 vt_350 vt_351 vt_352 vt_353) rfl rfl rfl (by decide +kernel) ⟨Nat.le_of_ble_eq_true rfl, Nat.le_of_ble_eq_true rfl⟩) ⟨Pp_blind, va_recv hK hP (ci := 12) (q0 := 0) rfl rfl, Pp_of (hP.sub (ws' := [(h0, .inr (12, fs_1))]) [0] rfl) (hK.sub (tys' := []) [] rfl)⟩ rfl rfl hl.1 rfl (lv_room (Nat.le_of_ble_eq_true rfl)) d_Mod_feed_21 ⟨Nat.le_of_ble_eq_true rfl, Nat.le_of_ble_eq_true rfl⟩) ?_
  refine W.eq (g2 := F0 m 24 ls [.int 0]) rfl ?_
  refine lv_if_eq (tgt := 29) hx hb d_Mod_feed_24 (by decide) (fun c_3 => ?_) (fun c_3 => absurd (rfl) c_3)
  refine lv_iconst (v := 0) hx hb d_Mod_feed_29 (by decide) ?_
  refine lv_istore (lv' := [(6, .int 0), (0, .ref h0), (1, .int p1), (2, .int p2), (3, .int p3), (4, .int p4), (5, .int p5)]) hx hb d_Mod_feed_30 hl (by decide) rfl (fun ls hl => ?_)
  refine mod_feed_loop hx hb hT hown hK ?_ 20 0 (by decide) fs_1 (fun _ => 0) H locs ls lfs_1 (by rw [hfs_1, List.getElem?_set_ne (by decide)]; exact ht) (by rw [hfs_1, List.getElem?_set_ne (by decide)]; exact hz.2 2 (by decide)) (by rw [hfs_1]; exact List.getElem?_set_self (by rw [hz.1]; decide)) hP hD hS (lv_sub hl [0, 1, 2, 3, 4, 5, 6] rfl)
  intro fs f H locs ls hl0 hs hth hP hD hS hl
  refine lv_aload_n hx hb d_Mod_feed_123 rfl (lv_at hl 0 rfl) ?_
  refine va_get (D := (dC, dI)) (ci := 12) (v := .int (nI 20)) (C := R_Mod) (T := T_Mod) (N := 76) hx hb hT in_Mod hown hK hP 0 rfl rfl 2 (by decide) (hT _ vt_173) (fun _ h9 => h9) hs d_Mod_feed_124 ?_
  refine W.widen (k := 0) (n := 0) (Nat.le_of_ble_eq_true rfl) (Nat.le_of_ble_eq_true rfl) ?_
  have hP9 := hP.sub (ws' := [(h0, .inr (12, fs))]) [0] rfl
  have hD9 := hD.sub (ws' := [(h0, .inr (12, fs))]) [0] (by decide) rfl
  have hK9 := hK.sub (tys' := []) [] rfl
  exact W.iret (v := (nI 20)) hx hb hr (fun t ht hW => ⟨⟨(nI 20), (), rfl, (by decide), fs, by rw [ht]; exact hP9, va_K.moved hW.alike hK9, hD9, hl0, hth⟩, hS.F ht⟩) hS.2.2 d_Mod_feed_127
