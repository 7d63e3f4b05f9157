def mQs (g : mG) (A : Nat → Prop) (x : Int32 × mS) : Array Value → State → Outcome → State → Nat → Nat → Prop := fun _ _ o t k n => o = .returned (some (.int x.1)) ∧ mB g A x.2 t ∧ k ≤ 1 ∧ n ≤ 8
def mBci (x : Option (kO × mS)) (k : Int32 → mS → Option (Int32 × mS)) (kc : mS → Option (Int32 × mS)) : Option (Int32 × mS) := match x with
  | some (some (some v), α) => k v α
  | some (none, α) => kc α
  | _ => none
def mBcv (x : Option (kO × mS)) (k : mS → Option (Int32 × mS)) (kc : mS → Option (Int32 × mS)) : Option (Int32 × mS) := match x with
  | some (some none, α) => k α
  | some (none, α) => kc α
  | _ => none
section MRD
variable {p : Program} {l : Launch} {e : Env} {R : Room} {s : State} {m : MethodId} {args : Array Value} {below : List Frame} {meth : Method} {c : Code} {H : Heap} {locs : List Loc} {cells slots : Nat} {Q : State → Prop} {g : mG} {A : Nat → Prop} {α : mS} {cc : ByteArray} {nL index pc : Nat} {own : String} {ls : Array Slot} {rest : List Value}
variable {x : Int32 × mS} {fr0 lo0 q : Nat} {k pl : Int32} {y : MethodName} {bytes : ByteArray} {maxL n0 fr lo : Nat} {ret : Option FieldType} {C : String} {b : Addr} {As st0 : List Value}
theorem mr_iret {v : Int32} (hx : p.tables.exec = Jvm.exec) (hb : c.code = cc) (hr : meth.sig.returnType = some .int) (hlocks : meth.locks = false) (E : mE g A s) (hI : mI g A s α H locs) (h : some ((v, α) : Int32 × mS) = some x) (h1 : cells ≤ 1) (h2 : slots ≤ 8) (hdg : decode cc pc = .ok (.ireturn, 1)) :
    W p l e R s m args below meth c H locs cells slots (vEQ below (mQs g A x) args s A) (F0 m pc ls [.int v]) := by
  cases h
  exact vE_iret hx hb hr (fun t ht hW => ⟨rfl, ⟨by rw [ht]; exact hI.1, E.at hI.2 ht hW⟩, h1, h2⟩) hI.2.2.2 hdg hlocks
theorem mg_w_kind (S : CallFix p m c cc nL s args vT own) (E : mE g A s) (hN : mN g A s α H locs q [.null, .null, .null, .null, .null, .int k, .int pl, .int 0]) (hlink : Cond.fieldLink own index "FamilyKernelModel$Wrong" "kind" "I" ∈ vT) (hdg : decode cc pc = .ok (.getfield index, 3)) (kk : W p l e R s m args below meth c H locs cells slots Q (F0 m (pc + 3) ls (.int k :: rest))) : W p l e R s m args below meth c H locs cells slots Q (F0 m pc ls (.ref q :: rest)) :=
  va_get (D := kD g.1) (ci := 13) (v := .int k) (C := R_Wro) (T := T_Wro) (N := 8) S.1 S.2.1 S.2.2.2.2 in_Wro S.2.2.2.1 E.1 hN.1 0 rfl rfl 5 (by decide) (S.2.2.2.2 _ hlink) (fun _ h9 => h9) rfl hdg kk
theorem mg_w_place (S : CallFix p m c cc nL s args vT own) (E : mE g A s) (hN : mN g A s α H locs q [.null, .null, .null, .null, .null, .int k, .int pl, .int 0]) (hlink : Cond.fieldLink own index "FamilyKernelModel$Wrong" "place" "I" ∈ vT) (hdg : decode cc pc = .ok (.getfield index, 3)) (kk : W p l e R s m args below meth c H locs cells slots Q (F0 m (pc + 3) ls (.int pl :: rest))) : W p l e R s m args below meth c H locs cells slots Q (F0 m pc ls (.ref q :: rest)) :=
  va_get (D := kD g.1) (ci := 13) (v := .int pl) (C := R_Wro) (T := T_Wro) (N := 8) S.1 S.2.1 S.2.2.2.2 in_Wro S.2.2.2.1 E.1 hN.1 0 rfl rfl 6 (by decide) (S.2.2.2.2 _ hlink) (fun _ h9 => h9) rfl hdg kk
theorem mpN_faultKind {v : Int32} (S : CallFix p m c cc nL s args vT own) (E : mE g A s) (hN : mN g A s α H locs q [.null, .null, .null, .null, .null, .int k, .int pl, .int 0]) (hlink : Cond.fieldLink own index "FamilyKernelModel" "faultKind" "I" ∈ vT) (hdg : decode cc pc = .ok (.putfield index, 3)) (kk : ∀ (H1 : Heap) (locs1 : List Loc), mN g A s (mSi α 3 v) H1 locs1 q [.null, .null, .null, .null, .null, .int k, .int pl, .int 0] → W p l e R s m args below meth c H1 locs1 cells slots Q (F0 m (pc + 3) ls rest)) : W p l e R s m args below meth c H locs cells slots Q (F0 m pc ls (.int v :: .ref (mad g 0) :: rest)) :=
  va_put (D := kD g.1) (ci := 12) (v := .int v) (ty := .int) (C := R_Mod) (T := T_Mod) (N := 76) S.1 S.2.1 S.2.2.2.2 in_Mod ty_Mod tyo_Mod nm_Mod S.2.2.2.1 E.1 hN.1 hN.2.1 hN.2.2 1 rfl rfl 5 (by decide) (S.2.2.2.2 _ hlink) (fun _ h9 => h9) rfl (by decide +kernel) rfl rfl (Nat.le_of_ble_eq_true rfl) hdg (fun H1 locs1 hP1 hD1 hS1 => kk H1 locs1 ⟨hP1, hD1, hS1⟩)
theorem mr_call {f : kO × mS} (hM : mC l g y bytes maxL ret fr lo (.ref b :: As) α (mQr f)) (S : CallFix p m c cc nL s args vT own) (E : mE g A s) (hI : mI g A s α H locs) (hw : kWv own index C y bytes maxL ret n0) (hR : fr + 1 ≤ fr0 ∧ 8 + (maxL + 11) + lo ≤ lo0)
    (hrecv : ∃ cellB : Cell, H[b]? = some cellB ∧ cellB.vm.isStatics = false ∧ s.vm.findClass C = some cellB.cls) (hn : As.length = n0) (hsize : ls.size = nL) (hstack : st0 = As.reverse ++ .ref b :: rest) (hW : (rest.map fun v => v.category).sum ≤ 8) (hdg : decode cc pc = .ok (.invokevirtual index, 3))
    {ex : ExceptionTableEntry} (ht : c.exceptionTable.toList = [ex]) (hcov : covers ex pc = true) (h0 : ex.catchType ≠ 0) (hlink : Cond.classLink own ex.catchType "FamilyKernelModel$Wrong" ∈ vT) (hcast : (Cond.castable "FamilyKernelModel$Wrong" "FamilyKernelModel$Wrong").before args s = true)
    (kr : ∀ (v : Option Value) (H1 : Heap) (locs1 : List Loc), mQr f (.returned v) f.2 → mI g A s f.2 H1 locs1 → W p l e (mR fr0 lo0) s m args below meth c H1 locs1 0 0 Q (F0 m (pc + 3) ls (v.toList ++ rest)))
    (kk : f.1 = none → ∀ (a : Addr) (H1 : Heap) (locs1 : List Loc), mN g A s f.2 H1 locs1 a [.null, .null, .null, .null, .null, .int (f.2.1 100), .int (f.2.1 101), .int 0] → W p l e (mR fr0 lo0) s m args below meth c H1 locs1 1 8 Q (F0 m ex.handlerPc ls [.ref a])) :
    W p l e (mR fr0 lo0) s m args below meth c H locs 0 0 Q (F0 m pc ls st0) := by
  obtain ⟨w1, w2, w3, w4, w5, w6⟩ := hw
  refine vE_callG (A1 := A) (H0 := s.heap) S (hM A) (Or.inl rfl) w1 w2 w3 w4 w5 w6 hR ⟨mB_blind, hrecv, hI.to E⟩ hn hsize hstack hW hdg ⟨Nat.le_refl _, Nat.le_refl _⟩ hI.2 (fun _ h => h) ?_ ?_
  · intro v st t H1 locs1 k n _ ht _ hq _ _ hS1
    obtain ⟨α', hQ, hB, -, hk1, hk2⟩ := hq
    obtain ⟨rfl, hQ2⟩ := hQ
    subst hk1; subst hk2
    exact kr v H1 locs1 ⟨rfl, hQ2⟩ ⟨by rw [← ht]; exact hB.1, hS1⟩
  · intro a st t T' H1 locs1 k n _ ht' hT' hal X' hq _ _ hS1
    obtain ⟨α', hQ, hB, hX, hk1, hk2⟩ := hq
    obtain ⟨rfl, hQ2⟩ := hQ
    subst hk1; subst hk2
    obtain ⟨c1, c2⟩ := hX a rfl
    rw [ht'] at c1
    have hf : f.1 = none := by
      cases h9 : f.1 with
      | none => rfl
      | some o9 =>
        rw [h9] at hQ2
        cases o9 with
        | none => cases hQ2
        | some v9 => cases hQ2
    obtain ⟨ce, e1, e2, e3⟩ := va_recv (q := (R_Wro, T_Wro, 8)) E.1 c1 (ci := 13) (q0 := 0) rfl rfl
    obtain ⟨vm', X2, hk2⟩ := vx_caught X' (a := a) (g := F0 m pc ls rest) rfl S.2.2.2.1 ht hcov h0 (S.2.2.2.2 _ hlink) hcast (cell := ce) (by rw [hT']; exact e1) e2 e3
    obtain ⟨t2, a1, b1⟩ := kk hf a H1 locs1 ⟨c1, c2, hS1⟩ (T'.setVm vm') hT' X2
    exact ⟨t2, hk2 _ a1, b1⟩
end MRD
theorem kw_Mod_494 : kWv "FamilyKernelModel" 494 "FamilyKernelModel" y_Mod_declaration b_Mod_declaration 1 none 0 := ⟨vt_1359, vt_1360, vt_1361, vt_1349, vt_1362, by decide, by decide, by decide +kernel⟩
def f_Mod_read_49 (N : Nat)  : Nat → Int32 → Int32 → Int32 → Int32 → Int32 → mS → Option (Int32 × mS)
  | 0, _, _, _, _, _, _ => none
  | n + 1, x5_49, x4_49, x3_49, x2_49, x1_49, β49 => mBci (f_Mod_peek N β49) (fun v2 α1 => (if v2 = 0 then (some (x1_49, (mSi α1 0 0))) else (mBcv (f_Mod_declaration N (mSi α1 25 (α1.1 7))) (fun α4 => (f_Mod_read_49 N n (α1.1 18) (α1.1 17) (α1.1 15) (α1.1 16) (x1_49 + 1) (mSi (mSi α4 26 ((α4.1 26) + 1)) 27 (α4.1 22)))) (fun α4 => (if 0 ≤ (α4.1 101) then (some (x1_49, (mSi (mSi (mSi (mSi (mSi (mSi (mSi α4 3 (α4.1 100)) 4 (α4.1 101)) 16 (α1.1 16)) 15 (α1.1 15)) 17 (α1.1 17)) 18 (α1.1 18)) 0 0))) else (some (x1_49, (mSi (mSi (mSi (mSi (mSi (mSi (mSi α4 3 (α4.1 100)) 4 (α4.1 25)) 16 (α1.1 16)) 15 (α1.1 15)) 17 (α1.1 17)) 18 (α1.1 18)) 0 0)))))))) (fun α1 => (if 0 ≤ (α1.1 101) then (some (x1_49, (mSi (mSi (mSi (mSi (mSi (mSi (mSi α1 3 (α1.1 100)) 4 (α1.1 101)) 16 x2_49) 15 x3_49) 17 x4_49) 18 x5_49) 0 0))) else (some (x1_49, (mSi (mSi (mSi (mSi (mSi (mSi (mSi α1 3 (α1.1 100)) 4 (α1.1 25)) 16 x2_49) 15 x3_49) 17 x4_49) 18 x5_49) 0 0)))))
def f_Mod_read (N : Nat) (α : mS) : Option (Int32 × mS) := f_Mod_read_49 N N (α.1 18) (α.1 17) (α.1 15) (α.1 16) 0 (mSi (mSi (mSi (mSi (mSi α 2 0) 5 0) 9 0) 3 0) 4 0)
set_option maxHeartbeats 4000000 in
set_option maxRecDepth 100000 in
theorem k_Mod_read {l : Launch} {g : mG} {α : mS} (N : Nat) : ∀ x, f_Mod_read N α = some x → ∀ A : Nat → Prop, vE l y_Mod_read (Cond.codeWith y_Mod_read b_Mod_read 7 (some .int) [(49, 114, 117, 1)] :: vT) (mR 1796 50683) (fun a U => va_Pc [.ref (mad g 0)] (mB g A α) a U ∧ va_Nw (.castable "FamilyKernelModel$Wrong" "FamilyKernelModel$Wrong") U) (mQs g A x) A := by
  intro x h A
  unfold f_Mod_read at h
  refine vE_ofWW (cc := b_Mod_read) (maxL := 7) (ret := some .int) (hh := [(49, 114, 117, 1)]) (by decide) rfl (fun p e s m args below meth c s₁ B hml hh hv => ?_)
  obtain ⟨ex, hex, hx1, hx2, hx3, hx4⟩ := vg_one hh
  obtain ⟨⟨hargs, hHp, E⟩, hca⟩ := hv
  have S : CallFix p m c b_Mod_read 7 s args vT "FamilyKernelModel" := ⟨B.exec, B.bytes, hml, findClass_of_methodNamed B.named, fun w h => atoms_spec (ws := Cond.codeWith y_Mod_read b_Mod_read 7 (some .int) [(49, 114, 117, 1)] :: vT) B.pre w (List.mem_cons_of_mem _ h)⟩
  have hr := B.returns
  have hlocks := B.notSynchronized
  have hx := S.1
  have hb := S.2.1
  have hown := S.2.2.2.1
  have hT := S.2.2.2.2
  have hcast : (Cond.castable "FamilyKernelModel$Wrong" "FamilyKernelModel$Wrong").before args s = true := hca.use rfl
  have hI : mI g A s α s.heap [] := ⟨hHp, va_S.rf⟩
  show W p l e (mR 1796 50683) s m args below meth c s.heap [] 0 0 (vEQ below (mQs g A x) args s A) (entryFrame m args 7)
  subst hargs
  have hl := lv_entry ([.ref (mad g 0)]) (n := 7) (Nat.le_of_ble_eq_true rfl)
  rw [lg_entry_eq]
  generalize (lg_sl ([.ref (mad g 0)]) ++ List.replicate (7 - (lg_sl ([.ref (mad g 0)])).length) Slot.unset).toArray = ls at hl ⊢
  have hl : lv_has ls 7 [(0, .ref (mad g 0))] := hl
  refine lv_aload_n hx hb d_Mod_read_0 rfl (lv_at hl 0 rfl) ?_
  refine lv_iconst (v := 0) hx hb d_Mod_read_1 (by decide) ?_
  refine mp_thrown S E hI vt_1270 d_Mod_read_2 (fun H locs hI => ?_)
  refine lv_aload_n hx hb d_Mod_read_5 rfl (lv_at hl 0 rfl) ?_
  refine lv_iconst (v := 0) hx hb d_Mod_read_6 (by decide) ?_
  refine mp_pos S E hI vt_1273 d_Mod_read_7 (fun H locs hI => ?_)
  refine lv_aload_n hx hb d_Mod_read_10 rfl (lv_at hl 0 rfl) ?_
  refine lv_iconst (v := 0) hx hb d_Mod_read_11 (by decide) ?_
  refine mp_seen S E hI (by decide) (by decide) vt_1277 d_Mod_read_12 (fun H locs hI => ?_)
  refine lv_aload_n hx hb d_Mod_read_15 rfl (lv_at hl 0 rfl) ?_
  refine lv_iconst (v := 0) hx hb d_Mod_read_16 (by decide) ?_
  refine mp_faultKind S E hI vt_1271 d_Mod_read_17 (fun H locs hI => ?_)
  refine lv_aload_n hx hb d_Mod_read_20 rfl (lv_at hl 0 rfl) ?_
  refine lv_iconst (v := 0) hx hb d_Mod_read_21 (by decide) ?_
  refine mp_faultPlace S E hI vt_1272 d_Mod_read_22 (fun H locs hI => ?_)
  refine lv_iconst (v := 0) hx hb d_Mod_read_25 (by decide) ?_
  refine lv_istore_n (lv' := [(1, .int 0), (0, .ref (mad g 0))]) hx hb d_Mod_read_26 rfl hl (by decide) rfl (fun ls hl => ?_)
  refine lv_aload_n hx hb d_Mod_read_27 rfl (lv_at hl 1 rfl) ?_
  refine mf_constants S E hI vt_1295 d_Mod_read_28 ?_
  refine lv_istore_n (lv' := [(2, .int (α.1 16)), (1, .int 0), (0, .ref (mad g 0))]) hx hb d_Mod_read_31 rfl hl (by decide) rfl (fun ls hl => ?_)
  refine lv_aload_n hx hb d_Mod_read_32 rfl (lv_at hl 2 rfl) ?_
  refine mf_wordsUsed S E hI vt_1294 d_Mod_read_33 ?_
  refine lv_istore_n (lv' := [(3, .int (α.1 15)), (2, .int (α.1 16)), (1, .int 0), (0, .ref (mad g 0))]) hx hb d_Mod_read_36 rfl hl (by decide) rfl (fun ls hl => ?_)
  refine lv_aload_n hx hb d_Mod_read_37 rfl (lv_at hl 3 rfl) ?_
  refine mf_kept S E hI vt_1310 d_Mod_read_38 ?_
  refine lv_istore (lv' := [(4, .int (α.1 17)), (3, .int (α.1 15)), (2, .int (α.1 16)), (1, .int 0), (0, .ref (mad g 0))]) hx hb d_Mod_read_41 hl (by decide) rfl (fun ls hl => ?_)
  refine lv_aload_n hx hb d_Mod_read_43 rfl (lv_at hl 4 rfl) ?_
  refine mf_sizes S E hI vt_1311 d_Mod_read_44 ?_
  refine lv_istore (lv' := [(5, .int (α.1 18)), (4, .int (α.1 17)), (3, .int (α.1 15)), (2, .int (α.1 16)), (1, .int 0), (0, .ref (mad g 0))]) hx hb d_Mod_read_47 hl (by decide) rfl (fun ls hl => ?_)
  have L49 : ∀ (n49 : Nat) (x5_49 : Int32) (x4_49 : Int32) (x3_49 : Int32) (x2_49 : Int32) (x1_49 : Int32) (β49 : mS) (H : Heap) (locs : List Loc) (ls : Array Slot), f_Mod_read_49 N n49 x5_49 x4_49 x3_49 x2_49 x1_49 β49 = some x → mI g A s β49 H locs → lv_has ls 7 [(5, .int x5_49), (4, .int x4_49), (3, .int x3_49), (2, .int x2_49), (1, .int x1_49), (0, .ref (mad g 0))] → W p l e (mR (1796) (50683)) s m ([.ref (mad g 0)]).toArray below meth c H locs 0 0 (vEQ below (mQs g A x) ([.ref (mad g 0)]).toArray s A) (F0 m 49 ls []) := by
    intro n49
    induction n49 with
    | zero => intro x5_49 x4_49 x3_49 x2_49 x1_49 β49 H locs ls h hI hl; rw [f_Mod_read_49] at h; cases h
    | succ n49 ih49 =>
      intro x5_49 x4_49 x3_49 x2_49 x1_49 β49 H locs ls h hI hl
      rw [f_Mod_read_49] at h
      refine lv_aload_n hx hb d_Mod_read_49 rfl (lv_at hl 5 rfl) ?_
      have hM := (k_Mod_peek (l := l) (g := g) (α := β49) N)
      generalize (f_Mod_peek N β49) = ff at h hM
      match ff, hM, h with
      | some (some (some v2), α1), hM, h =>
        refine mr_call (As := []) (rest := []) (hM _ rfl) S E hI kw_Mod_273 ⟨Nat.le_of_ble_eq_true rfl, Nat.le_of_ble_eq_true rfl⟩ (mv_Mod E hI) rfl hl.1 rfl (Nat.le_of_ble_eq_true rfl) d_Mod_read_50 hex (by unfold covers; rw [hx1, hx2]; decide) (by rw [hx4]; decide) (by rw [hx4]; exact vt_1457) hcast (fun vv H locs hq hI => ?_) (fun h9 => by cases h9)
        cases hq.2
        replace h := show _ = some x from h
        refine lv_if_eq (tgt := 114) hx hb d_Mod_read_53 (by decide) (fun c3 => ?_) (fun c3 => ?_)
        · replace h := Eq.trans (if_pos c3).symm h
          refine lv_goto (tgt := 174) hx hb d_Mod_read_114 (by decide) ?_
          refine lv_aload_n hx hb d_Mod_read_174 rfl (lv_at hl 5 rfl) ?_
          refine lv_iconst (v := 0) hx hb d_Mod_read_175 (by decide) ?_
          refine mp_size S E hI vt_1268 d_Mod_read_176 (fun H locs hI => ?_)
          refine lv_iload_n hx hb d_Mod_read_179 rfl (lv_at hl 4 rfl) ?_
          exact mr_iret hx hb hr hlocks E hI h (Nat.le_of_ble_eq_true rfl) (Nat.le_of_ble_eq_true rfl) d_Mod_read_180
        · replace h := Eq.trans (if_neg c3).symm h
          refine lv_aload_n hx hb d_Mod_read_56 rfl (lv_at hl 5 rfl) ?_
          refine mf_constants S E hI vt_1295 d_Mod_read_57 ?_
          refine lv_istore_n (lv' := [(2, .int (α1.1 16)), (5, .int x5_49), (4, .int x4_49), (3, .int x3_49), (1, .int x1_49), (0, .ref (mad g 0))]) hx hb d_Mod_read_60 rfl hl (by decide) rfl (fun ls hl => ?_)
          refine lv_aload_n hx hb d_Mod_read_61 rfl (lv_at hl 5 rfl) ?_
          refine mf_wordsUsed S E hI vt_1294 d_Mod_read_62 ?_
          refine lv_istore_n (lv' := [(3, .int (α1.1 15)), (2, .int (α1.1 16)), (5, .int x5_49), (4, .int x4_49), (1, .int x1_49), (0, .ref (mad g 0))]) hx hb d_Mod_read_65 rfl hl (by decide) rfl (fun ls hl => ?_)
          refine lv_aload_n hx hb d_Mod_read_66 rfl (lv_at hl 5 rfl) ?_
          refine mf_kept S E hI vt_1310 d_Mod_read_67 ?_
          refine lv_istore (lv' := [(4, .int (α1.1 17)), (3, .int (α1.1 15)), (2, .int (α1.1 16)), (5, .int x5_49), (1, .int x1_49), (0, .ref (mad g 0))]) hx hb d_Mod_read_70 hl (by decide) rfl (fun ls hl => ?_)
          refine lv_aload_n hx hb d_Mod_read_72 rfl (lv_at hl 5 rfl) ?_
          refine mf_sizes S E hI vt_1311 d_Mod_read_73 ?_
          refine lv_istore (lv' := [(5, .int (α1.1 18)), (4, .int (α1.1 17)), (3, .int (α1.1 15)), (2, .int (α1.1 16)), (1, .int x1_49), (0, .ref (mad g 0))]) hx hb d_Mod_read_76 hl (by decide) rfl (fun ls hl => ?_)
          refine lv_aload_n hx hb d_Mod_read_78 rfl (lv_at hl 5 rfl) ?_
          refine lv_aload_n hx hb d_Mod_read_79 rfl (lv_at hl 5 rfl) ?_
          refine mf_tokenAt S E hI vt_1275 d_Mod_read_80 ?_
          refine mp_declarationAt S E hI vt_1327 d_Mod_read_83 (fun H locs hI => ?_)
          refine lv_aload_n hx hb d_Mod_read_86 rfl (lv_at hl 5 rfl) ?_
          have hM := (k_Mod_declaration (l := l) (g := g) (α := (mSi α1 25 (α1.1 7))) N)
          generalize (f_Mod_declaration N (mSi α1 25 (α1.1 7))) = ff at h hM
          match ff, hM, h with
          | some (some none, α4), hM, h =>
            refine mr_call (As := []) (rest := []) (hM _ rfl) S E hI kw_Mod_494 ⟨Nat.le_of_ble_eq_true rfl, Nat.le_of_ble_eq_true rfl⟩ (mv_Mod E hI) rfl hl.1 rfl (Nat.le_of_ble_eq_true rfl) d_Mod_read_87 hex (by unfold covers; rw [hx1, hx2]; decide) (by rw [hx4]; decide) (by rw [hx4]; exact vt_1457) hcast (fun vv H locs hq hI => ?_) (fun h9 => by cases h9)
            cases hq.2
            replace h := show _ = some x from h
            refine lv_aload_n hx hb d_Mod_read_90 rfl (lv_at hl 5 rfl) ?_
            refine lv_dup hx hb d_Mod_read_91 rfl ?_
            refine mf_accepted S E hI vt_1328 d_Mod_read_92 ?_
            refine lv_iconst (v := 1) hx hb d_Mod_read_95 (by decide) ?_
            refine lv_iadd hx hb d_Mod_read_96 ?_
            refine mp_accepted S E hI vt_1328 d_Mod_read_97 (fun H locs hI => ?_)
            refine lv_aload_n hx hb d_Mod_read_100 rfl (lv_at hl 5 rfl) ?_
            refine lv_aload_n hx hb d_Mod_read_101 rfl (lv_at hl 5 rfl) ?_
            refine mf_work S E hI vt_1322 d_Mod_read_102 ?_
            refine mp_lastWork S E hI vt_1329 d_Mod_read_105 (fun H locs hI => ?_)
            refine lv_iinc (v := (x1_49 + 1)) (lv' := [(1, .int (x1_49 + 1)), (5, .int (α1.1 18)), (4, .int (α1.1 17)), (3, .int (α1.1 15)), (2, .int (α1.1 16)), (0, .ref (mad g 0))]) hx hb d_Mod_read_108 hl (k := 4) rfl rfl (by decide) rfl (fun ls hl => ?_)
            refine lv_goto (tgt := 49) hx hb d_Mod_read_111 (by decide) ?_
            exact ih49 (α1.1 18) (α1.1 17) (α1.1 15) (α1.1 16) (x1_49 + 1) _ _ _ _ h hI (lv_sub hl [1, 2, 3, 4, 0, 5] rfl)
          | some (none, α4), hM, h =>
            refine mr_call (As := []) (rest := []) (hM _ rfl) S E hI kw_Mod_494 ⟨Nat.le_of_ble_eq_true rfl, Nat.le_of_ble_eq_true rfl⟩ (mv_Mod E hI) rfl hl.1 rfl (Nat.le_of_ble_eq_true rfl) d_Mod_read_87 hex (by unfold covers; rw [hx1, hx2]; decide) (by rw [hx4]; decide) (by rw [hx4]; exact vt_1457) hcast (fun vv H locs hq hI => by obtain ⟨a, ha⟩ := hq.2; cases ha) (fun _ xa H locs hN => ?_)
            have hI := hN.i
            rw [hx3]
            refine lv_astore (lv' := [(6, .ref xa), (5, .int (α1.1 18)), (4, .int (α1.1 17)), (3, .int (α1.1 15)), (2, .int (α1.1 16)), (1, .int x1_49), (0, .ref (mad g 0))]) hx hb d_Mod_read_117 hl (by decide) rfl (fun ls hl => ?_)
            refine lv_aload_n hx hb d_Mod_read_119 rfl (lv_at hl 6 rfl) ?_
            refine lv_aload hx hb d_Mod_read_120 (lv_at hl 0 rfl) ?_
            refine mg_w_kind S E hN vt_1363 d_Mod_read_122 ?_
            refine mpN_faultKind S E hN vt_1271 d_Mod_read_125 (fun H locs hN => ?_)
            have hI := hN.i
            refine lv_aload_n hx hb d_Mod_read_128 rfl (lv_at hl 6 rfl) ?_
            refine lv_aload hx hb d_Mod_read_129 (lv_at hl 0 rfl) ?_
            refine mg_w_place S E hN vt_1364 d_Mod_read_131 ?_
            refine lv_if_ge (tgt := 144) hx hb d_Mod_read_134 (by decide) (fun c6 => ?_) (fun c6 => ?_)
            · replace h := Eq.trans (if_pos c6).symm h
              refine lv_aload hx hb d_Mod_read_144 (lv_at hl 0 rfl) ?_
              refine mg_w_place S E hN vt_1364 d_Mod_read_146 ?_
              refine mp_faultPlace S E hI vt_1272 d_Mod_read_149 (fun H locs hI => ?_)
              refine lv_aload_n hx hb d_Mod_read_152 rfl (lv_at hl 6 rfl) ?_
              refine lv_iload_n hx hb d_Mod_read_153 rfl (lv_at hl 4 rfl) ?_
              refine mp_constants S E hI vt_1295 d_Mod_read_154 (fun H locs hI => ?_)
              refine lv_aload_n hx hb d_Mod_read_157 rfl (lv_at hl 6 rfl) ?_
              refine lv_iload_n hx hb d_Mod_read_158 rfl (lv_at hl 3 rfl) ?_
              refine mp_wordsUsed S E hI vt_1294 d_Mod_read_159 (fun H locs hI => ?_)
              refine lv_aload_n hx hb d_Mod_read_162 rfl (lv_at hl 6 rfl) ?_
              refine lv_iload hx hb d_Mod_read_163 (lv_at hl 2 rfl) ?_
              refine mp_kept S E hI vt_1310 d_Mod_read_165 (fun H locs hI => ?_)
              refine lv_aload_n hx hb d_Mod_read_168 rfl (lv_at hl 6 rfl) ?_
              refine lv_iload hx hb d_Mod_read_169 (lv_at hl 1 rfl) ?_
              refine mp_sizes S E hI vt_1311 d_Mod_read_171 (fun H locs hI => ?_)
              refine lv_aload_n hx hb d_Mod_read_174 rfl (lv_at hl 6 rfl) ?_
              refine lv_iconst (v := 0) hx hb d_Mod_read_175 (by decide) ?_
              refine mp_size S E hI vt_1268 d_Mod_read_176 (fun H locs hI => ?_)
              refine lv_iload_n hx hb d_Mod_read_179 rfl (lv_at hl 5 rfl) ?_
              exact mr_iret hx hb hr hlocks E hI h (Nat.le_of_ble_eq_true rfl) (Nat.le_of_ble_eq_true rfl) d_Mod_read_180
            · replace h := Eq.trans (if_neg c6).symm h
              refine lv_aload_n hx hb d_Mod_read_137 rfl (lv_at hl 6 rfl) ?_
              refine mf_declarationAt S E hI vt_1327 d_Mod_read_138 ?_
              refine lv_goto (tgt := 149) hx hb d_Mod_read_141 (by decide) ?_
              refine mp_faultPlace S E hI vt_1272 d_Mod_read_149 (fun H locs hI => ?_)
              refine lv_aload_n hx hb d_Mod_read_152 rfl (lv_at hl 6 rfl) ?_
              refine lv_iload_n hx hb d_Mod_read_153 rfl (lv_at hl 4 rfl) ?_
              refine mp_constants S E hI vt_1295 d_Mod_read_154 (fun H locs hI => ?_)
              refine lv_aload_n hx hb d_Mod_read_157 rfl (lv_at hl 6 rfl) ?_
              refine lv_iload_n hx hb d_Mod_read_158 rfl (lv_at hl 3 rfl) ?_
              refine mp_wordsUsed S E hI vt_1294 d_Mod_read_159 (fun H locs hI => ?_)
              refine lv_aload_n hx hb d_Mod_read_162 rfl (lv_at hl 6 rfl) ?_
              refine lv_iload hx hb d_Mod_read_163 (lv_at hl 2 rfl) ?_
              refine mp_kept S E hI vt_1310 d_Mod_read_165 (fun H locs hI => ?_)
              refine lv_aload_n hx hb d_Mod_read_168 rfl (lv_at hl 6 rfl) ?_
              refine lv_iload hx hb d_Mod_read_169 (lv_at hl 1 rfl) ?_
              refine mp_sizes S E hI vt_1311 d_Mod_read_171 (fun H locs hI => ?_)
              refine lv_aload_n hx hb d_Mod_read_174 rfl (lv_at hl 6 rfl) ?_
              refine lv_iconst (v := 0) hx hb d_Mod_read_175 (by decide) ?_
              refine mp_size S E hI vt_1268 d_Mod_read_176 (fun H locs hI => ?_)
              refine lv_iload_n hx hb d_Mod_read_179 rfl (lv_at hl 5 rfl) ?_
              exact mr_iret hx hb hr hlocks E hI h (Nat.le_of_ble_eq_true rfl) (Nat.le_of_ble_eq_true rfl) d_Mod_read_180
          | some (some (some _), _), hM, h => cases h
          | none, hM, h => cases h
      | some (none, α1), hM, h =>
        refine mr_call (As := []) (rest := []) (hM _ rfl) S E hI kw_Mod_273 ⟨Nat.le_of_ble_eq_true rfl, Nat.le_of_ble_eq_true rfl⟩ (mv_Mod E hI) rfl hl.1 rfl (Nat.le_of_ble_eq_true rfl) d_Mod_read_50 hex (by unfold covers; rw [hx1, hx2]; decide) (by rw [hx4]; decide) (by rw [hx4]; exact vt_1457) hcast (fun vv H locs hq hI => by obtain ⟨a, ha⟩ := hq.2; cases ha) (fun _ xa H locs hN => ?_)
        have hI := hN.i
        rw [hx3]
        refine lv_astore (lv' := [(6, .ref xa), (5, .int x5_49), (4, .int x4_49), (3, .int x3_49), (2, .int x2_49), (1, .int x1_49), (0, .ref (mad g 0))]) hx hb d_Mod_read_117 hl (by decide) rfl (fun ls hl => ?_)
        refine lv_aload_n hx hb d_Mod_read_119 rfl (lv_at hl 6 rfl) ?_
        refine lv_aload hx hb d_Mod_read_120 (lv_at hl 0 rfl) ?_
        refine mg_w_kind S E hN vt_1363 d_Mod_read_122 ?_
        refine mpN_faultKind S E hN vt_1271 d_Mod_read_125 (fun H locs hN => ?_)
        have hI := hN.i
        refine lv_aload_n hx hb d_Mod_read_128 rfl (lv_at hl 6 rfl) ?_
        refine lv_aload hx hb d_Mod_read_129 (lv_at hl 0 rfl) ?_
        refine mg_w_place S E hN vt_1364 d_Mod_read_131 ?_
        refine lv_if_ge (tgt := 144) hx hb d_Mod_read_134 (by decide) (fun c7 => ?_) (fun c7 => ?_)
        · replace h := Eq.trans (if_pos c7).symm h
          refine lv_aload hx hb d_Mod_read_144 (lv_at hl 0 rfl) ?_
          refine mg_w_place S E hN vt_1364 d_Mod_read_146 ?_
          refine mp_faultPlace S E hI vt_1272 d_Mod_read_149 (fun H locs hI => ?_)
          refine lv_aload_n hx hb d_Mod_read_152 rfl (lv_at hl 6 rfl) ?_
          refine lv_iload_n hx hb d_Mod_read_153 rfl (lv_at hl 4 rfl) ?_
          refine mp_constants S E hI vt_1295 d_Mod_read_154 (fun H locs hI => ?_)
          refine lv_aload_n hx hb d_Mod_read_157 rfl (lv_at hl 6 rfl) ?_
          refine lv_iload_n hx hb d_Mod_read_158 rfl (lv_at hl 3 rfl) ?_
          refine mp_wordsUsed S E hI vt_1294 d_Mod_read_159 (fun H locs hI => ?_)
          refine lv_aload_n hx hb d_Mod_read_162 rfl (lv_at hl 6 rfl) ?_
          refine lv_iload hx hb d_Mod_read_163 (lv_at hl 2 rfl) ?_
          refine mp_kept S E hI vt_1310 d_Mod_read_165 (fun H locs hI => ?_)
          refine lv_aload_n hx hb d_Mod_read_168 rfl (lv_at hl 6 rfl) ?_
          refine lv_iload hx hb d_Mod_read_169 (lv_at hl 1 rfl) ?_
          refine mp_sizes S E hI vt_1311 d_Mod_read_171 (fun H locs hI => ?_)
          refine lv_aload_n hx hb d_Mod_read_174 rfl (lv_at hl 6 rfl) ?_
          refine lv_iconst (v := 0) hx hb d_Mod_read_175 (by decide) ?_
          refine mp_size S E hI vt_1268 d_Mod_read_176 (fun H locs hI => ?_)
          refine lv_iload_n hx hb d_Mod_read_179 rfl (lv_at hl 5 rfl) ?_
          exact mr_iret hx hb hr hlocks E hI h (Nat.le_of_ble_eq_true rfl) (Nat.le_of_ble_eq_true rfl) d_Mod_read_180
        · replace h := Eq.trans (if_neg c7).symm h
          refine lv_aload_n hx hb d_Mod_read_137 rfl (lv_at hl 6 rfl) ?_
          refine mf_declarationAt S E hI vt_1327 d_Mod_read_138 ?_
          refine lv_goto (tgt := 149) hx hb d_Mod_read_141 (by decide) ?_
          refine mp_faultPlace S E hI vt_1272 d_Mod_read_149 (fun H locs hI => ?_)
          refine lv_aload_n hx hb d_Mod_read_152 rfl (lv_at hl 6 rfl) ?_
          refine lv_iload_n hx hb d_Mod_read_153 rfl (lv_at hl 4 rfl) ?_
          refine mp_constants S E hI vt_1295 d_Mod_read_154 (fun H locs hI => ?_)
          refine lv_aload_n hx hb d_Mod_read_157 rfl (lv_at hl 6 rfl) ?_
          refine lv_iload_n hx hb d_Mod_read_158 rfl (lv_at hl 3 rfl) ?_
          refine mp_wordsUsed S E hI vt_1294 d_Mod_read_159 (fun H locs hI => ?_)
          refine lv_aload_n hx hb d_Mod_read_162 rfl (lv_at hl 6 rfl) ?_
          refine lv_iload hx hb d_Mod_read_163 (lv_at hl 2 rfl) ?_
          refine mp_kept S E hI vt_1310 d_Mod_read_165 (fun H locs hI => ?_)
          refine lv_aload_n hx hb d_Mod_read_168 rfl (lv_at hl 6 rfl) ?_
          refine lv_iload hx hb d_Mod_read_169 (lv_at hl 1 rfl) ?_
          refine mp_sizes S E hI vt_1311 d_Mod_read_171 (fun H locs hI => ?_)
          refine lv_aload_n hx hb d_Mod_read_174 rfl (lv_at hl 6 rfl) ?_
          refine lv_iconst (v := 0) hx hb d_Mod_read_175 (by decide) ?_
          refine mp_size S E hI vt_1268 d_Mod_read_176 (fun H locs hI => ?_)
          refine lv_iload_n hx hb d_Mod_read_179 rfl (lv_at hl 5 rfl) ?_
          exact mr_iret hx hb hr hlocks E hI h (Nat.le_of_ble_eq_true rfl) (Nat.le_of_ble_eq_true rfl) d_Mod_read_180
      | some (some none, _), hM, h => cases h
      | none, hM, h => cases h
  exact L49 N (α.1 18) (α.1 17) (α.1 15) (α.1 16) 0 _ _ _ _ h hI (lv_sub hl [0, 1, 2, 3, 4, 5] rfl)
