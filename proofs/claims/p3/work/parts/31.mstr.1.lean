def mU (l : Launch) (g : mG) (y : MethodName) (cd : ByteArray) (maxL : Nat) (ret : Option FieldType) (fr lo : Nat) (av : List Value) (α : mS) : Prop :=
  ∀ A : Nat → Prop, Met l y (Cond.code y cd maxL ret :: vT) (mP fr lo) (va_Pc av (mB g A α)) vx_QU 0 0 (fun _ => False)
theorem mu_ofW {l : Launch} {g : mG} {y : MethodName} {cd : ByteArray} {maxL : Nat} {ret : Option FieldType} {fr lo : Nat} {av : List Value} {α : mS} (hy : plainName y.cls = true)
    (body : ∀ (A : Nat → Prop) p e s m args below meth c, CallFix p m c cd maxL s args vT y.cls → meth.sig.returnType = ret → meth.locks = false → args = av.toArray → mE g A s → mI g A s α s.heap [] →
      W p l e (mP fr lo) s m args below meth c s.heap [] 0 0 (MQ below vx_QU args s 0 0 (fun _ => False)) (entryFrame m args maxL)) : mU l g y cd maxL ret fr lo av α := fun A =>
  Met.ofW (cc := cd) (maxL := maxL) (ret := ret) hy rfl (fun p e s m args below meth c s₁ B hml hv => body A p e s m args below meth c ⟨B.exec, B.bytes, hml, findClass_of_methodNamed B.named, fun w h => atoms_spec (ws := Cond.code y cd maxL ret :: vT) B.pre w (List.mem_cons_of_mem _ h)⟩ B.returns B.notSynchronized hv.1 hv.2.2 ⟨hv.2.1, va_S.rf⟩)
section MSTR
variable {p : Program} {l : Launch} {e : Env} {R : Room} {s : State} {m : MethodId} {args : Array Value} {below : List Frame} {meth : Method} {c : Code} {H : Heap} {locs : List Loc} {g : mG} {A : Nat → Prop} {α : mS} {cc : ByteArray}
variable {y : MethodName} {bytes : ByteArray} {maxL nL n0 index fr lo fr0 lo0 : Nat} {ret : Option FieldType} {own : String} {As rest st0 : List Value} {ls : Array Slot} {pc : Nat}
theorem mg_uS {Q : State → Prop} (hM : mU l g y bytes maxL ret fr lo As α) (S : CallFix p m c cc nL s args vT own) (E : mE g A s) (hI : mI g A s α H locs)
    (hw : kWs own index y bytes maxL ret n0) (hR0 : R = mR fr0 lo0 ∨ R = mP fr0 lo0) (hR : fr + 1 ≤ fr0 ∧ 8 + (maxL + 11) + lo ≤ lo0)
    (hn : As.length = n0) (hsize : ls.size = nL) (hstack : st0 = As.reverse ++ rest) (hW : (rest.map fun v => v.category).sum ≤ 8) (hdg : decode cc pc = .ok (.invokestatic index, 3))
    (kr : W p l e R s m args below meth c H locs 0 0 Q (F0 m (pc + 3) ls rest)) :
    W p l e R s m args below meth c H locs 0 0 Q (F0 m pc ls st0) := by
  obtain ⟨w1, w2, w4, w5, w6, w7, w8⟩ := hw
  obtain ⟨hexec, hb, hml, hown, hts⟩ := S
  subst hstack
  have hR1 : fr + 1 ≤ R.frames ∧ 8 + (maxL + 11) + lo ≤ R.locals := by rcases hR0 with rfl | rfl <;> exact hR
  refine vx_callU (g := F0 m pc ls (As.reverse ++ rest)) (rest := rest) (a := As.toArray) ?_ kr
  intro T hT X
  obtain ⟨v, st₀, t, T', L, a1, a2, a3, a4, -, a5, a6⟩ := va_runS (As := As) (rest := rest) (g := F0 m pc ls (As.reverse ++ rest)) ⟨hexec, hb, hml, hown, hts⟩ (hM A) (va_cwS n0 hts (gSS w1 w2 w4 w5) rfl rfl rfl ⟨w6, w7, w8⟩ hR1) ⟨mB_blind, hI.to E⟩ rfl hn hsize rfl (lv_room hW) hdg ⟨Nat.zero_le _, Nat.zero_le _⟩ T hT X
  exact ⟨v, st₀, t, T', L, a1, a2, a3, a4, a5, a6⟩
end MSTR
theorem m_Str_coder {l : Launch} {g : mG} {α : mS} {i : Nat} (hi : i < 51) : mV l g y_Str_coder b_Str_coder 1 (some .byte) 1 1 [.ref (kst g.1 i)] α 0 := by
  refine mv_ofW (by decide) (fun A p e s m args below meth c S hr hlocks hargs E hI => ?_)
  have hx := S.1
  have hb := S.2.1
  have hown := S.2.2.2.1
  have hT := S.2.2.2.2
  have hS := hI.2
  subst hargs
  have hl := lv_entry ([.ref (kst g.1 i)]) (n := 1) (Nat.le_of_ble_eq_true rfl)
  rw [lg_entry_eq]
  generalize (lg_sl ([.ref (kst g.1 i)]) ++ List.replicate (1 - (lg_sl ([.ref (kst g.1 i)])).length) Slot.unset).toArray = ls at hl ⊢
  have hl : lv_has ls 1 [(0, .ref (kst g.1 i))] := hl
  refine va_gets hx hb E.2.2.2.2.2.1 hS hown (hT _ vt_1774) (fun _ h => h) d_Str_coder_0 ?_
  refine lv_if_eq (tgt := 13) hx hb d_Str_coder_3 (by decide) (fun h => absurd h (by decide)) (fun _ => ?_)
  refine lv_aload_n hx hb d_Str_coder_6 rfl (lv_at hl 0 rfl) ?_
  refine vk_getf hx hb (E.2.2.2.1 i hi).2.1 hS hown (hT _ vt_1916) (fun _ h => h) d_Str_coder_7 ?_
  refine lv_goto (tgt := 14) hx hb d_Str_coder_10 (by decide) ?_
  exact kv_iret (w := 0) hx hb hr (by decide) hlocks rfl d_Str_coder_14
theorem m_Str_isLatin1 {l : Launch} {g : mG} {α : mS} {i : Nat} (hi : i < 51) : mV l g y_Str_isLatin1 b_Str_isLatin1 1 (some .boolean) 1 1 [.ref (kst g.1 i)] α 1 := by
  refine mv_ofW (by decide) (fun A p e s m args below meth c S hr hlocks hargs E hI => ?_)
  have hx := S.1
  have hb := S.2.1
  have hown := S.2.2.2.1
  have hT := S.2.2.2.2
  have hS := hI.2
  subst hargs
  have hl := lv_entry ([.ref (kst g.1 i)]) (n := 1) (Nat.le_of_ble_eq_true rfl)
  rw [lg_entry_eq]
  generalize (lg_sl ([.ref (kst g.1 i)]) ++ List.replicate (1 - (lg_sl ([.ref (kst g.1 i)])).length) Slot.unset).toArray = ls at hl ⊢
  have hl : lv_has ls 1 [(0, .ref (kst g.1 i))] := hl
  refine va_gets hx hb E.2.2.2.2.2.1 hS hown (hT _ vt_1774) (fun _ h => h) d_Str_isLatin1_0 ?_
  refine lv_if_eq (tgt := 17) hx hb d_Str_isLatin1_3 (by decide) (fun h => absurd h (by decide)) (fun _ => ?_)
  refine lv_aload_n hx hb d_Str_isLatin1_6 rfl (lv_at hl 0 rfl) ?_
  refine vk_getf hx hb (E.2.2.2.1 i hi).2.1 hS hown (hT _ vt_1916) (fun _ h => h) d_Str_isLatin1_7 ?_
  refine lv_if_ne (tgt := 17) hx hb d_Str_isLatin1_10 (by decide) (fun h => absurd rfl h) (fun _ => ?_)
  refine lv_iconst (v := 1) hx hb d_Str_isLatin1_13 (by decide) ?_
  refine lv_goto (tgt := 18) hx hb d_Str_isLatin1_14 (by decide) ?_
  exact kv_iret (w := 1) hx hb hr (by decide) hlocks rfl d_Str_isLatin1_18
theorem m_Prc_checkIndex {l : Launch} {g : mG} {α : mS} {j : Int32} {n t : Nat} (h0 : ¬ j < 0) (h1 : j < nI n) : mV l g y_Prc_checkIndex b_Prc_checkIndex 3 (some .int) 1 1 [.int j, .int (nI n), .ref t] α j := by
  refine mv_ofW (by decide) (fun A p e s m args below meth c S hr hlocks hargs E hI => ?_)
  have hx := S.1
  have hb := S.2.1
  have hown := S.2.2.2.1
  have hT := S.2.2.2.2
  have hS := hI.2
  subst hargs
  have hl := lv_entry ([.int j, .int (nI n), .ref t]) (n := 3) (Nat.le_of_ble_eq_true rfl)
  rw [lg_entry_eq]
  generalize (lg_sl ([.int j, .int (nI n), .ref t]) ++ List.replicate (3 - (lg_sl ([.int j, .int (nI n), .ref t])).length) Slot.unset).toArray = ls at hl ⊢
  have hl : lv_has ls 3 [(0, .int j), (1, .int (nI n)), (2, .ref t)] := hl
  refine lv_iload_n hx hb d_Prc_checkIndex_0 rfl (lv_at hl 0 rfl) ?_
  refine lv_if_lt (tgt := 9) hx hb d_Prc_checkIndex_1 (by decide) (fun h => absurd h h0) (fun _ => ?_)
  refine lv_iload_n hx hb d_Prc_checkIndex_4 rfl (lv_at hl 0 rfl) ?_
  refine lv_iload_n hx hb d_Prc_checkIndex_5 rfl (lv_at hl 1 rfl) ?_
  refine lv_icmp_lt (tgt := 16) hx hb d_Prc_checkIndex_6 (by decide) (fun _ => ?_) (fun h => absurd h1 h)
  refine lv_iload_n hx hb d_Prc_checkIndex_16 rfl (lv_at hl 0 rfl) ?_
  exact kv_iret (w := j) hx hb hr rfl hlocks rfl d_Prc_checkIndex_17
theorem m_Prc_checkIndexN {l : Launch} {g : mG} {α : mS} {j : Int32} {n : Nat} (h0 : ¬ j < 0) (h1 : j < nI n) : mV l g y_Prc_checkIndex b_Prc_checkIndex 3 (some .int) 1 1 [.int j, .int (nI n), .null] α j := by
  refine mv_ofW (by decide) (fun A p e s m args below meth c S hr hlocks hargs E hI => ?_)
  have hx := S.1
  have hb := S.2.1
  have hown := S.2.2.2.1
  have hT := S.2.2.2.2
  have hS := hI.2
  subst hargs
  have hl := lv_entry ([.int j, .int (nI n), .null]) (n := 3) (Nat.le_of_ble_eq_true rfl)
  rw [lg_entry_eq]
  generalize (lg_sl ([.int j, .int (nI n), .null]) ++ List.replicate (3 - (lg_sl ([.int j, .int (nI n), .null])).length) Slot.unset).toArray = ls at hl ⊢
  have hl : lv_has ls 3 [(0, .int j), (1, .int (nI n)), (2, .null)] := hl
  refine lv_iload_n hx hb d_Prc_checkIndex_0 rfl (lv_at hl 0 rfl) ?_
  refine lv_if_lt (tgt := 9) hx hb d_Prc_checkIndex_1 (by decide) (fun h => absurd h h0) (fun _ => ?_)
  refine lv_iload_n hx hb d_Prc_checkIndex_4 rfl (lv_at hl 0 rfl) ?_
  refine lv_iload_n hx hb d_Prc_checkIndex_5 rfl (lv_at hl 1 rfl) ?_
  refine lv_icmp_lt (tgt := 16) hx hb d_Prc_checkIndex_6 (by decide) (fun _ => ?_) (fun h => absurd h1 h)
  refine lv_iload_n hx hb d_Prc_checkIndex_16 rfl (lv_at hl 0 rfl) ?_
  exact kv_iret (w := j) hx hb hr rfl hlocks rfl d_Prc_checkIndex_17
theorem m_Str_length {l : Launch} {g : mG} {α : mS} {i : Nat} (hi : i < 51) : mV l g y_Str_length b_Str_length 1 (some .int) 2 21 [.ref (kst g.1 i)] α (sLn i) := by
  refine mv_ofW (by decide) (fun A p e s m args below meth c S hr hlocks hargs E hI => ?_)
  have hx := S.1
  have hb := S.2.1
  have hown := S.2.2.2.1
  have hT := S.2.2.2.2
  have hS := hI.2
  subst hargs
  have hl := lv_entry ([.ref (kst g.1 i)]) (n := 1) (Nat.le_of_ble_eq_true rfl)
  rw [lg_entry_eq]
  generalize (lg_sl ([.ref (kst g.1 i)]) ++ List.replicate (1 - (lg_sl ([.ref (kst g.1 i)])).length) Slot.unset).toArray = ls at hl ⊢
  have hl : lv_has ls 1 [(0, .ref (kst g.1 i))] := hl
  refine lv_aload_n hx hb d_Str_length_0 rfl (lv_at hl 0 rfl) ?_
  refine vk_getf hx hb (E.2.2.2.1 i hi).2.2.1 hS hown (hT _ vt_1915) (fun _ h => h) d_Str_length_1 ?_
  refine va_tlen (v := nI (sLen.getD i 0)) hx hb (E.2.2.2.1 i hi).2.2.2 hS rfl d_Str_length_4 ?_
  refine lv_aload_n hx hb d_Str_length_5 rfl (lv_at hl 0 rfl) ?_
  refine mg_p (As := []) (rest := [.int (nI (sLen.getD i 0))]) (m_Str_coder hi) S E hI kw_Str_335 (Or.inr rfl) ⟨Nat.le_of_ble_eq_true rfl, Nat.le_of_ble_eq_true rfl⟩ (mv_Str hi E hI) rfl hl.1 rfl (Nat.le_of_ble_eq_true rfl) d_Str_length_6 rfl ?_
  refine lv_ishr hx hb d_Str_length_9 ?_
  exact kv_iret (w := nI (sLen.getD i 0) >>> ((0 : Int32) &&& 31)) hx hb hr rfl hlocks (sLn_ok i hi).2 d_Str_length_10
theorem m_Str_checkIndex {l : Launch} {g : mG} {α : mS} {j : Int32} {n : Nat} (h0 : ¬ j < 0) (h1 : j < nI n) : mU l g y_Str_checkIndex b_Str_checkIndex 2 none 2 30 [.int j, .int (nI n)] α := by
  refine mu_ofW (by decide) (fun A p e s m args below meth c S hr hlocks hargs E hI => ?_)
  have hx := S.1
  have hb := S.2.1
  have hown := S.2.2.2.1
  have hT := S.2.2.2.2
  have hS := hI.2
  subst hargs
  have hl := lv_entry ([.int j, .int (nI n)]) (n := 2) (Nat.le_of_ble_eq_true rfl)
  rw [lg_entry_eq]
  generalize (lg_sl ([.int j, .int (nI n)]) ++ List.replicate (2 - (lg_sl ([.int j, .int (nI n)])).length) Slot.unset).toArray = ls at hl ⊢
  have hl : lv_has ls 2 [(0, .int j), (1, .int (nI n))] := hl
  refine lv_iload_n hx hb d_Str_checkIndex_0 rfl (lv_at hl 0 rfl) ?_
  refine lv_iload_n hx hb d_Str_checkIndex_1 rfl (lv_at hl 1 rfl) ?_
  rcases E.2.2.2.2.2.2 with ht | ⟨t, ht⟩
  · refine va_gets hx hb ht hS hown (hT _ vt_1785) (fun _ h => h) d_Str_checkIndex_2 ?_
    refine mg_pS (As := [.int j, .int (nI n), .null]) (rest := []) (m_Prc_checkIndexN h0 h1) S E hI kw_Str_1059 (Or.inr rfl) ⟨Nat.le_of_ble_eq_true rfl, Nat.le_of_ble_eq_true rfl⟩ rfl hl.1 rfl (Nat.le_of_ble_eq_true rfl) d_Str_checkIndex_5 ?_
    refine lv_pop hx hb d_Str_checkIndex_8 rfl ?_
    exact W.vret hx hb hr (fun t ht hW => ⟨rfl, ht⟩) (fun _ h => nomatch h) d_Str_checkIndex_9
  · refine va_gets hx hb ht hS hown (hT _ vt_1785) (fun _ h => h) d_Str_checkIndex_2 ?_
    refine mg_pS (As := [.int j, .int (nI n), .ref t]) (rest := []) (m_Prc_checkIndex h0 h1) S E hI kw_Str_1059 (Or.inr rfl) ⟨Nat.le_of_ble_eq_true rfl, Nat.le_of_ble_eq_true rfl⟩ rfl hl.1 rfl (Nat.le_of_ble_eq_true rfl) d_Str_checkIndex_5 ?_
    refine lv_pop hx hb d_Str_checkIndex_8 rfl ?_
    exact W.vret hx hb hr (fun t ht hW => ⟨rfl, ht⟩) (fun _ h => nomatch h) d_Str_checkIndex_9
theorem m_Lat_charAt {l : Launch} {g : mG} {α : mS} {i : Nat} (hi : i < 51) {j v : Int32} (h : sCh i j = some v) : mV l g y_Lat_charAt b_Lat_charAt 2 (some .char) 3 60 [.ref (ksv g.1 i), .int j] α v := by
  unfold sCh at h
  by_cases hc : j < 0 ∨ sLen.getD i 0 ≤ j.toNatClampNeg
  · rw [if_pos hc] at h; cases h
  rw [if_neg hc] at h
  have hin : vp_in j (sLen.getD i 0) := hc
  have h0 : ¬ j < 0 := fun z => hc (Or.inl z)
  have hlt : j.toNatClampNeg < sLen.getD i 0 := Nat.not_le.mp fun z => hc (Or.inr z)
  have h1 : j < nI (sLen.getD i 0) := by
    obtain ⟨k, hk, rfl⟩ := nI_of h0
    rw [nI_clamp hk] at hlt
    exact nI_lt hlt (sLn_ok i hi).1
  refine mv_ofW (by decide) (fun A p e s m args below meth c S hr hlocks hargs E hI => ?_)
  have hx := S.1
  have hb := S.2.1
  have hown := S.2.2.2.1
  have hT := S.2.2.2.2
  have hS := hI.2
  subst hargs
  have hl := lv_entry ([.ref (ksv g.1 i), .int j]) (n := 2) (Nat.le_of_ble_eq_true rfl)
  rw [lg_entry_eq]
  generalize (lg_sl ([.ref (ksv g.1 i), .int j]) ++ List.replicate (2 - (lg_sl ([.ref (ksv g.1 i), .int j])).length) Slot.unset).toArray = ls at hl ⊢
  have hl : lv_has ls 2 [(0, .ref (ksv g.1 i)), (1, .int j)] := hl
  refine lv_iload_n hx hb d_Lat_charAt_0 rfl (lv_at hl 1 rfl) ?_
  refine lv_aload_n hx hb d_Lat_charAt_1 rfl (lv_at hl 0 rfl) ?_
  refine va_tlen (v := nI (sLen.getD i 0)) hx hb (E.2.2.2.1 i hi).2.2.2 hS rfl d_Lat_charAt_2 ?_
  refine mg_uS (As := [.int j, .int (nI (sLen.getD i 0))]) (rest := []) (m_Str_checkIndex h0 h1) S E hI kw_Lat_9 (Or.inr rfl) ⟨Nat.le_of_ble_eq_true rfl, Nat.le_of_ble_eq_true rfl⟩ rfl hl.1 rfl (Nat.le_of_ble_eq_true rfl) d_Lat_charAt_3 ?_
  refine lv_aload_n hx hb d_Lat_charAt_6 rfl (lv_at hl 0 rfl) ?_
  refine lv_iload_n hx hb d_Lat_charAt_7 rfl (lv_at hl 1 rfl) ?_
  refine va_tb hx hb (E.2.2.2.1 i hi).2.2.2 hS hin rfl d_Lat_charAt_8 ?_
  refine lv_sipush (v := 255) hx hb d_Lat_charAt_9 (by decide) ?_
  refine lv_iand hx hb d_Lat_charAt_12 ?_
  refine lv_i2c hx hb d_Lat_charAt_13 (sCh_ok i hi _ hlt).1 ?_
  exact kv_iret hx hb hr (sCh_ok i hi _ hlt).2 hlocks (Option.some.inj h) d_Lat_charAt_14
theorem m_Str_charAt {l : Launch} {g : mG} {α : mS} {i : Nat} (hi : i < 51) (j : Int32) : ∀ v, sCh i j = some v → mV l g y_Str_charAt b_Str_charAt 2 (some .char) 4 90 [.ref (kst g.1 i), .int j] α v := by
  intro v h
  have hn : narrow .char (.int v) = .int v := by
    unfold sCh at h
    by_cases hc : j < 0 ∨ sLen.getD i 0 ≤ j.toNatClampNeg
    · rw [if_pos hc] at h; cases h
    · rw [if_neg hc] at h; cases h; exact (sCh_ok i hi _ (Nat.not_le.mp fun z => hc (Or.inr z))).2
  refine mv_ofW (by decide) (fun A p e s m args below meth c S hr hlocks hargs E hI => ?_)
  have hx := S.1
  have hb := S.2.1
  have hown := S.2.2.2.1
  have hT := S.2.2.2.2
  have hS := hI.2
  subst hargs
  have hl := lv_entry ([.ref (kst g.1 i), .int j]) (n := 2) (Nat.le_of_ble_eq_true rfl)
  rw [lg_entry_eq]
  generalize (lg_sl ([.ref (kst g.1 i), .int j]) ++ List.replicate (2 - (lg_sl ([.ref (kst g.1 i), .int j])).length) Slot.unset).toArray = ls at hl ⊢
  have hl : lv_has ls 2 [(0, .ref (kst g.1 i)), (1, .int j)] := hl
  refine lv_aload_n hx hb d_Str_charAt_0 rfl (lv_at hl 0 rfl) ?_
  refine mg_p (As := []) (rest := []) (m_Str_isLatin1 hi) S E hI kw_Str_492 (Or.inr rfl) ⟨Nat.le_of_ble_eq_true rfl, Nat.le_of_ble_eq_true rfl⟩ (mv_Str hi E hI) rfl hl.1 rfl (Nat.le_of_ble_eq_true rfl) d_Str_charAt_1 rfl ?_
  refine lv_if_eq (tgt := 16) hx hb d_Str_charAt_4 (by decide) (fun h => absurd h (by decide)) (fun _ => ?_)
  refine lv_aload_n hx hb d_Str_charAt_7 rfl (lv_at hl 0 rfl) ?_
  refine vk_getf hx hb (E.2.2.2.1 i hi).2.2.1 hS hown (hT _ vt_1915) (fun _ h => h) d_Str_charAt_8 ?_
  refine lv_iload_n hx hb d_Str_charAt_11 rfl (lv_at hl 1 rfl) ?_
  refine mg_pS (As := [.ref (ksv g.1 i), .int j]) (rest := []) (m_Lat_charAt hi h) S E hI kw_Str_495 (Or.inr rfl) ⟨Nat.le_of_ble_eq_true rfl, Nat.le_of_ble_eq_true rfl⟩ rfl hl.1 rfl (Nat.le_of_ble_eq_true rfl) d_Str_charAt_12 ?_
  exact kv_iret hx hb hr hn hlocks rfl d_Str_charAt_15
