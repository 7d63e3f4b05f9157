/-- a method without an answer that only reads -/
def kU (l : Launch) (g : kG) (y : MethodName) (cd : ByteArray) (maxL : Nat) (ret : Option FieldType) (fr lo : Nat) (av : List Value) (α : kS) : Prop :=
  ∀ (A : Nat → Prop) (ad : Nat → Nat), Met l y (Cond.code y cd maxL ret :: vT) { frames := fr, cells := 0, slots := 0, locals := lo } (va_Pc av (kB g A α ad)) vx_QU 0 0 (fun _ => False)
theorem ku_ofW {l : Launch} {g : kG} {y : MethodName} {cd : ByteArray} {maxL : Nat} {ret : Option FieldType} {fr lo : Nat} {av : List Value} {α : kS} (hy : plainName y.cls = true)
    (body : ∀ (A : Nat → Prop) (ad : Nat → Nat) p e s m args below meth c, CallFix p m c cd maxL s args vT y.cls → meth.sig.returnType = ret → meth.locks = false → args = av.toArray → kE g A s → kJ g A s α ad s.heap [] →
      W p l e { frames := fr, cells := 0, slots := 0, locals := lo } s m args below meth c s.heap [] 0 0 (MQ below vx_QU args s 0 0 (fun _ => False)) (entryFrame m args maxL)) : kU l g y cd maxL ret fr lo av α := fun A ad =>
  Met.ofW (cc := cd) (maxL := maxL) (ret := ret) hy rfl (fun p e s m args below meth c s₁ B hml hv => body A ad p e s m args below meth c ⟨B.exec, B.bytes, hml, findClass_of_methodNamed B.named, fun w h => atoms_spec (ws := Cond.code y cd maxL ret :: vT) B.pre w (List.mem_cons_of_mem _ h)⟩ B.returns B.notSynchronized hv.1 hv.2.2.2 ⟨hv.2.1, hv.2.2.1, va_S.rf⟩)
section KSTR
variable {p : Program} {l : Launch} {e : Env} {R : Room} {s : State} {m : MethodId} {args : Array Value} {below : List Frame} {meth : Method} {c : Code} {H : Heap} {locs : List Loc} {cells slots : Nat} {g : kG} {A : Nat → Prop} {α : kS} {ad : Nat → Nat} {cc : ByteArray}
variable {y : MethodName} {bytes : ByteArray} {maxL nL n0 index fr lo : Nat} {ret : Option FieldType} {own : String} {As rest st0 : List Value} {ls : Array Slot} {pc : Nat}
theorem kg_uS {Q : State → Prop} (hM : kU l g y bytes maxL ret fr lo As α) (S : CallFix p m c cc nL s args vT own) (E : kE g A s) (hJ : kJ g A s α ad H locs)
    (hw : kWs own index y bytes maxL ret n0) (hR : fr + 1 ≤ R.frames ∧ 8 + (maxL + 11) + lo ≤ R.locals) (hc : cells ≤ R.cells ∧ slots ≤ R.slots)
    (hn : As.length = n0) (hsize : ls.size = nL) (hstack : st0 = As.reverse ++ rest) (hW : (rest.map fun v => v.category).sum ≤ 8) (hdg : decode cc pc = .ok (.invokestatic index, 3))
    (kr : W p l e R s m args below meth c H locs cells slots Q (F0 m (pc + 3) ls rest)) :
    W p l e R s m args below meth c H locs cells slots Q (F0 m pc ls st0) := by
  obtain ⟨w1, w2, w4, w5, w6, w7, w8⟩ := hw
  obtain ⟨hexec, hb, hml, hown, hts⟩ := S
  subst hstack
  refine vx_callU (g := F0 m pc ls (As.reverse ++ rest)) (rest := rest) (a := As.toArray) ?_ kr
  intro T hT X
  obtain ⟨v, st₀, t, T', L, a1, a2, a3, a4, -, a5, a6⟩ := va_runS (As := As) (rest := rest) (g := F0 m pc ls (As.reverse ++ rest)) ⟨hexec, hb, hml, hown, hts⟩ (hM A ad) (va_cwS n0 hts (gSS w1 w2 w4 w5) rfl rfl rfl ⟨w6, w7, w8⟩ hR) ⟨kB_blind, hJ.to E⟩ rfl hn hsize rfl (lv_room hW) hdg hc T hT X
  exact ⟨v, st₀, t, T', L, a1, a2, a3, a4, a5, a6⟩
theorem kv_Str {i : Nat} (hi : i < 51) (E : kE g A s) (hJ : kJ g A s α ad H locs) : ∃ cell : Cell, H[kst g i]? = some cell ∧ cell.vm.isStatics = false ∧ s.vm.findClass "java/lang/String" = some cell.cls := by
  obtain ⟨cell, h1, h2, h3, -⟩ := (E.2.2.2.2.1 i hi).1.kept hJ.2.2.2.1
  exact ⟨cell, h1, h2, h3⟩
end KSTR
/-- the length of a text, a sign of it -/
def sLn (i : Nat) : Int32 := nI (sLen.getD i 0)
def sCh (i : Nat) (j : Int32) : Option Int32 := if j < 0 ∨ sLen.getD i 0 ≤ j.toNatClampNeg then none else some ((sByt.getD i []).getD j.toNatClampNeg 0)
theorem sLn_ok : ∀ i, i < 51 → sLen.getD i 0 < 2 ^ 31 ∧ nI (sLen.getD i 0) >>> ((0 : Int32) &&& 31) = nI (sLen.getD i 0) := by decide +kernel
theorem sCh_ok : ∀ i, i < 51 → ∀ j, j < sLen.getD i 0 → ((((sByt.getD i []).getD j 0) &&& 255).toUInt32 % 65536).toInt32 = (sByt.getD i []).getD j 0 ∧ narrow .char (.int ((sByt.getD i []).getD j 0)) = .int ((sByt.getD i []).getD j 0) := by decide +kernel
theorem k_Str_coder {l : Launch} {g : kG} {α : kS} {i : Nat} (hi : i < 51) : kV l g y_Str_coder b_Str_coder 1 (some .byte) 1 1 [.ref (kst g i)] α 0 := by
  refine kv_ofW (by decide) (fun A ad p e s m args below meth c S hr hlocks hargs E hJ => ?_)
  have hx := S.1
  have hb := S.2.1
  have hown := S.2.2.2.1
  have hT := S.2.2.2.2
  have hS := hJ.2.2
  subst hargs
  have hl := lv_entry ([.ref (kst g i)]) (n := 1) (Nat.le_of_ble_eq_true rfl)
  rw [lg_entry_eq]
  generalize (lg_sl ([.ref (kst g i)]) ++ List.replicate (1 - (lg_sl ([.ref (kst g i)])).length) Slot.unset).toArray = ls at hl ⊢
  have hl : lv_has ls 1 [(0, .ref (kst g i))] := hl
  refine va_gets hx hb E.2.2.2.2.2.2.1 hS hown (hT _ vt_1774) (fun _ h => h) d_Str_coder_0 ?_
  refine lv_if_eq (tgt := 13) hx hb d_Str_coder_3 (by decide) (fun h => absurd h (by decide)) (fun _ => ?_)
  refine lv_aload_n hx hb d_Str_coder_6 rfl (lv_at hl 0 rfl) ?_
  refine vk_getf hx hb (E.2.2.2.2.1 i hi).2.1 hS hown (hT _ vt_1916) (fun _ h => h) d_Str_coder_7 ?_
  refine lv_goto (tgt := 14) hx hb d_Str_coder_10 (by decide) ?_
  exact kv_iret (w := 0) hx hb hr (by decide) hlocks rfl d_Str_coder_14
theorem k_Str_isLatin1 {l : Launch} {g : kG} {α : kS} {i : Nat} (hi : i < 51) : kV l g y_Str_isLatin1 b_Str_isLatin1 1 (some .boolean) 1 1 [.ref (kst g i)] α 1 := by
  refine kv_ofW (by decide) (fun A ad p e s m args below meth c S hr hlocks hargs E hJ => ?_)
  have hx := S.1
  have hb := S.2.1
  have hown := S.2.2.2.1
  have hT := S.2.2.2.2
  have hS := hJ.2.2
  subst hargs
  have hl := lv_entry ([.ref (kst g i)]) (n := 1) (Nat.le_of_ble_eq_true rfl)
  rw [lg_entry_eq]
  generalize (lg_sl ([.ref (kst g i)]) ++ List.replicate (1 - (lg_sl ([.ref (kst g i)])).length) Slot.unset).toArray = ls at hl ⊢
  have hl : lv_has ls 1 [(0, .ref (kst g i))] := hl
  refine va_gets hx hb E.2.2.2.2.2.2.1 hS hown (hT _ vt_1774) (fun _ h => h) d_Str_isLatin1_0 ?_
  refine lv_if_eq (tgt := 17) hx hb d_Str_isLatin1_3 (by decide) (fun h => absurd h (by decide)) (fun _ => ?_)
  refine lv_aload_n hx hb d_Str_isLatin1_6 rfl (lv_at hl 0 rfl) ?_
  refine vk_getf hx hb (E.2.2.2.2.1 i hi).2.1 hS hown (hT _ vt_1916) (fun _ h => h) d_Str_isLatin1_7 ?_
  refine lv_if_ne (tgt := 17) hx hb d_Str_isLatin1_10 (by decide) (fun h => absurd rfl h) (fun _ => ?_)
  refine lv_iconst (v := 1) hx hb d_Str_isLatin1_13 (by decide) ?_
  refine lv_goto (tgt := 18) hx hb d_Str_isLatin1_14 (by decide) ?_
  exact kv_iret (w := 1) hx hb hr (by decide) hlocks rfl d_Str_isLatin1_18
theorem k_Prc_checkIndex {l : Launch} {g : kG} {α : kS} {j : Int32} {n t : Nat} (h0 : ¬ j < 0) (h1 : j < nI n) : kV l g y_Prc_checkIndex b_Prc_checkIndex 3 (some .int) 1 1 [.int j, .int (nI n), .ref t] α j := by
  refine kv_ofW (by decide) (fun A ad p e s m args below meth c S hr hlocks hargs E hJ => ?_)
  have hx := S.1
  have hb := S.2.1
  have hown := S.2.2.2.1
  have hT := S.2.2.2.2
  have hS := hJ.2.2
  subst hargs
  have hl := lv_entry ([.int j, .int (nI n), .ref t]) (n := 3) (Nat.le_of_ble_eq_true rfl)
  rw [lg_entry_eq]
  generalize (lg_sl ([.int j, .int (nI n), .ref t]) ++ List.replicate (3 - (lg_sl ([.int j, .int (nI n), .ref t])).length) Slot.unset).toArray = ls at hl ⊢
  have hl : lv_has ls 3 [(0, .int j), (1, .int (nI n)), (2, .ref t)] := hl
  refine lv_iload_n hx hb d_Prc_checkIndex_0 rfl (lv_at hl 0 rfl) ?_
  refine lv_if_lt (tgt := 9) hx hb d_Prc_checkIndex_1 (by decide) (fun h => absurd h h0) (fun _ => ?_)
  refine lv_iload_n hx hb d_Prc_checkIndex_4 rfl (lv_at hl 0 rfl) ?_
  refine lv_iload_n hx hb d_Prc_checkIndex_5 rfl (lv_at hl 1 rfl) ?_
  refine lv_icmp_lt (tgt := 16) hx hb d_Prc_checkIndex_6 (by decide) (fun _ => ?_) (fun h => absurd h1 h)
  refine lv_iload_n hx hb d_Prc_checkIndex_16 rfl (lv_at hl 0 rfl) ?_
  exact kv_iret (w := j) hx hb hr rfl hlocks rfl d_Prc_checkIndex_17
theorem k_Prc_checkIndexN {l : Launch} {g : kG} {α : kS} {j : Int32} {n : Nat} (h0 : ¬ j < 0) (h1 : j < nI n) : kV l g y_Prc_checkIndex b_Prc_checkIndex 3 (some .int) 1 1 [.int j, .int (nI n), .null] α j := by
  refine kv_ofW (by decide) (fun A ad p e s m args below meth c S hr hlocks hargs E hJ => ?_)
  have hx := S.1
  have hb := S.2.1
  have hown := S.2.2.2.1
  have hT := S.2.2.2.2
  have hS := hJ.2.2
  subst hargs
  have hl := lv_entry ([.int j, .int (nI n), .null]) (n := 3) (Nat.le_of_ble_eq_true rfl)
  rw [lg_entry_eq]
  generalize (lg_sl ([.int j, .int (nI n), .null]) ++ List.replicate (3 - (lg_sl ([.int j, .int (nI n), .null])).length) Slot.unset).toArray = ls at hl ⊢
  have hl : lv_has ls 3 [(0, .int j), (1, .int (nI n)), (2, .null)] := hl
  refine lv_iload_n hx hb d_Prc_checkIndex_0 rfl (lv_at hl 0 rfl) ?_
  refine lv_if_lt (tgt := 9) hx hb d_Prc_checkIndex_1 (by decide) (fun h => absurd h h0) (fun _ => ?_)
  refine lv_iload_n hx hb d_Prc_checkIndex_4 rfl (lv_at hl 0 rfl) ?_
  refine lv_iload_n hx hb d_Prc_checkIndex_5 rfl (lv_at hl 1 rfl) ?_
  refine lv_icmp_lt (tgt := 16) hx hb d_Prc_checkIndex_6 (by decide) (fun _ => ?_) (fun h => absurd h1 h)
  refine lv_iload_n hx hb d_Prc_checkIndex_16 rfl (lv_at hl 0 rfl) ?_
  exact kv_iret (w := j) hx hb hr rfl hlocks rfl d_Prc_checkIndex_17
theorem kw_Str_335 : kWv "java/lang/String" 335 "java/lang/String" y_Str_coder b_Str_coder 1 (some .byte) 0 := ⟨vt_1770, vt_1771, vt_1772, vt_303, vt_1773, by decide, by decide, by decide +kernel⟩
theorem kw_Str_1059 : kWs "java/lang/String" 1059 y_Prc_checkIndex b_Prc_checkIndex 3 (some .int) 3 := ⟨vt_1786, vt_1787, vt_1761, vt_1788, by decide, by decide, by decide +kernel⟩
theorem kw_Lat_9 : kWs "java/lang/StringLatin1" 9 y_Str_checkIndex b_Str_checkIndex 2 none 2 := ⟨vt_1782, vt_1783, vt_303, vt_1784, by decide, by decide, by decide +kernel⟩
theorem kw_Str_492 : kWv "java/lang/String" 492 "java/lang/String" y_Str_isLatin1 b_Str_isLatin1 1 (some .boolean) 0 := ⟨vt_1775, vt_1776, vt_1777, vt_303, vt_1778, by decide, by decide, by decide +kernel⟩
theorem kw_Str_495 : kWs "java/lang/String" 495 y_Lat_charAt b_Lat_charAt 2 (some .char) 2 := ⟨vt_1779, vt_1780, vt_1760, vt_1781, by decide, by decide, by decide +kernel⟩
theorem k_Str_length {l : Launch} {g : kG} {α : kS} {i : Nat} (hi : i < 51) : kV l g y_Str_length b_Str_length 1 (some .int) 2 21 [.ref (kst g i)] α (sLn i) := by
  refine kv_ofW (by decide) (fun A ad p e s m args below meth c S hr hlocks hargs E hJ => ?_)
  have hx := S.1
  have hb := S.2.1
  have hown := S.2.2.2.1
  have hT := S.2.2.2.2
  have hS := hJ.2.2
  subst hargs
  have hl := lv_entry ([.ref (kst g i)]) (n := 1) (Nat.le_of_ble_eq_true rfl)
  rw [lg_entry_eq]
  generalize (lg_sl ([.ref (kst g i)]) ++ List.replicate (1 - (lg_sl ([.ref (kst g i)])).length) Slot.unset).toArray = ls at hl ⊢
  have hl : lv_has ls 1 [(0, .ref (kst g i))] := hl
  refine lv_aload_n hx hb d_Str_length_0 rfl (lv_at hl 0 rfl) ?_
  refine vk_getf hx hb (E.2.2.2.2.1 i hi).2.2.1 hS hown (hT _ vt_1915) (fun _ h => h) d_Str_length_1 ?_
  refine va_tlen (v := nI (sLen.getD i 0)) hx hb (E.2.2.2.2.1 i hi).2.2.2 hS rfl d_Str_length_4 ?_
  refine lv_aload_n hx hb d_Str_length_5 rfl (lv_at hl 0 rfl) ?_
  refine kg_p (As := []) (rest := [.int (nI (sLen.getD i 0))]) (k_Str_coder hi) S E hJ kw_Str_335 ⟨Nat.le_of_ble_eq_true rfl, Nat.le_of_ble_eq_true rfl⟩ ⟨Nat.le_refl _, Nat.le_refl _⟩ (kv_Str hi E hJ) rfl hl.1 rfl (Nat.le_of_ble_eq_true rfl) d_Str_length_6 rfl ?_
  refine lv_ishr hx hb d_Str_length_9 ?_
  exact kv_iret (w := nI (sLen.getD i 0) >>> ((0 : Int32) &&& 31)) hx hb hr rfl hlocks (sLn_ok i hi).2 d_Str_length_10
theorem k_Str_checkIndex {l : Launch} {g : kG} {α : kS} {j : Int32} {n : Nat} (h0 : ¬ j < 0) (h1 : j < nI n) : kU l g y_Str_checkIndex b_Str_checkIndex 2 none 2 30 [.int j, .int (nI n)] α := by
  refine ku_ofW (by decide) (fun A ad p e s m args below meth c S hr hlocks hargs E hJ => ?_)
  have hx := S.1
  have hb := S.2.1
  have hown := S.2.2.2.1
  have hT := S.2.2.2.2
  have hS := hJ.2.2
  subst hargs
  have hl := lv_entry ([.int j, .int (nI n)]) (n := 2) (Nat.le_of_ble_eq_true rfl)
  rw [lg_entry_eq]
  generalize (lg_sl ([.int j, .int (nI n)]) ++ List.replicate (2 - (lg_sl ([.int j, .int (nI n)])).length) Slot.unset).toArray = ls at hl ⊢
  have hl : lv_has ls 2 [(0, .int j), (1, .int (nI n))] := hl
  refine lv_iload_n hx hb d_Str_checkIndex_0 rfl (lv_at hl 0 rfl) ?_
  refine lv_iload_n hx hb d_Str_checkIndex_1 rfl (lv_at hl 1 rfl) ?_
  rcases E.2.2.2.2.2.2.2 with ht | ⟨t, ht⟩
  · refine va_gets hx hb ht hS hown (hT _ vt_1785) (fun _ h => h) d_Str_checkIndex_2 ?_
    refine kg_pS (As := [.int j, .int (nI n), .null]) (rest := []) (k_Prc_checkIndexN h0 h1) S E hJ kw_Str_1059 ⟨Nat.le_of_ble_eq_true rfl, Nat.le_of_ble_eq_true rfl⟩ ⟨Nat.le_refl _, Nat.le_refl _⟩ rfl hl.1 rfl (Nat.le_of_ble_eq_true rfl) d_Str_checkIndex_5 ?_
    refine lv_pop hx hb d_Str_checkIndex_8 rfl ?_
    exact W.vret hx hb hr (fun t ht hW => ⟨rfl, ht⟩) (fun _ h => nomatch h) d_Str_checkIndex_9
  · refine va_gets hx hb ht hS hown (hT _ vt_1785) (fun _ h => h) d_Str_checkIndex_2 ?_
    refine kg_pS (As := [.int j, .int (nI n), .ref t]) (rest := []) (k_Prc_checkIndex h0 h1) S E hJ kw_Str_1059 ⟨Nat.le_of_ble_eq_true rfl, Nat.le_of_ble_eq_true rfl⟩ ⟨Nat.le_refl _, Nat.le_refl _⟩ rfl hl.1 rfl (Nat.le_of_ble_eq_true rfl) d_Str_checkIndex_5 ?_
    refine lv_pop hx hb d_Str_checkIndex_8 rfl ?_
    exact W.vret hx hb hr (fun t ht hW => ⟨rfl, ht⟩) (fun _ h => nomatch h) d_Str_checkIndex_9
theorem k_Lat_charAt {l : Launch} {g : kG} {α : kS} {i : Nat} (hi : i < 51) {j v : Int32} (h : sCh i j = some v) : kV l g y_Lat_charAt b_Lat_charAt 2 (some .char) 3 60 [.ref (ksv g i), .int j] α v := by
  unfold sCh at h
  by_cases hc : j < 0 ∨ sLen.getD i 0 ≤ j.toNatClampNeg
  · rw [if_pos hc] at h; cases h
  rw [if_neg hc] at h
  have hin : vp_in j (sLen.getD i 0) := hc
  have h0 : ¬ j < 0 := fun z => hc (Or.inl z)
  have hlt : j.toNatClampNeg < sLen.getD i 0 := Nat.not_le.mp fun z => hc (Or.inr z)
  have h1 : j < nI (sLen.getD i 0) := by
    obtain ⟨k, hk, rfl⟩ := nI_of h0
    rw [nI_clamp hk] at hlt
    exact nI_lt hlt (sLn_ok i hi).1
  refine kv_ofW (by decide) (fun A ad p e s m args below meth c S hr hlocks hargs E hJ => ?_)
  have hx := S.1
  have hb := S.2.1
  have hown := S.2.2.2.1
  have hT := S.2.2.2.2
  have hS := hJ.2.2
  subst hargs
  have hl := lv_entry ([.ref (ksv g i), .int j]) (n := 2) (Nat.le_of_ble_eq_true rfl)
  rw [lg_entry_eq]
  generalize (lg_sl ([.ref (ksv g i), .int j]) ++ List.replicate (2 - (lg_sl ([.ref (ksv g i), .int j])).length) Slot.unset).toArray = ls at hl ⊢
  have hl : lv_has ls 2 [(0, .ref (ksv g i)), (1, .int j)] := hl
  refine lv_iload_n hx hb d_Lat_charAt_0 rfl (lv_at hl 1 rfl) ?_
  refine lv_aload_n hx hb d_Lat_charAt_1 rfl (lv_at hl 0 rfl) ?_
  refine va_tlen (v := nI (sLen.getD i 0)) hx hb (E.2.2.2.2.1 i hi).2.2.2 hS rfl d_Lat_charAt_2 ?_
  refine kg_uS (As := [.int j, .int (nI (sLen.getD i 0))]) (rest := []) (k_Str_checkIndex h0 h1) S E hJ kw_Lat_9 ⟨Nat.le_of_ble_eq_true rfl, Nat.le_of_ble_eq_true rfl⟩ ⟨Nat.le_refl _, Nat.le_refl _⟩ rfl hl.1 rfl (Nat.le_of_ble_eq_true rfl) d_Lat_charAt_3 ?_
  refine lv_aload_n hx hb d_Lat_charAt_6 rfl (lv_at hl 0 rfl) ?_
  refine lv_iload_n hx hb d_Lat_charAt_7 rfl (lv_at hl 1 rfl) ?_
  refine va_tb hx hb (E.2.2.2.2.1 i hi).2.2.2 hS hin rfl d_Lat_charAt_8 ?_
  refine lv_sipush (v := 255) hx hb d_Lat_charAt_9 (by decide) ?_
  refine lv_iand hx hb d_Lat_charAt_12 ?_
  refine lv_i2c hx hb d_Lat_charAt_13 (sCh_ok i hi _ hlt).1 ?_
  exact kv_iret hx hb hr (sCh_ok i hi _ hlt).2 hlocks (Option.some.inj h) d_Lat_charAt_14
theorem k_Str_charAt {l : Launch} {g : kG} {α : kS} {i : Nat} (hi : i < 51) (j : Int32) : ∀ v, sCh i j = some v → kV l g y_Str_charAt b_Str_charAt 2 (some .char) 4 90 [.ref (kst g i), .int j] α v := by
  intro v h
  have hn : narrow .char (.int v) = .int v := by
    unfold sCh at h
    by_cases hc : j < 0 ∨ sLen.getD i 0 ≤ j.toNatClampNeg
    · rw [if_pos hc] at h; cases h
    · rw [if_neg hc] at h; cases h; exact (sCh_ok i hi _ (Nat.not_le.mp fun z => hc (Or.inr z))).2
  refine kv_ofW (by decide) (fun A ad p e s m args below meth c S hr hlocks hargs E hJ => ?_)
  have hx := S.1
  have hb := S.2.1
  have hown := S.2.2.2.1
  have hT := S.2.2.2.2
  have hS := hJ.2.2
  subst hargs
  have hl := lv_entry ([.ref (kst g i), .int j]) (n := 2) (Nat.le_of_ble_eq_true rfl)
  rw [lg_entry_eq]
  generalize (lg_sl ([.ref (kst g i), .int j]) ++ List.replicate (2 - (lg_sl ([.ref (kst g i), .int j])).length) Slot.unset).toArray = ls at hl ⊢
  have hl : lv_has ls 2 [(0, .ref (kst g i)), (1, .int j)] := hl
  refine lv_aload_n hx hb d_Str_charAt_0 rfl (lv_at hl 0 rfl) ?_
  refine kg_p (As := []) (rest := []) (k_Str_isLatin1 hi) S E hJ kw_Str_492 ⟨Nat.le_of_ble_eq_true rfl, Nat.le_of_ble_eq_true rfl⟩ ⟨Nat.le_refl _, Nat.le_refl _⟩ (kv_Str hi E hJ) rfl hl.1 rfl (Nat.le_of_ble_eq_true rfl) d_Str_charAt_1 rfl ?_
  refine lv_if_eq (tgt := 16) hx hb d_Str_charAt_4 (by decide) (fun h => absurd h (by decide)) (fun _ => ?_)
  refine lv_aload_n hx hb d_Str_charAt_7 rfl (lv_at hl 0 rfl) ?_
  refine vk_getf hx hb (E.2.2.2.2.1 i hi).2.2.1 hS hown (hT _ vt_1915) (fun _ h => h) d_Str_charAt_8 ?_
  refine lv_iload_n hx hb d_Str_charAt_11 rfl (lv_at hl 1 rfl) ?_
  refine kg_pS (As := [.ref (ksv g i), .int j]) (rest := []) (k_Lat_charAt hi h) S E hJ kw_Str_495 ⟨Nat.le_of_ble_eq_true rfl, Nat.le_of_ble_eq_true rfl⟩ ⟨Nat.le_refl _, Nat.le_refl _⟩ rfl hl.1 rfl (Nat.le_of_ble_eq_true rfl) d_Str_charAt_12 ?_
  exact kv_iret hx hb hr hn hlocks rfl d_Str_charAt_15
