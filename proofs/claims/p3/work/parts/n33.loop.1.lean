theorem law_end {p : Program} {l : Launch} {e : Env} {s : State} {m : MethodId} {below : List Frame} {meth : Method} {c : Code} {b L : Nat} {xs : Nat → Int32} (C0 : lw_At p s m meth c b L xs) {H : Heap} {locs : List Loc} {ls : Array Slot} {cs sl : Nat} (h1 : cs ≤ 234476) (h2 : sl ≤ 8392676) (hS : ∀ q ∈ locs, s.heap.size ≤ q.base) :
    W p l e room_1 s m #[Value.ref b] below meth c H locs cs sl (lw_Z below #[Value.ref b] s) (F0 m 458 ls []) := by
  obtain ⟨hx, hb, hr, hml, hown, hts, hX, hbl, hlocks, hgv⟩ := C0
  refine lv_iconst (v := 1) hx hb d_Law_law_458 (by decide) ?_
  refine va_forget hS ?_
  refine W.widen (k := 234476) (n := 8392676) h1 h2 ?_
  exact lw_ret hx hb hr hlocks d_Law_law_459
theorem vl_15 (x : Int32) : ∃ j : Nat, j < 16 ∧ x &&& 15 = nI j := pk_andE x (m := 15) 4 (by decide)
theorem vl_gt {L k : Nat} (hL : L ≤ 3072) (hk : k ≤ 512) (h : L < 6 * k + 6) : (Int32.ofNat L : Int32) - 6 < nI (6 * k) := by
  rcases Nat.lt_or_ge L 6 with z | z
  · have h0 : (Int32.ofNat L : Int32) - 6 < 0 := by
      rcases (show L = 0 ∨ L = 1 ∨ L = 2 ∨ L = 3 ∨ L = 4 ∨ L = 5 by omega) with rfl | rfl | rfl | rfl | rfl | rfl <;> decide
    exact Int32.lt_of_lt_of_le h0 (nI_le (a := 0) (Nat.zero_le _) (by omega))
  · have e : (Int32.ofNat L : Int32) - 6 = nI (L - 6) := sub_nI (a := L) (b := 6) z
    rw [e]
    exact nI_lt (by omega) (by omega)
theorem lTI.up {k : Nat} {α : kS} {β : mS} (h : lTI k α β) : lTI (k + 1) α β := by
  obtain ⟨c, sz, h1, h2, h3, h4⟩ := h
  exact ⟨c, sz, h1, h2, by omega, h4⟩
set_option maxHeartbeats 4000000 in
set_option maxRecDepth 100000 in
/-- the loop -/
theorem law_go (l : Launch) (hfl : kFl l) {p : Program} {e : Env} {s : State} {m : MethodId} {below : List Frame} {meth : Method} {c : Code} {b L : Nat} {xs : Nat → Int32} (C0 : lw_At p s m meth c b L xs) {g : mG} {o : Nat} {A : Nat → Prop} (hAe : A = fun q : Nat => s.heap.size ≤ q) (E : lE g A s) (hL : L ≤ 3072) : ∀ (d k : Nat) {α : kS} {ad : Nat → Nat} {β : mS} {w : Nat → Int64} {H : Heap} {locs : List Loc} {ls : Array Slot} {cells slots : Nat}, L < 6 * (k + d) + 6 → k ≤ 512 → lTI k α β → lJ g o A s α ad β w H locs → lPC k α cells slots → lv_has ls 7 [(4, .int (nI (6 * k))), (0, .ref b), (1, .ref (kad g.1 0)), (2, .ref (mad g 0)), (3, .ref o)] → W p l e room_1 s m #[Value.ref b] below meth c H locs cells slots (lw_Z below #[Value.ref b] s) (F0 m 23 ls [])
  | 0, k, α, ad, β, w, H, locs, ls, cells, slots, hd, hk5, hI, hJ, hC, hl => by
    obtain ⟨hx, hb, hr, hml, hown, hts, hX0, hbl, hlocks, hgv⟩ := id C0
    have hT : ∀ w ∈ vT, w.before _ s = true := fun w h => hts w (vT_in w h)
    have hbA : ¬ A b := by rw [hAe]; exact Nat.not_le.mpr hbl
    have hF := hJ.2.1.F
    have fin : W p l e room_1 s m #[Value.ref b] below meth c H locs cells slots (lw_Z below #[Value.ref b] s) (F0 m 458 ls []) := law_end C0 (hC.end hF (by omega)).1 (hC.end hF (by omega)).2 (fun q hq => by have := hJ.2.2.2.2 q hq; rw [hAe] at this; exact this)
    refine lv_iload hx hb d_Law_law_23 (lv_at hl 0 rfl) ?_
    refine lv_aload_n hx hb d_Law_law_25 rfl (lv_at hl 1 rfl) ?_
    refine va_slen hx hb hX0 hbl hbA hJ.2.2 d_Law_law_26 ?_
    refine lv_bipush (v := 6) hx hb d_Law_law_27 (by decide) ?_
    refine lv_isub hx hb d_Law_law_29 ?_
    refine lv_icmp_gt (tgt := 458) hx hb d_Law_law_30 (by decide) (fun _ => fin) (fun c1 => ?_)
    have hkL : 6 * k + 6 ≤ L := Nat.not_lt.mp fun z => c1 (vl_gt hL (by omega) z)
    omega
  | d + 1, k, α, ad, β, w, H, locs, ls, cells, slots, hd, hk5, hI, hJ, hC, hl => by
    obtain ⟨hx, hb, hr, hml, hown, hts, hX0, hbl, hlocks, hgv⟩ := id C0
    have hT : ∀ w ∈ vT, w.before _ s = true := fun w h => hts w (vT_in w h)
    have hbA : ¬ A b := by rw [hAe]; exact Nat.not_le.mpr hbl
    have hF := hJ.2.1.F
    have fin : W p l e room_1 s m #[Value.ref b] below meth c H locs cells slots (lw_Z below #[Value.ref b] s) (F0 m 458 ls []) := law_end C0 (hC.end hF (by omega)).1 (hC.end hF (by omega)).2 (fun q hq => by have := hJ.2.2.2.2 q hq; rw [hAe] at this; exact this)
    refine lv_iload hx hb d_Law_law_23 (lv_at hl 0 rfl) ?_
    refine lv_aload_n hx hb d_Law_law_25 rfl (lv_at hl 1 rfl) ?_
    refine va_slen hx hb hX0 hbl hbA hJ.2.2 d_Law_law_26 ?_
    refine lv_bipush (v := 6) hx hb d_Law_law_27 (by decide) ?_
    refine lv_isub hx hb d_Law_law_29 ?_
    refine lv_icmp_gt (tgt := 458) hx hb d_Law_law_30 (by decide) (fun _ => fin) (fun c1 => ?_)
    have hkL : 6 * k + 6 ≤ L := Nat.not_lt.mp fun z => c1 (vl_gt hL (by omega) z)
    refine lv_aload_n hx hb d_Law_law_33 rfl (lv_at hl 1 rfl) ?_
    refine lv_iload hx hb d_Law_law_34 (lv_at hl 0 rfl) ?_
    refine va_sld hx hb hX0 hbl hbA hJ.2.2 (vp_in_nI (n := 6 * k) (by omega) (by omega)) d_Law_law_36 ?_
    refine lv_bipush (v := 15) hx hb d_Law_law_37 (by decide) ?_
    refine lv_iand hx hb d_Law_law_39 ?_
    obtain ⟨j, hj, hje⟩ := vl_15 (xs (nI (6 * k)).toNatClampNeg)
    refine lv_topi (fun xj exj => ?_)
    have exj : xj = nI j := exj.trans hje
    clear hje
    subst exj
    have next : ∀ (α' : kS) (ad' : Nat → Nat) (β' : mS) (w' : Nat → Int64) (H' : Heap) (locs' : List Loc) (ls' : Array Slot) (cells' slots' : Nat), lTI (k + 1) α' β' → lJ g o A s α' ad' β' w' H' locs' → lPC (k + 1) α' cells' slots' → lv_has ls' 7 [(4, .int (nI (6 * k))), (0, .ref b), (1, .ref (kad g.1 0)), (2, .ref (mad g 0)), (3, .ref o)] → W p l e room_1 s m #[Value.ref b] below meth c H' locs' cells' slots' (lw_Z below #[Value.ref b] s) (F0 m 452 ls' []) := by
      intro α' ad' β' w' H' locs' ls' cells' slots' h1 h2 h3 h4
      refine lv_iinc (v := nI (6 * (k + 1))) (lv' := [(4, .int (nI (6 * (k + 1)))), (0, .ref b), (1, .ref (kad g.1 0)), (2, .ref (mad g 0)), (3, .ref o)]) hx hb d_Law_law_452 h4 (k := 0) rfl (nI_add (6 * k) 6) (by decide) rfl (fun ls hl => ?_)
      refine lv_goto (tgt := 23) hx hb d_Law_law_455 (by decide) ?_
      exact law_go l hfl C0 hAe E hL d (k + 1) (by omega) (by omega) h1 h2 h3 hl
    rcases (show j = 0 ∨ j = 1 ∨ j = 2 ∨ j = 3 ∨ j = 4 ∨ j = 5 ∨ j = 6 ∨ j = 7 ∨ j = 8 ∨ j = 9 ∨ j = 10 ∨ j = 11 ∨ j = 12 ∨ j = 13 ∨ j = 14 ∨ j = 15 by omega) with rfl | rfl | rfl | rfl | rfl | rfl | rfl | rfl | rfl | rfl | rfl | rfl | rfl | rfl | rfl | rfl
    · refine lv_tableIn (tgt := 96) (off := 56) hx hb d_Law_law_40 (by decide) (by decide) (by decide) (by decide) ?_
      exact law_c_feed l hfl C0 hAe E hL hkL hI hJ hC hl next
    · refine lv_tableIn (tgt := 172) (off := 132) hx hb d_Law_law_40 (by decide) (by decide) (by decide) (by decide) ?_
      exact law_c_end l hfl C0 hAe E hL hkL hI hJ hC hl next
    · refine lv_tableIn (tgt := 228) (off := 188) hx hb d_Law_law_40 (by decide) (by decide) (by decide) (by decide) ?_
      exact law_c_read l hfl C0 hAe E hL hkL hI hJ hC hl next
    · refine lv_tableIn (tgt := 241) (off := 201) hx hb d_Law_law_40 (by decide) (by decide) (by decide) (by decide) ?_
      exact law_c_fault l hfl C0 hAe E hL hkL hI hJ hC hl next
    · refine lv_tableIn (tgt := 266) (off := 226) hx hb d_Law_law_40 (by decide) (by decide) (by decide) (by decide) ?_
      exact law_c_reset l hfl C0 hAe E hL hkL hI hJ hC hl next
    · refine lv_tableIn (tgt := 279) (off := 239) hx hb d_Law_law_40 (by decide) (by decide) (by decide) (by decide) ?_
      exact law_c_constant l hfl C0 hAe E hL hkL hI hJ hC hl next
    · refine lv_tableIn (tgt := 319) (off := 279) hx hb d_Law_law_40 (by decide) (by decide) (by decide) (by decide) ?_
      exact law_c_show l hfl C0 hAe E hL hkL hI hJ hC hl next
    · refine lv_tableIn (tgt := 359) (off := 319) hx hb d_Law_law_40 (by decide) (by decide) (by decide) (by decide) ?_
      exact law_c_showRec l hfl C0 hAe E hL hkL hI hJ hC hl next
    · refine lv_tableIn (tgt := 399) (off := 359) hx hb d_Law_law_40 (by decide) (by decide) (by decide) (by decide) ?_
      exact law_c_out l hfl C0 hAe E hL hkL hI hJ hC hl next
    · refine lv_tableIn (tgt := 427) (off := 387) hx hb d_Law_law_40 (by decide) (by decide) (by decide) (by decide) ?_
      exact law_c_count l hfl C0 hAe E hL hkL hI hJ hC hl next
    · refine lv_tableOut (tgt := 452) hx hb d_Law_law_40 (by decide) (by decide) ?_
      exact next _ _ _ _ _ _ _ _ _ hI.up hJ hC.d0.n0 hl
    · refine lv_tableOut (tgt := 452) hx hb d_Law_law_40 (by decide) (by decide) ?_
      exact next _ _ _ _ _ _ _ _ _ hI.up hJ hC.d0.n0 hl
    · refine lv_tableOut (tgt := 452) hx hb d_Law_law_40 (by decide) (by decide) ?_
      exact next _ _ _ _ _ _ _ _ _ hI.up hJ hC.d0.n0 hl
    · refine lv_tableOut (tgt := 452) hx hb d_Law_law_40 (by decide) (by decide) ?_
      exact next _ _ _ _ _ _ _ _ _ hI.up hJ hC.d0.n0 hl
    · refine lv_tableOut (tgt := 452) hx hb d_Law_law_40 (by decide) (by decide) ?_
      exact next _ _ _ _ _ _ _ _ _ hI.up hJ hC.d0.n0 hl
    · refine lv_tableOut (tgt := 452) hx hb d_Law_law_40 (by decide) (by decide) ?_
      exact next _ _ _ _ _ _ _ _ _ hI.up hJ hC.d0.n0 hl
