set_option maxHeartbeats 4000000 in
set_option maxRecDepth 100000 in
theorem law_c_feed (l : Launch) (hfl : l.flags = flags0) {p : Program} {e : Env} {s : State} {m : MethodId} {below : List Frame} {meth : Method} {c : Code} {b : Nat} {xs : Nat → Int32} (C0 : lw_At p s m meth c b 6 xs) {dC : Nat → ClassId} {dI : Nat → Nat → Nat} {h0 tp ta sh sa me te t1 t2 t3 t4 t5 t6 t7 t8 en fc fa nn lx tk ka pa fr re ty fm pr mm mt o : Nat} {cT cK cB cJ : ClassId} {fs : List Value} (hz : Mz fs) (htp : fs[0]? = some (.ref mt)) {H : Heap} {locs : List Loc} {ls : Array Slot} {A : Nat → Prop} (hAe : (fun q : Nat => s.heap.size ≤ q) = A) (hK : va_K (dC, dI) classes [(cT, .int), (cK, .int), (cB, .byte), (cJ, .long)] s) (hP : va_P (dC, dI) classes [(h0, .inr (11, [.ref tp, .ref sh, .ref me, .ref te, .ref en, .ref lx, .ref pa, .ref fr, .ref re, .ref ty, .ref fm, .ref pr, .int 0, .int 0])), (tp, .inr (0, [.int 65536, .ref ta, .int 0])), (ta, .inl (cT, 256, .inl (fun _ => 0))), (sh, .inr (0, [.int 65536, .ref sa, .int 0])), (me, .inr (1, [.int 0, .int 0, .int 0, .int 0])), (te, .inr (2, [.ref me, .ref t1, .ref t2, .ref t3, .ref t4, .ref t5, .ref t6, .ref t7, .ref t8, .int 0])), (en, .inr (3, [.ref fc, .ref nn, .int 0])), (fc, .inr (0, [.int 16777216, .ref fa, .int 0])), (lx, .inr (4, [.ref tp, .ref tk, .int 0, .int 0, .int 0, .int 0, .int 0])), (tk, .inr (0, [.int 16777216, .ref ka, .int 0])), (ka, .inl (cK, 64, .inl (fun _ => 0))), (mm, .inr (12, fs)), (mt, .inl (cB, 65536, .inl (fun _ => 0))), (o, .inl (cJ, 1, .inr (.inl (fun _ => 0))))] H) (hD : va_D A [(h0, .inr (11, [.ref tp, .ref sh, .ref me, .ref te, .ref en, .ref lx, .ref pa, .ref fr, .ref re, .ref ty, .ref fm, .ref pr, .int 0, .int 0])), (tp, .inr (0, [.int 65536, .ref ta, .int 0])), (ta, .inl (cT, 256, .inl (fun _ => 0))), (sh, .inr (0, [.int 65536, .ref sa, .int 0])), (me, .inr (1, [.int 0, .int 0, .int 0, .int 0])), (te, .inr (2, [.ref me, .ref t1, .ref t2, .ref t3, .ref t4, .ref t5, .ref t6, .ref t7, .ref t8, .int 0])), (en, .inr (3, [.ref fc, .ref nn, .int 0])), (fc, .inr (0, [.int 16777216, .ref fa, .int 0])), (lx, .inr (4, [.ref tp, .ref tk, .int 0, .int 0, .int 0, .int 0, .int 0])), (tk, .inr (0, [.int 16777216, .ref ka, .int 0])), (ka, .inl (cK, 64, .inl (fun _ => 0))), (mm, .inr (12, fs)), (mt, .inl (cB, 65536, .inl (fun _ => 0))), (o, .inl (cJ, 1, .inr (.inl (fun _ => 0))))]) (hS : va_S A s.heap H locs) (hl : lv_has ls 7 [(4, .int 0), (0, .ref b), (1, .ref h0), (2, .ref mm), (3, .ref o)]) : W p l e room_1 s m #[Value.ref b] below meth c H locs 104 2672977 (lw_Z below #[Value.ref b] s) (F0 m 96 ls []) := by
  obtain ⟨hx, hb, hr, hml, hown, hts, hX0, hbl, hlocks, hgv⟩ := id C0
  have hT : ∀ w ∈ vT, w.before _ s = true := fun w h => hts w (vT_in w h)
  have hA : ∀ q : Nat, s.heap.size ≤ q → A q := fun q h => by rw [← hAe]; exact h
  have hAn : ∀ q : Nat, q < s.heap.size → ¬ A q := fun q h => by rw [← hAe]; exact Nat.not_le.mpr h
  have hbA : ¬ A b := hAn b hbl
  refine lv_aload_n hx hb d_Law_law_96 rfl (lv_at hl 2 rfl) ?_
  refine lv_aload_n hx hb d_Law_law_97 rfl (lv_at hl 1 rfl) ?_
  refine lv_iload hx hb d_Law_law_98 (lv_at hl 0 rfl) ?_
  refine lv_iconst (v := 1) hx hb d_Law_law_100 (by decide) ?_
  refine lv_iadd hx hb d_Law_law_101 ?_
  refine lv_topi (fun x_1 ex_1 => ?_)
  obtain rfl : x_1 = 1 := by rw [ex_1]; decide
  refine va_sld hx hb hX0 hbl hbA hS (vp_in_nI (n := 1) (by decide) (by decide)) d_Law_law_102 ?_
  refine lv_aload_n hx hb d_Law_law_103 rfl (lv_at hl 1 rfl) ?_
  refine lv_iload hx hb d_Law_law_104 (lv_at hl 0 rfl) ?_
  refine lv_iconst (v := 2) hx hb d_Law_law_106 (by decide) ?_
  refine lv_iadd hx hb d_Law_law_107 ?_
  refine lv_topi (fun x_2 ex_2 => ?_)
  obtain rfl : x_2 = 2 := by rw [ex_2]; decide
  refine va_sld hx hb hX0 hbl hbA hS (vp_in_nI (n := 2) (by decide) (by decide)) d_Law_law_108 ?_
  refine lv_aload_n hx hb d_Law_law_109 rfl (lv_at hl 1 rfl) ?_
  refine lv_iload hx hb d_Law_law_110 (lv_at hl 0 rfl) ?_
  refine lv_iconst (v := 3) hx hb d_Law_law_112 (by decide) ?_
  refine lv_iadd hx hb d_Law_law_113 ?_
  refine lv_topi (fun x_3 ex_3 => ?_)
  obtain rfl : x_3 = 3 := by rw [ex_3]; decide
  refine va_sld hx hb hX0 hbl hbA hS (vp_in_nI (n := 3) (by decide) (by decide)) d_Law_law_114 ?_
  refine lv_aload_n hx hb d_Law_law_115 rfl (lv_at hl 1 rfl) ?_
  refine lv_iload hx hb d_Law_law_116 (lv_at hl 0 rfl) ?_
  refine lv_iconst (v := 4) hx hb d_Law_law_118 (by decide) ?_
  refine lv_iadd hx hb d_Law_law_119 ?_
  refine lv_topi (fun x_4 ex_4 => ?_)
  obtain rfl : x_4 = 4 := by rw [ex_4]; decide
  refine va_sld hx hb hX0 hbl hbA hS (vp_in_nI (n := 4) (by decide) (by decide)) d_Law_law_120 ?_
  refine lv_aload_n hx hb d_Law_law_121 rfl (lv_at hl 1 rfl) ?_
  refine lv_iload hx hb d_Law_law_122 (lv_at hl 0 rfl) ?_
  refine lv_iconst (v := 5) hx hb d_Law_law_124 (by decide) ?_
  refine lv_iadd hx hb d_Law_law_125 ?_
  refine lv_topi (fun x_5 ex_5 => ?_)
  obtain rfl : x_5 = 5 := by rw [ex_5]; decide
  refine va_sld hx hb hX0 hbl hbA hS (vp_in_nI (n := 5) (by decide) (by decide)) d_Law_law_126 ?_
  refine lv_aload_n hx hb d_Law_law_127 rfl (lv_at hl 4 rfl) ?_
  have hP : va_P (dC, dI) classes [(h0, .inr (11, [.ref tp, .ref sh, .ref me, .ref te, .ref en, .ref lx, .ref pa, .ref fr, .ref re, .ref ty, .ref fm, .ref pr, .int 0, .int 0])), (tp, .inr (0, [.int 65536, .ref ta, .int (nI 0)])), (ta, .inl (cT, 256, .inl (fun _ => 0))), (sh, .inr (0, [.int 65536, .ref sa, .int 0])), (me, .inr (1, [.int 0, .int 0, .int 0, .int 0])), (te, .inr (2, [.ref me, .ref t1, .ref t2, .ref t3, .ref t4, .ref t5, .ref t6, .ref t7, .ref t8, .int 0])), (en, .inr (3, [.ref fc, .ref nn, .int 0])), (fc, .inr (0, [.int 16777216, .ref fa, .int 0])), (lx, .inr (4, [.ref tp, .ref tk, .int 0, .int 0, .int 0, .int 0, .int 0])), (tk, .inr (0, [.int 16777216, .ref ka, .int 0])), (ka, .inl (cK, 64, .inl (fun _ => 0))), (mm, .inr (12, fs)), (mt, .inl (cB, 65536, .inl (fun _ => 0))), (o, .inl (cJ, 1, .inr (.inl (fun _ => 0))))] H := hP
  have hD : va_D A [(h0, .inr (11, [.ref tp, .ref sh, .ref me, .ref te, .ref en, .ref lx, .ref pa, .ref fr, .ref re, .ref ty, .ref fm, .ref pr, .int 0, .int 0])), (tp, .inr (0, [.int 65536, .ref ta, .int (nI 0)])), (ta, .inl (cT, 256, .inl (fun _ => 0))), (sh, .inr (0, [.int 65536, .ref sa, .int 0])), (me, .inr (1, [.int 0, .int 0, .int 0, .int 0])), (te, .inr (2, [.ref me, .ref t1, .ref t2, .ref t3, .ref t4, .ref t5, .ref t6, .ref t7, .ref t8, .int 0])), (en, .inr (3, [.ref fc, .ref nn, .int 0])), (fc, .inr (0, [.int 16777216, .ref fa, .int 0])), (lx, .inr (4, [.ref tp, .ref tk, .int 0, .int 0, .int 0, .int 0, .int 0])), (tk, .inr (0, [.int 16777216, .ref ka, .int 0])), (ka, .inl (cK, 64, .inl (fun _ => 0))), (mm, .inr (12, fs)), (mt, .inl (cB, 65536, .inl (fun _ => 0))), (o, .inl (cJ, 1, .inr (.inl (fun _ => 0))))] := hD
  have hPc := hP.sub (ws' := [(h0, .inr (11, [.ref tp, .ref sh, .ref me, .ref te, .ref en, .ref lx, .ref pa, .ref fr, .ref re, .ref ty, .ref fm, .ref pr, .int 0, .int 0])), (tp, .inr (0, [.int 65536, .ref ta, .int (nI 0)])), (ta, .inl (cT, 256, .inl (fun _ => 0))), (o, .inl (cJ, 1, .inr (.inl (fun _ => 0))))]) [0, 1, 2, 13] rfl
  have hDc := hD.sub (ws' := [(h0, .inr (11, [.ref tp, .ref sh, .ref me, .ref te, .ref en, .ref lx, .ref pa, .ref fr, .ref re, .ref ty, .ref fm, .ref pr, .int 0, .int 0])), (tp, .inr (0, [.int 65536, .ref ta, .int (nI 0)])), (ta, .inl (cT, 256, .inl (fun _ => 0))), (o, .inl (cJ, 1, .inr (.inl (fun _ => 0))))]) [0, 1, 2, 13] (by decide) rfl
  have hKc := hK.sub (tys' := [(cT, .int), (cJ, .long)]) [0, 3] rfl
  have hFc := va_free (wc := [(h0, .inr (11, [.ref tp, .ref sh, .ref me, .ref te, .ref en, .ref lx, .ref pa, .ref fr, .ref re, .ref ty, .ref fm, .ref pr, .int 0, .int 0])), (tp, .inr (0, [.int 65536, .ref ta, .int (nI 0)])), (ta, .inl (cT, 256, .inl (fun _ => 0))), (o, .inl (cJ, 1, .inr (.inl (fun _ => 0))))]) hD hS hA [0, 1, 2, 13] rfl
  refine va_calli (vx_runSW (n := 7) (As := [.ref h0, .int (xs (1 : Int32).toNatClampNeg), .int (xs (2 : Int32).toNatClampNeg), .int (xs (3 : Int32).toNatClampNeg), .int (xs (4 : Int32).toNatClampNeg), .int (xs (5 : Int32).toNatClampNeg), .ref o]) (rest := []) ⟨hx, hb, hml, hown, hT⟩ (g_feed l dC dI H.size h0 tp ta sh sa me te t1 t2 t3 t4 t5 t6 t7 t8 en fc fa nn lx tk ka pa fr re ty fm pr cT cK o cJ (fun _ => 0) (xs (1 : Int32).toNatClampNeg) (xs (2 : Int32).toNatClampNeg) (xs (3 : Int32).toNatClampNeg) (xs (4 : Int32).toNatClampNeg) (xs (5 : Int32).toNatClampNeg)) vt_394 vt_395 vt_396 vt_397 rfl rfl (by decide +kernel) ⟨Nat.le_of_ble_eq_true rfl, Nat.le_of_ble_eq_true rfl⟩ ⟨Pw_blind, Pw_of hPc hKc hDc⟩ rfl rfl hl.1 rfl (lv_room (Nat.le_of_ble_eq_true rfl)) d_Law_law_128 ⟨Nat.le_of_ble_eq_true rfl, Nat.le_of_ble_eq_true rfl⟩) hS (fun q _ h => hFc q h) hFc (fun r_6 u t H1 locs ht hvm hw hB hz1 hk1 hS => ?_)
  obtain ⟨g2, hP1, hK1, hD1, hg2⟩ := hB
  rw [ht] at hP1
  obtain ⟨hP, hD⟩ := va_join (wr := [(sh, .inr (0, [.int 65536, .ref sa, .int 0])), (me, .inr (1, [.int 0, .int 0, .int 0, .int 0])), (te, .inr (2, [.ref me, .ref t1, .ref t2, .ref t3, .ref t4, .ref t5, .ref t6, .ref t7, .ref t8, .int 0])), (en, .inr (3, [.ref fc, .ref nn, .int 0])), (fc, .inr (0, [.int 16777216, .ref fa, .int 0])), (lx, .inr (4, [.ref tp, .ref tk, .int 0, .int 0, .int 0, .int 0, .int 0])), (tk, .inr (0, [.int 16777216, .ref ka, .int 0])), (ka, .inl (cK, 64, .inl (fun _ => 0))), (mm, .inr (12, fs)), (mt, .inl (cB, 65536, .inl (fun _ => 0)))]) (w1 := [(o, .inl (cJ, 1, .inr (.inl g2)))]) hP hD [0, 1, 2, 13] [3, 4, 5, 6, 7, 8, 9, 10, 11, 12] rfl rfl (by decide) (by decide) hk1 hFc hP1 hD1
  generalize H1 = H at hP hS ⊢
  have hP : va_P (dC, dI) classes [(sh, .inr (0, [.int 65536, .ref sa, .int 0])), (me, .inr (1, [.int 0, .int 0, .int 0, .int 0])), (te, .inr (2, [.ref me, .ref t1, .ref t2, .ref t3, .ref t4, .ref t5, .ref t6, .ref t7, .ref t8, .int 0])), (en, .inr (3, [.ref fc, .ref nn, .int 0])), (fc, .inr (0, [.int 16777216, .ref fa, .int 0])), (lx, .inr (4, [.ref tp, .ref tk, .int 0, .int 0, .int 0, .int 0, .int 0])), (tk, .inr (0, [.int 16777216, .ref ka, .int 0])), (ka, .inl (cK, 64, .inl (fun _ => 0))), (mm, .inr (12, fs)), (mt, .inl (cB, 65536, .inl (fun _ => 0))), (o, .inl (cJ, 1, .inr (.inl g2)))] H := hP
  have hD : va_D A [(sh, .inr (0, [.int 65536, .ref sa, .int 0])), (me, .inr (1, [.int 0, .int 0, .int 0, .int 0])), (te, .inr (2, [.ref me, .ref t1, .ref t2, .ref t3, .ref t4, .ref t5, .ref t6, .ref t7, .ref t8, .int 0])), (en, .inr (3, [.ref fc, .ref nn, .int 0])), (fc, .inr (0, [.int 16777216, .ref fa, .int 0])), (lx, .inr (4, [.ref tp, .ref tk, .int 0, .int 0, .int 0, .int 0, .int 0])), (tk, .inr (0, [.int 16777216, .ref ka, .int 0])), (ka, .inl (cK, 64, .inl (fun _ => 0))), (mm, .inr (12, fs)), (mt, .inl (cB, 65536, .inl (fun _ => 0))), (o, .inl (cJ, 1, .inr (.inl g2)))] := hD
  refine W.widen (k := 104) (n := 2672977) (Nat.le_of_ble_eq_true rfl) (Nat.le_of_ble_eq_true rfl) ?_
  subst hw
  refine lv_istore (lv' := [(5, .int 0), (4, .int 0), (0, .ref b), (1, .ref h0), (2, .ref mm), (3, .ref o)]) hx hb d_Law_law_131 hl (by decide) rfl (fun ls hl => ?_)
  refine lv_aload_n hx hb d_Law_law_133 rfl (lv_at hl 4 rfl) ?_
  refine lv_aload_n hx hb d_Law_law_134 rfl (lv_at hl 2 rfl) ?_
  refine lv_iload hx hb d_Law_law_135 (lv_at hl 1 rfl) ?_
  refine lv_iconst (v := 1) hx hb d_Law_law_137 (by decide) ?_
  refine lv_iadd hx hb d_Law_law_138 ?_
  refine lv_topi (fun x_7 ex_7 => ?_)
  obtain rfl : x_7 = 1 := by rw [ex_7]; decide
  refine va_sld hx hb hX0 hbl hbA hS (vp_in_nI (n := 1) (by decide) (by decide)) d_Law_law_139 ?_
  refine lv_aload_n hx hb d_Law_law_140 rfl (lv_at hl 2 rfl) ?_
  refine lv_iload hx hb d_Law_law_141 (lv_at hl 1 rfl) ?_
  refine lv_iconst (v := 2) hx hb d_Law_law_143 (by decide) ?_
  refine lv_iadd hx hb d_Law_law_144 ?_
  refine lv_topi (fun x_8 ex_8 => ?_)
  obtain rfl : x_8 = 2 := by rw [ex_8]; decide
  refine va_sld hx hb hX0 hbl hbA hS (vp_in_nI (n := 2) (by decide) (by decide)) d_Law_law_145 ?_
  refine lv_aload_n hx hb d_Law_law_146 rfl (lv_at hl 2 rfl) ?_
  refine lv_iload hx hb d_Law_law_147 (lv_at hl 1 rfl) ?_
  refine lv_iconst (v := 3) hx hb d_Law_law_149 (by decide) ?_
  refine lv_iadd hx hb d_Law_law_150 ?_
  refine lv_topi (fun x_9 ex_9 => ?_)
  obtain rfl : x_9 = 3 := by rw [ex_9]; decide
  refine va_sld hx hb hX0 hbl hbA hS (vp_in_nI (n := 3) (by decide) (by decide)) d_Law_law_151 ?_
  refine lv_aload_n hx hb d_Law_law_152 rfl (lv_at hl 2 rfl) ?_
  refine lv_iload hx hb d_Law_law_153 (lv_at hl 1 rfl) ?_
  refine lv_iconst (v := 4) hx hb d_Law_law_155 (by decide) ?_
  refine lv_iadd hx hb d_Law_law_156 ?_
  refine lv_topi (fun x_10 ex_10 => ?_)
  obtain rfl : x_10 = 4 := by rw [ex_10]; decide
  refine va_sld hx hb hX0 hbl hbA hS (vp_in_nI (n := 4) (by decide) (by decide)) d_Law_law_157 ?_
  refine lv_aload_n hx hb d_Law_law_158 rfl (lv_at hl 2 rfl) ?_
  refine lv_iload hx hb d_Law_law_159 (lv_at hl 1 rfl) ?_
  refine lv_iconst (v := 5) hx hb d_Law_law_161 (by decide) ?_
  refine lv_iadd hx hb d_Law_law_162 ?_
  refine lv_topi (fun x_11 ex_11 => ?_)
  obtain rfl : x_11 = 5 := by rw [ex_11]; decide
  refine va_sld hx hb hX0 hbl hbA hS (vp_in_nI (n := 5) (by decide) (by decide)) d_Law_law_163 ?_
  have hPc := hP.sub (ws' := [(mm, .inr (12, fs)), (mt, .inl (cB, 65536, .inl (fun _ => 0)))]) [8, 9] rfl
  have hDc := hD.sub (ws' := [(mm, .inr (12, fs)), (mt, .inl (cB, 65536, .inl (fun _ => 0)))]) [8, 9] (by decide) rfl
  have hKc := hK.sub (tys' := [(cB, .byte)]) [2] rfl
  have hFc := va_free (wc := [(mm, .inr (12, fs)), (mt, .inl (cB, 65536, .inl (fun _ => 0)))]) hD hS hA [8, 9] rfl
  refine va_calli (va_runV (As := [.int (xs (1 : Int32).toNatClampNeg), .int (xs (2 : Int32).toNatClampNeg), .int (xs (3 : Int32).toNatClampNeg), .int (xs (4 : Int32).toNatClampNeg), .int (xs (5 : Int32).toNatClampNeg)]) (rest := []) ⟨hx, hb, hml, hown, hT⟩ (c_Mod_feed l dC dI H.size mm mt cB fs hz htp (xs (1 : Int32).toNatClampNeg) (xs (2 : Int32).toNatClampNeg) (xs (3 : Int32).toNatClampNeg) (xs (4 : Int32).toNatClampNeg) (xs (5 : Int32).toNatClampNeg)) (cwV 5 hT (gV vt_398 vt_399 vt_400 vt_352 vt_401) rfl rfl rfl (by decide +kernel) ⟨Nat.le_of_ble_eq_true rfl, Nat.le_of_ble_eq_true rfl⟩) ⟨Pw_blind, va_recv hK hP (ci := 12) (q0 := 8) rfl rfl, Pw_of hPc hKc hDc⟩ rfl rfl hl.1 rfl (lv_room (Nat.le_of_ble_eq_true rfl)) d_Law_law_164 ⟨Nat.le_of_ble_eq_true rfl, Nat.le_of_ble_eq_true rfl⟩) hS (fun q _ h => hFc q h) hFc (fun r_13 u t H1 locs ht hvm hw hB hz1 hk1 hS => ?_)
  obtain ⟨fs_12, hP1, hK1, hD1, lfs_12, tfs_12⟩ := hB
  rw [ht] at hP1
  have hK1 := va_K.moved hvm.symm hK1
  obtain ⟨hP, hD⟩ := va_join (wr := [(sh, .inr (0, [.int 65536, .ref sa, .int 0])), (me, .inr (1, [.int 0, .int 0, .int 0, .int 0])), (te, .inr (2, [.ref me, .ref t1, .ref t2, .ref t3, .ref t4, .ref t5, .ref t6, .ref t7, .ref t8, .int 0])), (en, .inr (3, [.ref fc, .ref nn, .int 0])), (fc, .inr (0, [.int 16777216, .ref fa, .int 0])), (lx, .inr (4, [.ref tp, .ref tk, .int 0, .int 0, .int 0, .int 0, .int 0])), (tk, .inr (0, [.int 16777216, .ref ka, .int 0])), (ka, .inl (cK, 64, .inl (fun _ => 0))), (o, .inl (cJ, 1, .inr (.inl g2)))]) (w1 := [(mm, .inr (12, fs_12))]) hP hD [8, 9] [0, 1, 2, 3, 4, 5, 6, 7, 10] rfl rfl (by decide) (by decide) hk1 hFc hP1 hD1
  generalize H1 = H at hP hS ⊢
  have hP : va_P (dC, dI) classes [(sh, .inr (0, [.int 65536, .ref sa, .int 0])), (me, .inr (1, [.int 0, .int 0, .int 0, .int 0])), (te, .inr (2, [.ref me, .ref t1, .ref t2, .ref t3, .ref t4, .ref t5, .ref t6, .ref t7, .ref t8, .int 0])), (en, .inr (3, [.ref fc, .ref nn, .int 0])), (fc, .inr (0, [.int 16777216, .ref fa, .int 0])), (lx, .inr (4, [.ref tp, .ref tk, .int 0, .int 0, .int 0, .int 0, .int 0])), (tk, .inr (0, [.int 16777216, .ref ka, .int 0])), (ka, .inl (cK, 64, .inl (fun _ => 0))), (o, .inl (cJ, 1, .inr (.inl g2))), (mm, .inr (12, fs_12))] H := hP
  have hD : va_D A [(sh, .inr (0, [.int 65536, .ref sa, .int 0])), (me, .inr (1, [.int 0, .int 0, .int 0, .int 0])), (te, .inr (2, [.ref me, .ref t1, .ref t2, .ref t3, .ref t4, .ref t5, .ref t6, .ref t7, .ref t8, .int 0])), (en, .inr (3, [.ref fc, .ref nn, .int 0])), (fc, .inr (0, [.int 16777216, .ref fa, .int 0])), (lx, .inr (4, [.ref tp, .ref tk, .int 0, .int 0, .int 0, .int 0, .int 0])), (tk, .inr (0, [.int 16777216, .ref ka, .int 0])), (ka, .inl (cK, 64, .inl (fun _ => 0))), (o, .inl (cJ, 1, .inr (.inl g2))), (mm, .inr (12, fs_12))] := hD
  refine W.widen (k := 104) (n := 2672977) (Nat.le_of_ble_eq_true rfl) (Nat.le_of_ble_eq_true rfl) ?_
  subst hw
  refine lv_istore (lv' := [(6, .int 20), (5, .int 0), (4, .int 0), (0, .ref b), (1, .ref h0), (2, .ref mm), (3, .ref o)]) hx hb d_Law_law_167 hl (by decide) rfl (fun ls hl => ?_)
  refine lv_aload_n hx hb d_Law_law_169 rfl (lv_at hl 5 rfl) ?_
  refine W.callR (W.runV (As := []) (rest := []) ⟨hx, hb, hml, hown, hT⟩ (c_Mod_thrown l dC dI mm fs_12 0 tfs_12) (cwV 0 hT (gV vt_402 vt_403 vt_404 vt_352 vt_405) rfl rfl rfl (by decide +kernel) ⟨Nat.le_of_ble_eq_true rfl, Nat.le_of_ble_eq_true rfl⟩) ⟨Pp_blind, va_recv hK hP (ci := 12) (q0 := 9) rfl rfl, Pp_of (hP.sub (ws' := [(mm, .inr (12, fs_12))]) [9] rfl) (hK.sub (tys' := []) [] rfl)⟩ rfl rfl hl.1 rfl (lv_room (Nat.le_of_ble_eq_true rfl)) d_Law_law_170 ⟨Nat.le_of_ble_eq_true rfl, Nat.le_of_ble_eq_true rfl⟩) ?_
  refine W.eq (g2 := F0 m 173 ls [.int 0]) rfl ?_
  refine lv_iload hx hb d_Law_law_173 (lv_at hl 1 rfl) ?_
  refine lv_icmp_eq (tgt := 180) hx hb d_Law_law_175 (by decide) (fun c_14 => ?_) (fun c_14 => absurd (rfl) c_14)
  refine lv_iload hx hb d_Law_law_180 (lv_at hl 1 rfl) ?_
  refine lv_if_ne (tgt := 197) hx hb d_Law_law_182 (by decide) (fun c_15 => absurd (by decide) c_15) (fun c_15 => ?_)
  refine lv_aload_n hx hb d_Law_law_185 rfl (lv_at hl 6 rfl) ?_
  refine lv_iconst (v := 0) hx hb d_Law_law_186 (by decide) ?_
  refine va_lald hx hb hK hP 8 3 rfl rfl (vp0 (by decide) (by decide)) d_Law_law_187 ?_
  refine lv_topl (fun xl exl => ?_)
  obtain rfl : xl = 20 := by rw [exl, sb_cl0]; exact hg2
  refine lv_iload hx hb d_Law_law_188 (lv_at hl 0 rfl) ?_
  refine lv_i2l (v := 20) hx hb d_Law_law_190 (by decide) ?_
  refine W.lcmp hx hb d_Law_law_191 ?_
  refine lv_if_eq (tgt := 197) hx hb d_Law_law_192 (by decide) (fun c_16 => ?_) (fun c_16 => absurd (by decide) c_16)
  refine lv_goto (tgt := 592) hx hb d_Law_law_197 (by decide) ?_
  exact law_next C0 (Nat.le_of_ble_eq_true rfl) (Nat.le_of_ble_eq_true rfl) hAe.symm hS (lv_sub hl [2, 3] rfl)
set_option maxHeartbeats 4000000 in
set_option maxRecDepth 100000 in
theorem law_c_end (l : Launch) (hfl : l.flags = flags0) {p : Program} {e : Env} {s : State} {m : MethodId} {below : List Frame} {meth : Method} {c : Code} {b : Nat} {xs : Nat → Int32} (C0 : lw_At p s m meth c b 6 xs) {dC : Nat → ClassId} {dI : Nat → Nat → Nat} {h0 tp ta sh sa me te t1 t2 t3 t4 t5 t6 t7 t8 en fc fa nn lx tk ka pa fr re ty fm pr mm mt o : Nat} {cT cK cB cJ : ClassId} {fs : List Value} (hz : Mz fs) (htp : fs[0]? = some (.ref mt)) {H : Heap} {locs : List Loc} {ls : Array Slot} {A : Nat → Prop} (hAe : (fun q : Nat => s.heap.size ≤ q) = A) (hK : va_K (dC, dI) classes [(cT, .int), (cK, .int), (cB, .byte), (cJ, .long)] s) (hP : va_P (dC, dI) classes [(h0, .inr (11, [.ref tp, .ref sh, .ref me, .ref te, .ref en, .ref lx, .ref pa, .ref fr, .ref re, .ref ty, .ref fm, .ref pr, .int 0, .int 0])), (tp, .inr (0, [.int 65536, .ref ta, .int 0])), (ta, .inl (cT, 256, .inl (fun _ => 0))), (sh, .inr (0, [.int 65536, .ref sa, .int 0])), (me, .inr (1, [.int 0, .int 0, .int 0, .int 0])), (te, .inr (2, [.ref me, .ref t1, .ref t2, .ref t3, .ref t4, .ref t5, .ref t6, .ref t7, .ref t8, .int 0])), (en, .inr (3, [.ref fc, .ref nn, .int 0])), (fc, .inr (0, [.int 16777216, .ref fa, .int 0])), (lx, .inr (4, [.ref tp, .ref tk, .int 0, .int 0, .int 0, .int 0, .int 0])), (tk, .inr (0, [.int 16777216, .ref ka, .int 0])), (ka, .inl (cK, 64, .inl (fun _ => 0))), (mm, .inr (12, fs)), (mt, .inl (cB, 65536, .inl (fun _ => 0))), (o, .inl (cJ, 1, .inr (.inl (fun _ => 0))))] H) (hD : va_D A [(h0, .inr (11, [.ref tp, .ref sh, .ref me, .ref te, .ref en, .ref lx, .ref pa, .ref fr, .ref re, .ref ty, .ref fm, .ref pr, .int 0, .int 0])), (tp, .inr (0, [.int 65536, .ref ta, .int 0])), (ta, .inl (cT, 256, .inl (fun _ => 0))), (sh, .inr (0, [.int 65536, .ref sa, .int 0])), (me, .inr (1, [.int 0, .int 0, .int 0, .int 0])), (te, .inr (2, [.ref me, .ref t1, .ref t2, .ref t3, .ref t4, .ref t5, .ref t6, .ref t7, .ref t8, .int 0])), (en, .inr (3, [.ref fc, .ref nn, .int 0])), (fc, .inr (0, [.int 16777216, .ref fa, .int 0])), (lx, .inr (4, [.ref tp, .ref tk, .int 0, .int 0, .int 0, .int 0, .int 0])), (tk, .inr (0, [.int 16777216, .ref ka, .int 0])), (ka, .inl (cK, 64, .inl (fun _ => 0))), (mm, .inr (12, fs)), (mt, .inl (cB, 65536, .inl (fun _ => 0))), (o, .inl (cJ, 1, .inr (.inl (fun _ => 0))))]) (hS : va_S A s.heap H locs) (hl : lv_has ls 7 [(4, .int 0), (0, .ref b), (1, .ref h0), (2, .ref mm), (3, .ref o)]) : W p l e room_1 s m #[Value.ref b] below meth c H locs 104 2672977 (lw_Z below #[Value.ref b] s) (F0 m 200 ls []) := by
  obtain ⟨hx, hb, hr, hml, hown, hts, hX0, hbl, hlocks, hgv⟩ := id C0
  have hT : ∀ w ∈ vT, w.before _ s = true := fun w h => hts w (vT_in w h)
  have hA : ∀ q : Nat, s.heap.size ≤ q → A q := fun q h => by rw [← hAe]; exact h
  have hAn : ∀ q : Nat, q < s.heap.size → ¬ A q := fun q h => by rw [← hAe]; exact Nat.not_le.mpr h
  have hbA : ¬ A b := hAn b hbl
  by_cases hk0 : xs (1 : Int32).toNatClampNeg = 0
  · skip
    refine lv_aload_n hx hb d_Law_law_200 rfl (lv_at hl 2 rfl) ?_
    refine lv_aload_n hx hb d_Law_law_201 rfl (lv_at hl 1 rfl) ?_
    refine lv_iload hx hb d_Law_law_202 (lv_at hl 0 rfl) ?_
    refine lv_iconst (v := 1) hx hb d_Law_law_204 (by decide) ?_
    refine lv_iadd hx hb d_Law_law_205 ?_
    refine lv_topi (fun x_1 ex_1 => ?_)
    obtain rfl : x_1 = 1 := by rw [ex_1]; decide
    refine va_sld hx hb hX0 hbl hbA hS (vp_in_nI (n := 1) (by decide) (by decide)) d_Law_law_206 ?_
    rw [hk0]
    refine lv_aload_n hx hb d_Law_law_207 rfl (lv_at hl 4 rfl) ?_
    have hPc := hP.sub (ws' := [(h0, .inr (11, [.ref tp, .ref sh, .ref me, .ref te, .ref en, .ref lx, .ref pa, .ref fr, .ref re, .ref ty, .ref fm, .ref pr, .int 0, .int 0])), (tp, .inr (0, [.int 65536, .ref ta, .int 0])), (o, .inl (cJ, 1, .inr (.inl (fun _ => 0))))]) [0, 1, 13] rfl
    have hDc := hD.sub (ws' := [(h0, .inr (11, [.ref tp, .ref sh, .ref me, .ref te, .ref en, .ref lx, .ref pa, .ref fr, .ref re, .ref ty, .ref fm, .ref pr, .int 0, .int 0])), (tp, .inr (0, [.int 65536, .ref ta, .int 0])), (o, .inl (cJ, 1, .inr (.inl (fun _ => 0))))]) [0, 1, 13] (by decide) rfl
    have hKc := hK.sub (tys' := [(cJ, .long)]) [3] rfl
    have hFc := va_free (wc := [(h0, .inr (11, [.ref tp, .ref sh, .ref me, .ref te, .ref en, .ref lx, .ref pa, .ref fr, .ref re, .ref ty, .ref fm, .ref pr, .int 0, .int 0])), (tp, .inr (0, [.int 65536, .ref ta, .int 0])), (o, .inl (cJ, 1, .inr (.inl (fun _ => 0))))]) hD hS hA [0, 1, 13] rfl
    refine va_calli (vx_runSW (n := 3) (As := [.ref h0, .int 0, .ref o]) (rest := []) ⟨hx, hb, hml, hown, hT⟩ (g_end l dC dI H.size h0 tp ta sh sa me te t1 t2 t3 t4 t5 t6 t7 t8 en fc fa nn lx tk ka pa fr re ty fm pr cT cK o cJ (fun _ => 0)) vt_406 vt_407 vt_396 vt_408 rfl rfl (by decide +kernel) ⟨Nat.le_of_ble_eq_true rfl, Nat.le_of_ble_eq_true rfl⟩ ⟨Pw_blind, Pw_of hPc hKc hDc⟩ rfl rfl hl.1 rfl (lv_room (Nat.le_of_ble_eq_true rfl)) d_Law_law_208 ⟨Nat.le_of_ble_eq_true rfl, Nat.le_of_ble_eq_true rfl⟩) hS (fun q _ h => hFc q h) hFc (fun r_2 u t H1 locs ht hvm hw hB hz1 hk1 hS => ?_)
    obtain ⟨g2, hP1, hK1, hD1, hg2⟩ := hB
    rw [ht] at hP1
    obtain ⟨hP, hD⟩ := va_join (wr := [(ta, .inl (cT, 256, .inl (fun _ => 0))), (sh, .inr (0, [.int 65536, .ref sa, .int 0])), (me, .inr (1, [.int 0, .int 0, .int 0, .int 0])), (te, .inr (2, [.ref me, .ref t1, .ref t2, .ref t3, .ref t4, .ref t5, .ref t6, .ref t7, .ref t8, .int 0])), (en, .inr (3, [.ref fc, .ref nn, .int 0])), (fc, .inr (0, [.int 16777216, .ref fa, .int 0])), (lx, .inr (4, [.ref tp, .ref tk, .int 0, .int 0, .int 0, .int 0, .int 0])), (tk, .inr (0, [.int 16777216, .ref ka, .int 0])), (ka, .inl (cK, 64, .inl (fun _ => 0))), (mm, .inr (12, fs)), (mt, .inl (cB, 65536, .inl (fun _ => 0)))]) (w1 := [(o, .inl (cJ, 1, .inr (.inl g2)))]) hP hD [0, 1, 13] [2, 3, 4, 5, 6, 7, 8, 9, 10, 11, 12] rfl rfl (by decide) (by decide) hk1 hFc hP1 hD1
    generalize H1 = H at hP hS ⊢
    have hP : va_P (dC, dI) classes [(ta, .inl (cT, 256, .inl (fun _ => 0))), (sh, .inr (0, [.int 65536, .ref sa, .int 0])), (me, .inr (1, [.int 0, .int 0, .int 0, .int 0])), (te, .inr (2, [.ref me, .ref t1, .ref t2, .ref t3, .ref t4, .ref t5, .ref t6, .ref t7, .ref t8, .int 0])), (en, .inr (3, [.ref fc, .ref nn, .int 0])), (fc, .inr (0, [.int 16777216, .ref fa, .int 0])), (lx, .inr (4, [.ref tp, .ref tk, .int 0, .int 0, .int 0, .int 0, .int 0])), (tk, .inr (0, [.int 16777216, .ref ka, .int 0])), (ka, .inl (cK, 64, .inl (fun _ => 0))), (mm, .inr (12, fs)), (mt, .inl (cB, 65536, .inl (fun _ => 0))), (o, .inl (cJ, 1, .inr (.inl g2)))] H := hP
    have hD : va_D A [(ta, .inl (cT, 256, .inl (fun _ => 0))), (sh, .inr (0, [.int 65536, .ref sa, .int 0])), (me, .inr (1, [.int 0, .int 0, .int 0, .int 0])), (te, .inr (2, [.ref me, .ref t1, .ref t2, .ref t3, .ref t4, .ref t5, .ref t6, .ref t7, .ref t8, .int 0])), (en, .inr (3, [.ref fc, .ref nn, .int 0])), (fc, .inr (0, [.int 16777216, .ref fa, .int 0])), (lx, .inr (4, [.ref tp, .ref tk, .int 0, .int 0, .int 0, .int 0, .int 0])), (tk, .inr (0, [.int 16777216, .ref ka, .int 0])), (ka, .inl (cK, 64, .inl (fun _ => 0))), (mm, .inr (12, fs)), (mt, .inl (cB, 65536, .inl (fun _ => 0))), (o, .inl (cJ, 1, .inr (.inl g2)))] := hD
    refine W.widen (k := 104) (n := 2672977) (Nat.le_of_ble_eq_true rfl) (Nat.le_of_ble_eq_true rfl) ?_
    subst hw
    refine lv_istore (lv' := [(5, .int 0), (4, .int 0), (0, .ref b), (1, .ref h0), (2, .ref mm), (3, .ref o)]) hx hb d_Law_law_211 hl (by decide) rfl (fun ls hl => ?_)
    refine lv_aload_n hx hb d_Law_law_213 rfl (lv_at hl 4 rfl) ?_
    refine lv_aload_n hx hb d_Law_law_214 rfl (lv_at hl 2 rfl) ?_
    refine lv_iload hx hb d_Law_law_215 (lv_at hl 1 rfl) ?_
    refine lv_iconst (v := 1) hx hb d_Law_law_217 (by decide) ?_
    refine lv_iadd hx hb d_Law_law_218 ?_
    refine lv_topi (fun x_3 ex_3 => ?_)
    obtain rfl : x_3 = 1 := by rw [ex_3]; decide
    refine va_sld hx hb hX0 hbl hbA hS (vp_in_nI (n := 1) (by decide) (by decide)) d_Law_law_219 ?_
    rw [hk0]
    have hPc := hP.sub (ws' := [(mm, .inr (12, fs))]) [9] rfl
    have hDc := hD.sub (ws' := [(mm, .inr (12, fs))]) [9] (by decide) rfl
    have hKc := hK.sub (tys' := []) [] rfl
    have hFc := va_free (wc := [(mm, .inr (12, fs))]) hD hS hA [9] rfl
    refine va_calli (va_runV (As := [.int 0]) (rest := []) ⟨hx, hb, hml, hown, hT⟩ (c_Mod_end0 l dC dI H.size mm fs hz) (cwV 1 hT (gV vt_409 vt_410 vt_411 vt_352 vt_412) rfl rfl rfl (by decide +kernel) ⟨Nat.le_of_ble_eq_true rfl, Nat.le_of_ble_eq_true rfl⟩) ⟨Pw_blind, va_recv hK hP (ci := 12) (q0 := 9) rfl rfl, Pw_of hPc hKc hDc⟩ rfl rfl hl.1 rfl (lv_room (Nat.le_of_ble_eq_true rfl)) d_Law_law_220 ⟨Nat.le_of_ble_eq_true rfl, Nat.le_of_ble_eq_true rfl⟩) hS (fun q _ h => hFc q h) hFc (fun r_5 u t H1 locs ht hvm hw hB hz1 hk1 hS => ?_)
    obtain ⟨fs_4, hP1, hK1, hD1, lfs_4, tfs_4⟩ := hB
    rw [ht] at hP1
    have hK1 := va_K.moved hvm.symm hK1
    obtain ⟨hP, hD⟩ := va_join (wr := [(ta, .inl (cT, 256, .inl (fun _ => 0))), (sh, .inr (0, [.int 65536, .ref sa, .int 0])), (me, .inr (1, [.int 0, .int 0, .int 0, .int 0])), (te, .inr (2, [.ref me, .ref t1, .ref t2, .ref t3, .ref t4, .ref t5, .ref t6, .ref t7, .ref t8, .int 0])), (en, .inr (3, [.ref fc, .ref nn, .int 0])), (fc, .inr (0, [.int 16777216, .ref fa, .int 0])), (lx, .inr (4, [.ref tp, .ref tk, .int 0, .int 0, .int 0, .int 0, .int 0])), (tk, .inr (0, [.int 16777216, .ref ka, .int 0])), (ka, .inl (cK, 64, .inl (fun _ => 0))), (mt, .inl (cB, 65536, .inl (fun _ => 0))), (o, .inl (cJ, 1, .inr (.inl g2)))]) (w1 := [(mm, .inr (12, fs_4))]) hP hD [9] [0, 1, 2, 3, 4, 5, 6, 7, 8, 10, 11] rfl rfl (by decide) (by decide) hk1 hFc hP1 hD1
    generalize H1 = H at hP hS ⊢
    have hP : va_P (dC, dI) classes [(ta, .inl (cT, 256, .inl (fun _ => 0))), (sh, .inr (0, [.int 65536, .ref sa, .int 0])), (me, .inr (1, [.int 0, .int 0, .int 0, .int 0])), (te, .inr (2, [.ref me, .ref t1, .ref t2, .ref t3, .ref t4, .ref t5, .ref t6, .ref t7, .ref t8, .int 0])), (en, .inr (3, [.ref fc, .ref nn, .int 0])), (fc, .inr (0, [.int 16777216, .ref fa, .int 0])), (lx, .inr (4, [.ref tp, .ref tk, .int 0, .int 0, .int 0, .int 0, .int 0])), (tk, .inr (0, [.int 16777216, .ref ka, .int 0])), (ka, .inl (cK, 64, .inl (fun _ => 0))), (mt, .inl (cB, 65536, .inl (fun _ => 0))), (o, .inl (cJ, 1, .inr (.inl g2))), (mm, .inr (12, fs_4))] H := hP
    have hD : va_D A [(ta, .inl (cT, 256, .inl (fun _ => 0))), (sh, .inr (0, [.int 65536, .ref sa, .int 0])), (me, .inr (1, [.int 0, .int 0, .int 0, .int 0])), (te, .inr (2, [.ref me, .ref t1, .ref t2, .ref t3, .ref t4, .ref t5, .ref t6, .ref t7, .ref t8, .int 0])), (en, .inr (3, [.ref fc, .ref nn, .int 0])), (fc, .inr (0, [.int 16777216, .ref fa, .int 0])), (lx, .inr (4, [.ref tp, .ref tk, .int 0, .int 0, .int 0, .int 0, .int 0])), (tk, .inr (0, [.int 16777216, .ref ka, .int 0])), (ka, .inl (cK, 64, .inl (fun _ => 0))), (mt, .inl (cB, 65536, .inl (fun _ => 0))), (o, .inl (cJ, 1, .inr (.inl g2))), (mm, .inr (12, fs_4))] := hD
    refine W.widen (k := 104) (n := 2672977) (Nat.le_of_ble_eq_true rfl) (Nat.le_of_ble_eq_true rfl) ?_
    subst hw
    refine lv_istore (lv' := [(6, .int 0), (5, .int 0), (4, .int 0), (0, .ref b), (1, .ref h0), (2, .ref mm), (3, .ref o)]) hx hb d_Law_law_223 hl (by decide) rfl (fun ls hl => ?_)
    refine lv_aload_n hx hb d_Law_law_225 rfl (lv_at hl 5 rfl) ?_
    refine W.callR (W.runV (As := []) (rest := []) ⟨hx, hb, hml, hown, hT⟩ (c_Mod_thrown l dC dI mm fs_4 0 tfs_4) (cwV 0 hT (gV vt_402 vt_403 vt_404 vt_352 vt_405) rfl rfl rfl (by decide +kernel) ⟨Nat.le_of_ble_eq_true rfl, Nat.le_of_ble_eq_true rfl⟩) ⟨Pp_blind, va_recv hK hP (ci := 12) (q0 := 11) rfl rfl, Pp_of (hP.sub (ws' := [(mm, .inr (12, fs_4))]) [11] rfl) (hK.sub (tys' := []) [] rfl)⟩ rfl rfl hl.1 rfl (lv_room (Nat.le_of_ble_eq_true rfl)) d_Law_law_226 ⟨Nat.le_of_ble_eq_true rfl, Nat.le_of_ble_eq_true rfl⟩) ?_
    refine W.eq (g2 := F0 m 229 ls [.int 0]) rfl ?_
    refine lv_iload hx hb d_Law_law_229 (lv_at hl 1 rfl) ?_
    refine lv_icmp_eq (tgt := 236) hx hb d_Law_law_231 (by decide) (fun c_6 => ?_) (fun c_6 => absurd (rfl) c_6)
    refine lv_iload hx hb d_Law_law_236 (lv_at hl 1 rfl) ?_
    refine lv_if_ne (tgt := 253) hx hb d_Law_law_238 (by decide) (fun c_7 => absurd (by decide) c_7) (fun c_7 => ?_)
    refine lv_aload_n hx hb d_Law_law_241 rfl (lv_at hl 6 rfl) ?_
    refine lv_iconst (v := 0) hx hb d_Law_law_242 (by decide) ?_
    refine va_lald hx hb hK hP 10 3 rfl rfl (vp0 (by decide) (by decide)) d_Law_law_243 ?_
    refine lv_topl (fun xl exl => ?_)
    obtain rfl : xl = 0 := by rw [exl, sb_cl0]; exact hg2
    refine lv_iload hx hb d_Law_law_244 (lv_at hl 0 rfl) ?_
    refine lv_i2l (v := 0) hx hb d_Law_law_246 (by decide) ?_
    refine W.lcmp hx hb d_Law_law_247 ?_
    refine lv_if_eq (tgt := 253) hx hb d_Law_law_248 (by decide) (fun c_8 => ?_) (fun c_8 => absurd (by decide) c_8)
    refine lv_goto (tgt := 592) hx hb d_Law_law_253 (by decide) ?_
    exact law_next C0 (Nat.le_of_ble_eq_true rfl) (Nat.le_of_ble_eq_true rfl) hAe.symm hS (lv_sub hl [2, 3] rfl)
  · skip
    refine lv_aload_n hx hb d_Law_law_200 rfl (lv_at hl 2 rfl) ?_
    refine lv_aload_n hx hb d_Law_law_201 rfl (lv_at hl 1 rfl) ?_
    refine lv_iload hx hb d_Law_law_202 (lv_at hl 0 rfl) ?_
    refine lv_iconst (v := 1) hx hb d_Law_law_204 (by decide) ?_
    refine lv_iadd hx hb d_Law_law_205 ?_
    refine lv_topi (fun x_1 ex_1 => ?_)
    obtain rfl : x_1 = 1 := by rw [ex_1]; decide
    refine va_sld hx hb hX0 hbl hbA hS (vp_in_nI (n := 1) (by decide) (by decide)) d_Law_law_206 ?_
    refine lv_aload_n hx hb d_Law_law_207 rfl (lv_at hl 4 rfl) ?_
    have hPc := hP.sub (ws' := [(h0, .inr (11, [.ref tp, .ref sh, .ref me, .ref te, .ref en, .ref lx, .ref pa, .ref fr, .ref re, .ref ty, .ref fm, .ref pr, .int 0, .int 0])), (tp, .inr (0, [.int 65536, .ref ta, .int 0]))]) [0, 1] rfl
    have hKc := hK.sub (tys' := []) [] rfl
    have hFc := va_free (wc := []) hD hS hA [] rfl
    have hH0 : ∀ (a : Nat) (cell : Cell), s.heap[a]? = some cell → cell.vm.isStatics = true → H[a]? = some cell := fun a cell hc _ => by rw [hS.2.1 a (Array.getElem?_eq_some_iff.mp hc).1 (hAn a (Array.getElem?_eq_some_iff.mp hc).1)]; exact hc
    refine va_calli (vx_runSW (n := 3) (As := [.ref h0, .int (xs (1 : Int32).toNatClampNeg), .ref o]) (rest := []) ⟨hx, hb, hml, hown, hT⟩ (h_end l dC dI hfl H.size h0 tp ta sh sa me te t1 t2 t3 t4 t5 t6 t7 t8 en fc fa nn lx tk ka pa fr re ty fm pr cT cK o _ hk0) vt_406 vt_407 vt_396 vt_408 rfl rfl (by decide +kernel) ⟨Nat.le_of_ble_eq_true rfl, Nat.le_of_ble_eq_true rfl⟩ ⟨PhX_blind, PhX_of hPc hKc hH0 (law_X_IAE C0)⟩ rfl rfl hl.1 rfl (lv_room (Nat.le_of_ble_eq_true rfl)) d_Law_law_208 ⟨Nat.le_of_ble_eq_true rfl, Nat.le_of_ble_eq_true rfl⟩) hS (fun q _ h => hFc q h) hFc (fun r_2 u t H1 locs ht hvm hw hB hz1 hk1 hS => ?_)
    obtain ⟨hP, hD⟩ := va_join (wr := [(h0, .inr (11, [.ref tp, .ref sh, .ref me, .ref te, .ref en, .ref lx, .ref pa, .ref fr, .ref re, .ref ty, .ref fm, .ref pr, .int 0, .int 0])), (tp, .inr (0, [.int 65536, .ref ta, .int 0])), (ta, .inl (cT, 256, .inl (fun _ => 0))), (sh, .inr (0, [.int 65536, .ref sa, .int 0])), (me, .inr (1, [.int 0, .int 0, .int 0, .int 0])), (te, .inr (2, [.ref me, .ref t1, .ref t2, .ref t3, .ref t4, .ref t5, .ref t6, .ref t7, .ref t8, .int 0])), (en, .inr (3, [.ref fc, .ref nn, .int 0])), (fc, .inr (0, [.int 16777216, .ref fa, .int 0])), (lx, .inr (4, [.ref tp, .ref tk, .int 0, .int 0, .int 0, .int 0, .int 0])), (tk, .inr (0, [.int 16777216, .ref ka, .int 0])), (ka, .inl (cK, 64, .inl (fun _ => 0))), (mm, .inr (12, fs)), (mt, .inl (cB, 65536, .inl (fun _ => 0))), (o, .inl (cJ, 1, .inr (.inl (fun _ => 0))))]) (w1 := []) hP hD [] [0, 1, 2, 3, 4, 5, 6, 7, 8, 9, 10, 11, 12, 13] rfl rfl (by decide) (by decide) hk1 hFc va_P_nil va_D_nil
    generalize H1 = H at hP hS ⊢
    have hP : va_P (dC, dI) classes [(h0, .inr (11, [.ref tp, .ref sh, .ref me, .ref te, .ref en, .ref lx, .ref pa, .ref fr, .ref re, .ref ty, .ref fm, .ref pr, .int 0, .int 0])), (tp, .inr (0, [.int 65536, .ref ta, .int 0])), (ta, .inl (cT, 256, .inl (fun _ => 0))), (sh, .inr (0, [.int 65536, .ref sa, .int 0])), (me, .inr (1, [.int 0, .int 0, .int 0, .int 0])), (te, .inr (2, [.ref me, .ref t1, .ref t2, .ref t3, .ref t4, .ref t5, .ref t6, .ref t7, .ref t8, .int 0])), (en, .inr (3, [.ref fc, .ref nn, .int 0])), (fc, .inr (0, [.int 16777216, .ref fa, .int 0])), (lx, .inr (4, [.ref tp, .ref tk, .int 0, .int 0, .int 0, .int 0, .int 0])), (tk, .inr (0, [.int 16777216, .ref ka, .int 0])), (ka, .inl (cK, 64, .inl (fun _ => 0))), (mm, .inr (12, fs)), (mt, .inl (cB, 65536, .inl (fun _ => 0))), (o, .inl (cJ, 1, .inr (.inl (fun _ => 0))))] H := hP
    have hD : va_D A [(h0, .inr (11, [.ref tp, .ref sh, .ref me, .ref te, .ref en, .ref lx, .ref pa, .ref fr, .ref re, .ref ty, .ref fm, .ref pr, .int 0, .int 0])), (tp, .inr (0, [.int 65536, .ref ta, .int 0])), (ta, .inl (cT, 256, .inl (fun _ => 0))), (sh, .inr (0, [.int 65536, .ref sa, .int 0])), (me, .inr (1, [.int 0, .int 0, .int 0, .int 0])), (te, .inr (2, [.ref me, .ref t1, .ref t2, .ref t3, .ref t4, .ref t5, .ref t6, .ref t7, .ref t8, .int 0])), (en, .inr (3, [.ref fc, .ref nn, .int 0])), (fc, .inr (0, [.int 16777216, .ref fa, .int 0])), (lx, .inr (4, [.ref tp, .ref tk, .int 0, .int 0, .int 0, .int 0, .int 0])), (tk, .inr (0, [.int 16777216, .ref ka, .int 0])), (ka, .inl (cK, 64, .inl (fun _ => 0))), (mm, .inr (12, fs)), (mt, .inl (cB, 65536, .inl (fun _ => 0))), (o, .inl (cJ, 1, .inr (.inl (fun _ => 0))))] := hD
    refine W.widen (k := 105) (n := 2672983) (Nat.le_of_ble_eq_true rfl) (Nat.le_of_ble_eq_true rfl) ?_
    subst hw
    refine lv_istore (lv' := [(5, .int 1), (4, .int 0), (0, .ref b), (1, .ref h0), (2, .ref mm), (3, .ref o)]) hx hb d_Law_law_211 hl (by decide) rfl (fun ls hl => ?_)
    refine lv_aload_n hx hb d_Law_law_213 rfl (lv_at hl 4 rfl) ?_
    refine lv_aload_n hx hb d_Law_law_214 rfl (lv_at hl 2 rfl) ?_
    refine lv_iload hx hb d_Law_law_215 (lv_at hl 1 rfl) ?_
    refine lv_iconst (v := 1) hx hb d_Law_law_217 (by decide) ?_
    refine lv_iadd hx hb d_Law_law_218 ?_
    refine lv_topi (fun x_3 ex_3 => ?_)
    obtain rfl : x_3 = 1 := by rw [ex_3]; decide
    refine va_sld hx hb hX0 hbl hbA hS (vp_in_nI (n := 1) (by decide) (by decide)) d_Law_law_219 ?_
    have hPc := hP.sub (ws' := [(mm, .inr (12, fs))]) [11] rfl
    have hDc := hD.sub (ws' := [(mm, .inr (12, fs))]) [11] (by decide) rfl
    have hKc := hK.sub (tys' := []) [] rfl
    have hFc := va_free (wc := [(mm, .inr (12, fs))]) hD hS hA [11] rfl
    refine va_calli (va_runV (As := [.int (xs (1 : Int32).toNatClampNeg)]) (rest := []) ⟨hx, hb, hml, hown, hT⟩ (c_Mod_endT l dC dI H.size mm fs hz _ hk0) (cwV 1 hT (gV vt_409 vt_410 vt_411 vt_352 vt_412) rfl rfl rfl (by decide +kernel) ⟨Nat.le_of_ble_eq_true rfl, Nat.le_of_ble_eq_true rfl⟩) ⟨Pw_blind, va_recv hK hP (ci := 12) (q0 := 11) rfl rfl, Pw_of hPc hKc hDc⟩ rfl rfl hl.1 rfl (lv_room (Nat.le_of_ble_eq_true rfl)) d_Law_law_220 ⟨Nat.le_of_ble_eq_true rfl, Nat.le_of_ble_eq_true rfl⟩) hS (fun q _ h => hFc q h) hFc (fun r_5 u t H1 locs ht hvm hw hB hz1 hk1 hS => ?_)
    obtain ⟨fs_4, hP1, hK1, hD1, lfs_4, tfs_4⟩ := hB
    rw [ht] at hP1
    have hK1 := va_K.moved hvm.symm hK1
    obtain ⟨hP, hD⟩ := va_join (wr := [(h0, .inr (11, [.ref tp, .ref sh, .ref me, .ref te, .ref en, .ref lx, .ref pa, .ref fr, .ref re, .ref ty, .ref fm, .ref pr, .int 0, .int 0])), (tp, .inr (0, [.int 65536, .ref ta, .int 0])), (ta, .inl (cT, 256, .inl (fun _ => 0))), (sh, .inr (0, [.int 65536, .ref sa, .int 0])), (me, .inr (1, [.int 0, .int 0, .int 0, .int 0])), (te, .inr (2, [.ref me, .ref t1, .ref t2, .ref t3, .ref t4, .ref t5, .ref t6, .ref t7, .ref t8, .int 0])), (en, .inr (3, [.ref fc, .ref nn, .int 0])), (fc, .inr (0, [.int 16777216, .ref fa, .int 0])), (lx, .inr (4, [.ref tp, .ref tk, .int 0, .int 0, .int 0, .int 0, .int 0])), (tk, .inr (0, [.int 16777216, .ref ka, .int 0])), (ka, .inl (cK, 64, .inl (fun _ => 0))), (mt, .inl (cB, 65536, .inl (fun _ => 0))), (o, .inl (cJ, 1, .inr (.inl (fun _ => 0))))]) (w1 := [(mm, .inr (12, fs_4))]) hP hD [11] [0, 1, 2, 3, 4, 5, 6, 7, 8, 9, 10, 12, 13] rfl rfl (by decide) (by decide) hk1 hFc hP1 hD1
    generalize H1 = H at hP hS ⊢
    have hP : va_P (dC, dI) classes [(h0, .inr (11, [.ref tp, .ref sh, .ref me, .ref te, .ref en, .ref lx, .ref pa, .ref fr, .ref re, .ref ty, .ref fm, .ref pr, .int 0, .int 0])), (tp, .inr (0, [.int 65536, .ref ta, .int 0])), (ta, .inl (cT, 256, .inl (fun _ => 0))), (sh, .inr (0, [.int 65536, .ref sa, .int 0])), (me, .inr (1, [.int 0, .int 0, .int 0, .int 0])), (te, .inr (2, [.ref me, .ref t1, .ref t2, .ref t3, .ref t4, .ref t5, .ref t6, .ref t7, .ref t8, .int 0])), (en, .inr (3, [.ref fc, .ref nn, .int 0])), (fc, .inr (0, [.int 16777216, .ref fa, .int 0])), (lx, .inr (4, [.ref tp, .ref tk, .int 0, .int 0, .int 0, .int 0, .int 0])), (tk, .inr (0, [.int 16777216, .ref ka, .int 0])), (ka, .inl (cK, 64, .inl (fun _ => 0))), (mt, .inl (cB, 65536, .inl (fun _ => 0))), (o, .inl (cJ, 1, .inr (.inl (fun _ => 0)))), (mm, .inr (12, fs_4))] H := hP
    have hD : va_D A [(h0, .inr (11, [.ref tp, .ref sh, .ref me, .ref te, .ref en, .ref lx, .ref pa, .ref fr, .ref re, .ref ty, .ref fm, .ref pr, .int 0, .int 0])), (tp, .inr (0, [.int 65536, .ref ta, .int 0])), (ta, .inl (cT, 256, .inl (fun _ => 0))), (sh, .inr (0, [.int 65536, .ref sa, .int 0])), (me, .inr (1, [.int 0, .int 0, .int 0, .int 0])), (te, .inr (2, [.ref me, .ref t1, .ref t2, .ref t3, .ref t4, .ref t5, .ref t6, .ref t7, .ref t8, .int 0])), (en, .inr (3, [.ref fc, .ref nn, .int 0])), (fc, .inr (0, [.int 16777216, .ref fa, .int 0])), (lx, .inr (4, [.ref tp, .ref tk, .int 0, .int 0, .int 0, .int 0, .int 0])), (tk, .inr (0, [.int 16777216, .ref ka, .int 0])), (ka, .inl (cK, 64, .inl (fun _ => 0))), (mt, .inl (cB, 65536, .inl (fun _ => 0))), (o, .inl (cJ, 1, .inr (.inl (fun _ => 0)))), (mm, .inr (12, fs_4))] := hD
    refine W.widen (k := 105) (n := 2672983) (Nat.le_of_ble_eq_true rfl) (Nat.le_of_ble_eq_true rfl) ?_
    subst hw
    refine lv_istore (lv' := [(6, .int 0), (5, .int 1), (4, .int 0), (0, .ref b), (1, .ref h0), (2, .ref mm), (3, .ref o)]) hx hb d_Law_law_223 hl (by decide) rfl (fun ls hl => ?_)
    refine lv_aload_n hx hb d_Law_law_225 rfl (lv_at hl 5 rfl) ?_
    refine W.callR (W.runV (As := []) (rest := []) ⟨hx, hb, hml, hown, hT⟩ (c_Mod_thrown l dC dI mm fs_4 1 tfs_4) (cwV 0 hT (gV vt_402 vt_403 vt_404 vt_352 vt_405) rfl rfl rfl (by decide +kernel) ⟨Nat.le_of_ble_eq_true rfl, Nat.le_of_ble_eq_true rfl⟩) ⟨Pp_blind, va_recv hK hP (ci := 12) (q0 := 13) rfl rfl, Pp_of (hP.sub (ws' := [(mm, .inr (12, fs_4))]) [13] rfl) (hK.sub (tys' := []) [] rfl)⟩ rfl rfl hl.1 rfl (lv_room (Nat.le_of_ble_eq_true rfl)) d_Law_law_226 ⟨Nat.le_of_ble_eq_true rfl, Nat.le_of_ble_eq_true rfl⟩) ?_
    refine W.eq (g2 := F0 m 229 ls [.int 1]) rfl ?_
    refine lv_iload hx hb d_Law_law_229 (lv_at hl 1 rfl) ?_
    refine lv_icmp_eq (tgt := 236) hx hb d_Law_law_231 (by decide) (fun c_6 => ?_) (fun c_6 => absurd (rfl) c_6)
    refine lv_iload hx hb d_Law_law_236 (lv_at hl 1 rfl) ?_
    refine lv_if_ne (tgt := 253) hx hb d_Law_law_238 (by decide) (fun c_7 => ?_) (fun c_7 => absurd c_7 (by decide))
    refine lv_goto (tgt := 592) hx hb d_Law_law_253 (by decide) ?_
    exact law_next C0 (Nat.le_of_ble_eq_true rfl) (Nat.le_of_ble_eq_true rfl) hAe.symm hS (lv_sub hl [2, 3] rfl)
set_option maxHeartbeats 4000000 in
set_option maxRecDepth 100000 in
theorem law_c_constant (l : Launch) (hfl : l.flags = flags0) {p : Program} {e : Env} {s : State} {m : MethodId} {below : List Frame} {meth : Method} {c : Code} {b : Nat} {xs : Nat → Int32} (C0 : lw_At p s m meth c b 6 xs) {dC : Nat → ClassId} {dI : Nat → Nat → Nat} {h0 tp ta sh sa me te t1 t2 t3 t4 t5 t6 t7 t8 en fc fa nn lx tk ka pa fr re ty fm pr mm mt o : Nat} {cT cK cB cJ : ClassId} {fs : List Value} (hz : Mz fs) (htp : fs[0]? = some (.ref mt)) {H : Heap} {locs : List Loc} {ls : Array Slot} {A : Nat → Prop} (hAe : (fun q : Nat => s.heap.size ≤ q) = A) (hK : va_K (dC, dI) classes [(cT, .int), (cK, .int), (cB, .byte), (cJ, .long)] s) (hP : va_P (dC, dI) classes [(h0, .inr (11, [.ref tp, .ref sh, .ref me, .ref te, .ref en, .ref lx, .ref pa, .ref fr, .ref re, .ref ty, .ref fm, .ref pr, .int 0, .int 0])), (tp, .inr (0, [.int 65536, .ref ta, .int 0])), (ta, .inl (cT, 256, .inl (fun _ => 0))), (sh, .inr (0, [.int 65536, .ref sa, .int 0])), (me, .inr (1, [.int 0, .int 0, .int 0, .int 0])), (te, .inr (2, [.ref me, .ref t1, .ref t2, .ref t3, .ref t4, .ref t5, .ref t6, .ref t7, .ref t8, .int 0])), (en, .inr (3, [.ref fc, .ref nn, .int 0])), (fc, .inr (0, [.int 16777216, .ref fa, .int 0])), (lx, .inr (4, [.ref tp, .ref tk, .int 0, .int 0, .int 0, .int 0, .int 0])), (tk, .inr (0, [.int 16777216, .ref ka, .int 0])), (ka, .inl (cK, 64, .inl (fun _ => 0))), (mm, .inr (12, fs)), (mt, .inl (cB, 65536, .inl (fun _ => 0))), (o, .inl (cJ, 1, .inr (.inl (fun _ => 0))))] H) (hD : va_D A [(h0, .inr (11, [.ref tp, .ref sh, .ref me, .ref te, .ref en, .ref lx, .ref pa, .ref fr, .ref re, .ref ty, .ref fm, .ref pr, .int 0, .int 0])), (tp, .inr (0, [.int 65536, .ref ta, .int 0])), (ta, .inl (cT, 256, .inl (fun _ => 0))), (sh, .inr (0, [.int 65536, .ref sa, .int 0])), (me, .inr (1, [.int 0, .int 0, .int 0, .int 0])), (te, .inr (2, [.ref me, .ref t1, .ref t2, .ref t3, .ref t4, .ref t5, .ref t6, .ref t7, .ref t8, .int 0])), (en, .inr (3, [.ref fc, .ref nn, .int 0])), (fc, .inr (0, [.int 16777216, .ref fa, .int 0])), (lx, .inr (4, [.ref tp, .ref tk, .int 0, .int 0, .int 0, .int 0, .int 0])), (tk, .inr (0, [.int 16777216, .ref ka, .int 0])), (ka, .inl (cK, 64, .inl (fun _ => 0))), (mm, .inr (12, fs)), (mt, .inl (cB, 65536, .inl (fun _ => 0))), (o, .inl (cJ, 1, .inr (.inl (fun _ => 0))))]) (hS : va_S A s.heap H locs) (hl : lv_has ls 7 [(4, .int 0), (0, .ref b), (1, .ref h0), (2, .ref mm), (3, .ref o)]) : W p l e room_1 s m #[Value.ref b] below meth c H locs 104 2672977 (lw_Z below #[Value.ref b] s) (F0 m 307 ls []) := by
  obtain ⟨hx, hb, hr, hml, hown, hts, hX0, hbl, hlocks, hgv⟩ := id C0
  have hT : ∀ w ∈ vT, w.before _ s = true := fun w h => hts w (vT_in w h)
  have hA : ∀ q : Nat, s.heap.size ≤ q → A q := fun q h => by rw [← hAe]; exact h
  have hAn : ∀ q : Nat, q < s.heap.size → ¬ A q := fun q h => by rw [← hAe]; exact Nat.not_le.mpr h
  have hbA : ¬ A b := hAn b hbl
  refine lv_aload_n hx hb d_Law_law_307 rfl (lv_at hl 2 rfl) ?_
  refine lv_aload_n hx hb d_Law_law_308 rfl (lv_at hl 1 rfl) ?_
  refine lv_iload hx hb d_Law_law_309 (lv_at hl 0 rfl) ?_
  refine lv_iconst (v := 1) hx hb d_Law_law_311 (by decide) ?_
  refine lv_iadd hx hb d_Law_law_312 ?_
  refine lv_topi (fun x_1 ex_1 => ?_)
  obtain rfl : x_1 = 1 := by rw [ex_1]; decide
  refine va_sld hx hb hX0 hbl hbA hS (vp_in_nI (n := 1) (by decide) (by decide)) d_Law_law_313 ?_
  refine lv_aload_n hx hb d_Law_law_314 rfl (lv_at hl 1 rfl) ?_
  refine lv_iload hx hb d_Law_law_315 (lv_at hl 0 rfl) ?_
  refine lv_iconst (v := 2) hx hb d_Law_law_317 (by decide) ?_
  refine lv_iadd hx hb d_Law_law_318 ?_
  refine lv_topi (fun x_2 ex_2 => ?_)
  obtain rfl : x_2 = 2 := by rw [ex_2]; decide
  refine va_sld hx hb hX0 hbl hbA hS (vp_in_nI (n := 2) (by decide) (by decide)) d_Law_law_319 ?_
  refine lv_aload_n hx hb d_Law_law_320 rfl (lv_at hl 4 rfl) ?_
  have hPc := hP.sub (ws' := [(h0, .inr (11, [.ref tp, .ref sh, .ref me, .ref te, .ref en, .ref lx, .ref pa, .ref fr, .ref re, .ref ty, .ref fm, .ref pr, .int 0, .int 0])), (en, .inr (3, [.ref fc, .ref nn, .int 0])), (fc, .inr (0, [.int 16777216, .ref fa, .int 0]))]) [0, 6, 7] rfl
  have hKc := hK.sub (tys' := []) [] rfl
  have hFc := va_free (wc := []) hD hS hA [] rfl
  have hH0 : ∀ (a : Nat) (cell : Cell), s.heap[a]? = some cell → cell.vm.isStatics = true → H[a]? = some cell := fun a cell hc _ => by rw [hS.2.1 a (Array.getElem?_eq_some_iff.mp hc).1 (hAn a (Array.getElem?_eq_some_iff.mp hc).1)]; exact hc
  refine va_calli (vx_runSW (n := 4) (As := [.ref h0, .int (xs (1 : Int32).toNatClampNeg), .int (xs (2 : Int32).toNatClampNeg), .ref o]) (rest := []) ⟨hx, hb, hml, hown, hT⟩ (h_constant l dC dI hfl H.size h0 tp ta sh sa me te t1 t2 t3 t4 t5 t6 t7 t8 en fc fa nn lx tk ka pa fr re ty fm pr cT cK o (xs (1 : Int32).toNatClampNeg) (xs (2 : Int32).toNatClampNeg)) vt_413 vt_414 vt_396 vt_415 rfl rfl (by decide +kernel) ⟨Nat.le_of_ble_eq_true rfl, Nat.le_of_ble_eq_true rfl⟩ ⟨PhX_blind, PhX_of hPc hKc hH0 (law_X_NSE C0)⟩ rfl rfl hl.1 rfl (lv_room (Nat.le_of_ble_eq_true rfl)) d_Law_law_321 ⟨Nat.le_of_ble_eq_true rfl, Nat.le_of_ble_eq_true rfl⟩) hS (fun q _ h => hFc q h) hFc (fun r_3 u t H1 locs ht hvm hw hB hz1 hk1 hS => ?_)
  obtain ⟨hP, hD⟩ := va_join (wr := [(h0, .inr (11, [.ref tp, .ref sh, .ref me, .ref te, .ref en, .ref lx, .ref pa, .ref fr, .ref re, .ref ty, .ref fm, .ref pr, .int 0, .int 0])), (tp, .inr (0, [.int 65536, .ref ta, .int 0])), (ta, .inl (cT, 256, .inl (fun _ => 0))), (sh, .inr (0, [.int 65536, .ref sa, .int 0])), (me, .inr (1, [.int 0, .int 0, .int 0, .int 0])), (te, .inr (2, [.ref me, .ref t1, .ref t2, .ref t3, .ref t4, .ref t5, .ref t6, .ref t7, .ref t8, .int 0])), (en, .inr (3, [.ref fc, .ref nn, .int 0])), (fc, .inr (0, [.int 16777216, .ref fa, .int 0])), (lx, .inr (4, [.ref tp, .ref tk, .int 0, .int 0, .int 0, .int 0, .int 0])), (tk, .inr (0, [.int 16777216, .ref ka, .int 0])), (ka, .inl (cK, 64, .inl (fun _ => 0))), (mm, .inr (12, fs)), (mt, .inl (cB, 65536, .inl (fun _ => 0))), (o, .inl (cJ, 1, .inr (.inl (fun _ => 0))))]) (w1 := []) hP hD [] [0, 1, 2, 3, 4, 5, 6, 7, 8, 9, 10, 11, 12, 13] rfl rfl (by decide) (by decide) hk1 hFc va_P_nil va_D_nil
  generalize H1 = H at hP hS ⊢
  have hP : va_P (dC, dI) classes [(h0, .inr (11, [.ref tp, .ref sh, .ref me, .ref te, .ref en, .ref lx, .ref pa, .ref fr, .ref re, .ref ty, .ref fm, .ref pr, .int 0, .int 0])), (tp, .inr (0, [.int 65536, .ref ta, .int 0])), (ta, .inl (cT, 256, .inl (fun _ => 0))), (sh, .inr (0, [.int 65536, .ref sa, .int 0])), (me, .inr (1, [.int 0, .int 0, .int 0, .int 0])), (te, .inr (2, [.ref me, .ref t1, .ref t2, .ref t3, .ref t4, .ref t5, .ref t6, .ref t7, .ref t8, .int 0])), (en, .inr (3, [.ref fc, .ref nn, .int 0])), (fc, .inr (0, [.int 16777216, .ref fa, .int 0])), (lx, .inr (4, [.ref tp, .ref tk, .int 0, .int 0, .int 0, .int 0, .int 0])), (tk, .inr (0, [.int 16777216, .ref ka, .int 0])), (ka, .inl (cK, 64, .inl (fun _ => 0))), (mm, .inr (12, fs)), (mt, .inl (cB, 65536, .inl (fun _ => 0))), (o, .inl (cJ, 1, .inr (.inl (fun _ => 0))))] H := hP
  have hD : va_D A [(h0, .inr (11, [.ref tp, .ref sh, .ref me, .ref te, .ref en, .ref lx, .ref pa, .ref fr, .ref re, .ref ty, .ref fm, .ref pr, .int 0, .int 0])), (tp, .inr (0, [.int 65536, .ref ta, .int 0])), (ta, .inl (cT, 256, .inl (fun _ => 0))), (sh, .inr (0, [.int 65536, .ref sa, .int 0])), (me, .inr (1, [.int 0, .int 0, .int 0, .int 0])), (te, .inr (2, [.ref me, .ref t1, .ref t2, .ref t3, .ref t4, .ref t5, .ref t6, .ref t7, .ref t8, .int 0])), (en, .inr (3, [.ref fc, .ref nn, .int 0])), (fc, .inr (0, [.int 16777216, .ref fa, .int 0])), (lx, .inr (4, [.ref tp, .ref tk, .int 0, .int 0, .int 0, .int 0, .int 0])), (tk, .inr (0, [.int 16777216, .ref ka, .int 0])), (ka, .inl (cK, 64, .inl (fun _ => 0))), (mm, .inr (12, fs)), (mt, .inl (cB, 65536, .inl (fun _ => 0))), (o, .inl (cJ, 1, .inr (.inl (fun _ => 0))))] := hD
  refine W.widen (k := 105) (n := 2672983) (Nat.le_of_ble_eq_true rfl) (Nat.le_of_ble_eq_true rfl) ?_
  subst hw
  refine lv_istore (lv' := [(5, .int 1), (4, .int 0), (0, .ref b), (1, .ref h0), (2, .ref mm), (3, .ref o)]) hx hb d_Law_law_324 hl (by decide) rfl (fun ls hl => ?_)
  refine lv_aload_n hx hb d_Law_law_326 rfl (lv_at hl 4 rfl) ?_
  refine lv_aload_n hx hb d_Law_law_327 rfl (lv_at hl 2 rfl) ?_
  refine lv_iload hx hb d_Law_law_328 (lv_at hl 1 rfl) ?_
  refine lv_iconst (v := 1) hx hb d_Law_law_330 (by decide) ?_
  refine lv_iadd hx hb d_Law_law_331 ?_
  refine lv_topi (fun x_4 ex_4 => ?_)
  obtain rfl : x_4 = 1 := by rw [ex_4]; decide
  refine va_sld hx hb hX0 hbl hbA hS (vp_in_nI (n := 1) (by decide) (by decide)) d_Law_law_332 ?_
  refine lv_aload_n hx hb d_Law_law_333 rfl (lv_at hl 2 rfl) ?_
  refine lv_iload hx hb d_Law_law_334 (lv_at hl 1 rfl) ?_
  refine lv_iconst (v := 2) hx hb d_Law_law_336 (by decide) ?_
  refine lv_iadd hx hb d_Law_law_337 ?_
  refine lv_topi (fun x_5 ex_5 => ?_)
  obtain rfl : x_5 = 2 := by rw [ex_5]; decide
  refine va_sld hx hb hX0 hbl hbA hS (vp_in_nI (n := 2) (by decide) (by decide)) d_Law_law_338 ?_
  have hPc := hP.sub (ws' := [(mm, .inr (12, fs))]) [11] rfl
  have hDc := hD.sub (ws' := [(mm, .inr (12, fs))]) [11] (by decide) rfl
  have hKc := hK.sub (tys' := []) [] rfl
  have hFc := va_free (wc := [(mm, .inr (12, fs))]) hD hS hA [11] rfl
  refine va_calli (va_runV (As := [.int (xs (1 : Int32).toNatClampNeg), .int (xs (2 : Int32).toNatClampNeg)]) (rest := []) ⟨hx, hb, hml, hown, hT⟩ (c_Mod_constant l dC dI H.size mm fs hz (xs (1 : Int32).toNatClampNeg) (xs (2 : Int32).toNatClampNeg)) (cwV 2 hT (gV vt_416 vt_417 vt_418 vt_352 vt_419) rfl rfl rfl (by decide +kernel) ⟨Nat.le_of_ble_eq_true rfl, Nat.le_of_ble_eq_true rfl⟩) ⟨Pw_blind, va_recv hK hP (ci := 12) (q0 := 11) rfl rfl, Pw_of hPc hKc hDc⟩ rfl rfl hl.1 rfl (lv_room (Nat.le_of_ble_eq_true rfl)) d_Law_law_339 ⟨Nat.le_of_ble_eq_true rfl, Nat.le_of_ble_eq_true rfl⟩) hS (fun q _ h => hFc q h) hFc (fun r_7 u t H1 locs ht hvm hw hB hz1 hk1 hS => ?_)
  obtain ⟨fs_6, hP1, hK1, hD1, lfs_6, tfs_6⟩ := hB
  rw [ht] at hP1
  have hK1 := va_K.moved hvm.symm hK1
  obtain ⟨hP, hD⟩ := va_join (wr := [(h0, .inr (11, [.ref tp, .ref sh, .ref me, .ref te, .ref en, .ref lx, .ref pa, .ref fr, .ref re, .ref ty, .ref fm, .ref pr, .int 0, .int 0])), (tp, .inr (0, [.int 65536, .ref ta, .int 0])), (ta, .inl (cT, 256, .inl (fun _ => 0))), (sh, .inr (0, [.int 65536, .ref sa, .int 0])), (me, .inr (1, [.int 0, .int 0, .int 0, .int 0])), (te, .inr (2, [.ref me, .ref t1, .ref t2, .ref t3, .ref t4, .ref t5, .ref t6, .ref t7, .ref t8, .int 0])), (en, .inr (3, [.ref fc, .ref nn, .int 0])), (fc, .inr (0, [.int 16777216, .ref fa, .int 0])), (lx, .inr (4, [.ref tp, .ref tk, .int 0, .int 0, .int 0, .int 0, .int 0])), (tk, .inr (0, [.int 16777216, .ref ka, .int 0])), (ka, .inl (cK, 64, .inl (fun _ => 0))), (mt, .inl (cB, 65536, .inl (fun _ => 0))), (o, .inl (cJ, 1, .inr (.inl (fun _ => 0))))]) (w1 := [(mm, .inr (12, fs_6))]) hP hD [11] [0, 1, 2, 3, 4, 5, 6, 7, 8, 9, 10, 12, 13] rfl rfl (by decide) (by decide) hk1 hFc hP1 hD1
  generalize H1 = H at hP hS ⊢
  have hP : va_P (dC, dI) classes [(h0, .inr (11, [.ref tp, .ref sh, .ref me, .ref te, .ref en, .ref lx, .ref pa, .ref fr, .ref re, .ref ty, .ref fm, .ref pr, .int 0, .int 0])), (tp, .inr (0, [.int 65536, .ref ta, .int 0])), (ta, .inl (cT, 256, .inl (fun _ => 0))), (sh, .inr (0, [.int 65536, .ref sa, .int 0])), (me, .inr (1, [.int 0, .int 0, .int 0, .int 0])), (te, .inr (2, [.ref me, .ref t1, .ref t2, .ref t3, .ref t4, .ref t5, .ref t6, .ref t7, .ref t8, .int 0])), (en, .inr (3, [.ref fc, .ref nn, .int 0])), (fc, .inr (0, [.int 16777216, .ref fa, .int 0])), (lx, .inr (4, [.ref tp, .ref tk, .int 0, .int 0, .int 0, .int 0, .int 0])), (tk, .inr (0, [.int 16777216, .ref ka, .int 0])), (ka, .inl (cK, 64, .inl (fun _ => 0))), (mt, .inl (cB, 65536, .inl (fun _ => 0))), (o, .inl (cJ, 1, .inr (.inl (fun _ => 0)))), (mm, .inr (12, fs_6))] H := hP
  have hD : va_D A [(h0, .inr (11, [.ref tp, .ref sh, .ref me, .ref te, .ref en, .ref lx, .ref pa, .ref fr, .ref re, .ref ty, .ref fm, .ref pr, .int 0, .int 0])), (tp, .inr (0, [.int 65536, .ref ta, .int 0])), (ta, .inl (cT, 256, .inl (fun _ => 0))), (sh, .inr (0, [.int 65536, .ref sa, .int 0])), (me, .inr (1, [.int 0, .int 0, .int 0, .int 0])), (te, .inr (2, [.ref me, .ref t1, .ref t2, .ref t3, .ref t4, .ref t5, .ref t6, .ref t7, .ref t8, .int 0])), (en, .inr (3, [.ref fc, .ref nn, .int 0])), (fc, .inr (0, [.int 16777216, .ref fa, .int 0])), (lx, .inr (4, [.ref tp, .ref tk, .int 0, .int 0, .int 0, .int 0, .int 0])), (tk, .inr (0, [.int 16777216, .ref ka, .int 0])), (ka, .inl (cK, 64, .inl (fun _ => 0))), (mt, .inl (cB, 65536, .inl (fun _ => 0))), (o, .inl (cJ, 1, .inr (.inl (fun _ => 0)))), (mm, .inr (12, fs_6))] := hD
  refine W.widen (k := 105) (n := 2672983) (Nat.le_of_ble_eq_true rfl) (Nat.le_of_ble_eq_true rfl) ?_
  subst hw
  refine lv_istore (lv' := [(6, .int 0), (5, .int 1), (4, .int 0), (0, .ref b), (1, .ref h0), (2, .ref mm), (3, .ref o)]) hx hb d_Law_law_342 hl (by decide) rfl (fun ls hl => ?_)
  refine lv_aload_n hx hb d_Law_law_344 rfl (lv_at hl 5 rfl) ?_
  refine W.callR (W.runV (As := []) (rest := []) ⟨hx, hb, hml, hown, hT⟩ (c_Mod_thrown l dC dI mm fs_6 1 tfs_6) (cwV 0 hT (gV vt_402 vt_403 vt_404 vt_352 vt_405) rfl rfl rfl (by decide +kernel) ⟨Nat.le_of_ble_eq_true rfl, Nat.le_of_ble_eq_true rfl⟩) ⟨Pp_blind, va_recv hK hP (ci := 12) (q0 := 13) rfl rfl, Pp_of (hP.sub (ws' := [(mm, .inr (12, fs_6))]) [13] rfl) (hK.sub (tys' := []) [] rfl)⟩ rfl rfl hl.1 rfl (lv_room (Nat.le_of_ble_eq_true rfl)) d_Law_law_345 ⟨Nat.le_of_ble_eq_true rfl, Nat.le_of_ble_eq_true rfl⟩) ?_
  refine W.eq (g2 := F0 m 348 ls [.int 1]) rfl ?_
  refine lv_iload hx hb d_Law_law_348 (lv_at hl 1 rfl) ?_
  refine lv_icmp_eq (tgt := 355) hx hb d_Law_law_350 (by decide) (fun c_8 => ?_) (fun c_8 => absurd (rfl) c_8)
  refine lv_iload hx hb d_Law_law_355 (lv_at hl 1 rfl) ?_
  refine lv_if_ne (tgt := 372) hx hb d_Law_law_357 (by decide) (fun c_9 => ?_) (fun c_9 => absurd c_9 (by decide))
  refine lv_goto (tgt := 592) hx hb d_Law_law_372 (by decide) ?_
  exact law_next C0 (Nat.le_of_ble_eq_true rfl) (Nat.le_of_ble_eq_true rfl) hAe.symm hS (lv_sub hl [2, 3] rfl)
set_option maxHeartbeats 4000000 in
set_option maxRecDepth 100000 in
theorem law_c_show (l : Launch) (hfl : l.flags = flags0) {p : Program} {e : Env} {s : State} {m : MethodId} {below : List Frame} {meth : Method} {c : Code} {b : Nat} {xs : Nat → Int32} (C0 : lw_At p s m meth c b 6 xs) {dC : Nat → ClassId} {dI : Nat → Nat → Nat} {h0 tp ta sh sa me te t1 t2 t3 t4 t5 t6 t7 t8 en fc fa nn lx tk ka pa fr re ty fm pr mm mt o : Nat} {cT cK cB cJ : ClassId} {fs : List Value} (hz : Mz fs) (htp : fs[0]? = some (.ref mt)) {H : Heap} {locs : List Loc} {ls : Array Slot} {A : Nat → Prop} (hAe : (fun q : Nat => s.heap.size ≤ q) = A) (hK : va_K (dC, dI) classes [(cT, .int), (cK, .int), (cB, .byte), (cJ, .long)] s) (hP : va_P (dC, dI) classes [(h0, .inr (11, [.ref tp, .ref sh, .ref me, .ref te, .ref en, .ref lx, .ref pa, .ref fr, .ref re, .ref ty, .ref fm, .ref pr, .int 0, .int 0])), (tp, .inr (0, [.int 65536, .ref ta, .int 0])), (ta, .inl (cT, 256, .inl (fun _ => 0))), (sh, .inr (0, [.int 65536, .ref sa, .int 0])), (me, .inr (1, [.int 0, .int 0, .int 0, .int 0])), (te, .inr (2, [.ref me, .ref t1, .ref t2, .ref t3, .ref t4, .ref t5, .ref t6, .ref t7, .ref t8, .int 0])), (en, .inr (3, [.ref fc, .ref nn, .int 0])), (fc, .inr (0, [.int 16777216, .ref fa, .int 0])), (lx, .inr (4, [.ref tp, .ref tk, .int 0, .int 0, .int 0, .int 0, .int 0])), (tk, .inr (0, [.int 16777216, .ref ka, .int 0])), (ka, .inl (cK, 64, .inl (fun _ => 0))), (mm, .inr (12, fs)), (mt, .inl (cB, 65536, .inl (fun _ => 0))), (o, .inl (cJ, 1, .inr (.inl (fun _ => 0))))] H) (hD : va_D A [(h0, .inr (11, [.ref tp, .ref sh, .ref me, .ref te, .ref en, .ref lx, .ref pa, .ref fr, .ref re, .ref ty, .ref fm, .ref pr, .int 0, .int 0])), (tp, .inr (0, [.int 65536, .ref ta, .int 0])), (ta, .inl (cT, 256, .inl (fun _ => 0))), (sh, .inr (0, [.int 65536, .ref sa, .int 0])), (me, .inr (1, [.int 0, .int 0, .int 0, .int 0])), (te, .inr (2, [.ref me, .ref t1, .ref t2, .ref t3, .ref t4, .ref t5, .ref t6, .ref t7, .ref t8, .int 0])), (en, .inr (3, [.ref fc, .ref nn, .int 0])), (fc, .inr (0, [.int 16777216, .ref fa, .int 0])), (lx, .inr (4, [.ref tp, .ref tk, .int 0, .int 0, .int 0, .int 0, .int 0])), (tk, .inr (0, [.int 16777216, .ref ka, .int 0])), (ka, .inl (cK, 64, .inl (fun _ => 0))), (mm, .inr (12, fs)), (mt, .inl (cB, 65536, .inl (fun _ => 0))), (o, .inl (cJ, 1, .inr (.inl (fun _ => 0))))]) (hS : va_S A s.heap H locs) (hl : lv_has ls 7 [(4, .int 0), (0, .ref b), (1, .ref h0), (2, .ref mm), (3, .ref o)]) : W p l e room_1 s m #[Value.ref b] below meth c H locs 104 2672977 (lw_Z below #[Value.ref b] s) (F0 m 375 ls []) := by
  obtain ⟨hx, hb, hr, hml, hown, hts, hX0, hbl, hlocks, hgv⟩ := id C0
  have hT : ∀ w ∈ vT, w.before _ s = true := fun w h => hts w (vT_in w h)
  have hA : ∀ q : Nat, s.heap.size ≤ q → A q := fun q h => by rw [← hAe]; exact h
  have hAn : ∀ q : Nat, q < s.heap.size → ¬ A q := fun q h => by rw [← hAe]; exact Nat.not_le.mpr h
  have hbA : ¬ A b := hAn b hbl
  refine lv_aload_n hx hb d_Law_law_375 rfl (lv_at hl 2 rfl) ?_
  refine lv_aload_n hx hb d_Law_law_376 rfl (lv_at hl 1 rfl) ?_
  refine lv_iload hx hb d_Law_law_377 (lv_at hl 0 rfl) ?_
  refine lv_iconst (v := 1) hx hb d_Law_law_379 (by decide) ?_
  refine lv_iadd hx hb d_Law_law_380 ?_
  refine lv_topi (fun x_1 ex_1 => ?_)
  obtain rfl : x_1 = 1 := by rw [ex_1]; decide
  refine va_sld hx hb hX0 hbl hbA hS (vp_in_nI (n := 1) (by decide) (by decide)) d_Law_law_381 ?_
  refine lv_aload_n hx hb d_Law_law_382 rfl (lv_at hl 1 rfl) ?_
  refine lv_iload hx hb d_Law_law_383 (lv_at hl 0 rfl) ?_
  refine lv_iconst (v := 2) hx hb d_Law_law_385 (by decide) ?_
  refine lv_iadd hx hb d_Law_law_386 ?_
  refine lv_topi (fun x_2 ex_2 => ?_)
  obtain rfl : x_2 = 2 := by rw [ex_2]; decide
  refine va_sld hx hb hX0 hbl hbA hS (vp_in_nI (n := 2) (by decide) (by decide)) d_Law_law_387 ?_
  refine lv_aload_n hx hb d_Law_law_388 rfl (lv_at hl 4 rfl) ?_
  have hPc := hP.sub (ws' := [(h0, .inr (11, [.ref tp, .ref sh, .ref me, .ref te, .ref en, .ref lx, .ref pa, .ref fr, .ref re, .ref ty, .ref fm, .ref pr, .int 0, .int 0])), (en, .inr (3, [.ref fc, .ref nn, .int 0])), (fc, .inr (0, [.int 16777216, .ref fa, .int 0]))]) [0, 6, 7] rfl
  have hKc := hK.sub (tys' := []) [] rfl
  have hFc := va_free (wc := []) hD hS hA [] rfl
  have hH0 : ∀ (a : Nat) (cell : Cell), s.heap[a]? = some cell → cell.vm.isStatics = true → H[a]? = some cell := fun a cell hc _ => by rw [hS.2.1 a (Array.getElem?_eq_some_iff.mp hc).1 (hAn a (Array.getElem?_eq_some_iff.mp hc).1)]; exact hc
  refine va_calli (vx_runSW (n := 4) (As := [.ref h0, .int (xs (1 : Int32).toNatClampNeg), .int (xs (2 : Int32).toNatClampNeg), .ref o]) (rest := []) ⟨hx, hb, hml, hown, hT⟩ (h_show l dC dI hfl H.size h0 tp ta sh sa me te t1 t2 t3 t4 t5 t6 t7 t8 en fc fa nn lx tk ka pa fr re ty fm pr cT cK o (xs (1 : Int32).toNatClampNeg) (xs (2 : Int32).toNatClampNeg)) vt_420 vt_421 vt_396 vt_422 rfl rfl (by decide +kernel) ⟨Nat.le_of_ble_eq_true rfl, Nat.le_of_ble_eq_true rfl⟩ ⟨PhX_blind, PhX_of hPc hKc hH0 (law_X_NSE C0)⟩ rfl rfl hl.1 rfl (lv_room (Nat.le_of_ble_eq_true rfl)) d_Law_law_389 ⟨Nat.le_of_ble_eq_true rfl, Nat.le_of_ble_eq_true rfl⟩) hS (fun q _ h => hFc q h) hFc (fun r_3 u t H1 locs ht hvm hw hB hz1 hk1 hS => ?_)
  obtain ⟨hP, hD⟩ := va_join (wr := [(h0, .inr (11, [.ref tp, .ref sh, .ref me, .ref te, .ref en, .ref lx, .ref pa, .ref fr, .ref re, .ref ty, .ref fm, .ref pr, .int 0, .int 0])), (tp, .inr (0, [.int 65536, .ref ta, .int 0])), (ta, .inl (cT, 256, .inl (fun _ => 0))), (sh, .inr (0, [.int 65536, .ref sa, .int 0])), (me, .inr (1, [.int 0, .int 0, .int 0, .int 0])), (te, .inr (2, [.ref me, .ref t1, .ref t2, .ref t3, .ref t4, .ref t5, .ref t6, .ref t7, .ref t8, .int 0])), (en, .inr (3, [.ref fc, .ref nn, .int 0])), (fc, .inr (0, [.int 16777216, .ref fa, .int 0])), (lx, .inr (4, [.ref tp, .ref tk, .int 0, .int 0, .int 0, .int 0, .int 0])), (tk, .inr (0, [.int 16777216, .ref ka, .int 0])), (ka, .inl (cK, 64, .inl (fun _ => 0))), (mm, .inr (12, fs)), (mt, .inl (cB, 65536, .inl (fun _ => 0))), (o, .inl (cJ, 1, .inr (.inl (fun _ => 0))))]) (w1 := []) hP hD [] [0, 1, 2, 3, 4, 5, 6, 7, 8, 9, 10, 11, 12, 13] rfl rfl (by decide) (by decide) hk1 hFc va_P_nil va_D_nil
  generalize H1 = H at hP hS ⊢
  have hP : va_P (dC, dI) classes [(h0, .inr (11, [.ref tp, .ref sh, .ref me, .ref te, .ref en, .ref lx, .ref pa, .ref fr, .ref re, .ref ty, .ref fm, .ref pr, .int 0, .int 0])), (tp, .inr (0, [.int 65536, .ref ta, .int 0])), (ta, .inl (cT, 256, .inl (fun _ => 0))), (sh, .inr (0, [.int 65536, .ref sa, .int 0])), (me, .inr (1, [.int 0, .int 0, .int 0, .int 0])), (te, .inr (2, [.ref me, .ref t1, .ref t2, .ref t3, .ref t4, .ref t5, .ref t6, .ref t7, .ref t8, .int 0])), (en, .inr (3, [.ref fc, .ref nn, .int 0])), (fc, .inr (0, [.int 16777216, .ref fa, .int 0])), (lx, .inr (4, [.ref tp, .ref tk, .int 0, .int 0, .int 0, .int 0, .int 0])), (tk, .inr (0, [.int 16777216, .ref ka, .int 0])), (ka, .inl (cK, 64, .inl (fun _ => 0))), (mm, .inr (12, fs)), (mt, .inl (cB, 65536, .inl (fun _ => 0))), (o, .inl (cJ, 1, .inr (.inl (fun _ => 0))))] H := hP
  have hD : va_D A [(h0, .inr (11, [.ref tp, .ref sh, .ref me, .ref te, .ref en, .ref lx, .ref pa, .ref fr, .ref re, .ref ty, .ref fm, .ref pr, .int 0, .int 0])), (tp, .inr (0, [.int 65536, .ref ta, .int 0])), (ta, .inl (cT, 256, .inl (fun _ => 0))), (sh, .inr (0, [.int 65536, .ref sa, .int 0])), (me, .inr (1, [.int 0, .int 0, .int 0, .int 0])), (te, .inr (2, [.ref me, .ref t1, .ref t2, .ref t3, .ref t4, .ref t5, .ref t6, .ref t7, .ref t8, .int 0])), (en, .inr (3, [.ref fc, .ref nn, .int 0])), (fc, .inr (0, [.int 16777216, .ref fa, .int 0])), (lx, .inr (4, [.ref tp, .ref tk, .int 0, .int 0, .int 0, .int 0, .int 0])), (tk, .inr (0, [.int 16777216, .ref ka, .int 0])), (ka, .inl (cK, 64, .inl (fun _ => 0))), (mm, .inr (12, fs)), (mt, .inl (cB, 65536, .inl (fun _ => 0))), (o, .inl (cJ, 1, .inr (.inl (fun _ => 0))))] := hD
  refine W.widen (k := 105) (n := 2672983) (Nat.le_of_ble_eq_true rfl) (Nat.le_of_ble_eq_true rfl) ?_
  subst hw
  refine lv_istore (lv' := [(5, .int 1), (4, .int 0), (0, .ref b), (1, .ref h0), (2, .ref mm), (3, .ref o)]) hx hb d_Law_law_392 hl (by decide) rfl (fun ls hl => ?_)
  refine lv_aload_n hx hb d_Law_law_394 rfl (lv_at hl 4 rfl) ?_
  refine lv_aload_n hx hb d_Law_law_395 rfl (lv_at hl 2 rfl) ?_
  refine lv_iload hx hb d_Law_law_396 (lv_at hl 1 rfl) ?_
  refine lv_iconst (v := 1) hx hb d_Law_law_398 (by decide) ?_
  refine lv_iadd hx hb d_Law_law_399 ?_
  refine lv_topi (fun x_4 ex_4 => ?_)
  obtain rfl : x_4 = 1 := by rw [ex_4]; decide
  refine va_sld hx hb hX0 hbl hbA hS (vp_in_nI (n := 1) (by decide) (by decide)) d_Law_law_400 ?_
  refine lv_aload_n hx hb d_Law_law_401 rfl (lv_at hl 2 rfl) ?_
  refine lv_iload hx hb d_Law_law_402 (lv_at hl 1 rfl) ?_
  refine lv_iconst (v := 2) hx hb d_Law_law_404 (by decide) ?_
  refine lv_iadd hx hb d_Law_law_405 ?_
  refine lv_topi (fun x_5 ex_5 => ?_)
  obtain rfl : x_5 = 2 := by rw [ex_5]; decide
  refine va_sld hx hb hX0 hbl hbA hS (vp_in_nI (n := 2) (by decide) (by decide)) d_Law_law_406 ?_
  have hPc := hP.sub (ws' := [(mm, .inr (12, fs))]) [11] rfl
  have hDc := hD.sub (ws' := [(mm, .inr (12, fs))]) [11] (by decide) rfl
  have hKc := hK.sub (tys' := []) [] rfl
  have hFc := va_free (wc := [(mm, .inr (12, fs))]) hD hS hA [11] rfl
  refine va_calli (va_runV (As := [.int (xs (1 : Int32).toNatClampNeg), .int (xs (2 : Int32).toNatClampNeg)]) (rest := []) ⟨hx, hb, hml, hown, hT⟩ (c_Mod_show l dC dI H.size mm fs hz (xs (1 : Int32).toNatClampNeg) (xs (2 : Int32).toNatClampNeg)) (cwV 2 hT (gV vt_423 vt_424 vt_425 vt_352 vt_426) rfl rfl rfl (by decide +kernel) ⟨Nat.le_of_ble_eq_true rfl, Nat.le_of_ble_eq_true rfl⟩) ⟨Pw_blind, va_recv hK hP (ci := 12) (q0 := 11) rfl rfl, Pw_of hPc hKc hDc⟩ rfl rfl hl.1 rfl (lv_room (Nat.le_of_ble_eq_true rfl)) d_Law_law_407 ⟨Nat.le_of_ble_eq_true rfl, Nat.le_of_ble_eq_true rfl⟩) hS (fun q _ h => hFc q h) hFc (fun r_7 u t H1 locs ht hvm hw hB hz1 hk1 hS => ?_)
  obtain ⟨fs_6, hP1, hK1, hD1, lfs_6, tfs_6⟩ := hB
  rw [ht] at hP1
  have hK1 := va_K.moved hvm.symm hK1
  obtain ⟨hP, hD⟩ := va_join (wr := [(h0, .inr (11, [.ref tp, .ref sh, .ref me, .ref te, .ref en, .ref lx, .ref pa, .ref fr, .ref re, .ref ty, .ref fm, .ref pr, .int 0, .int 0])), (tp, .inr (0, [.int 65536, .ref ta, .int 0])), (ta, .inl (cT, 256, .inl (fun _ => 0))), (sh, .inr (0, [.int 65536, .ref sa, .int 0])), (me, .inr (1, [.int 0, .int 0, .int 0, .int 0])), (te, .inr (2, [.ref me, .ref t1, .ref t2, .ref t3, .ref t4, .ref t5, .ref t6, .ref t7, .ref t8, .int 0])), (en, .inr (3, [.ref fc, .ref nn, .int 0])), (fc, .inr (0, [.int 16777216, .ref fa, .int 0])), (lx, .inr (4, [.ref tp, .ref tk, .int 0, .int 0, .int 0, .int 0, .int 0])), (tk, .inr (0, [.int 16777216, .ref ka, .int 0])), (ka, .inl (cK, 64, .inl (fun _ => 0))), (mt, .inl (cB, 65536, .inl (fun _ => 0))), (o, .inl (cJ, 1, .inr (.inl (fun _ => 0))))]) (w1 := [(mm, .inr (12, fs_6))]) hP hD [11] [0, 1, 2, 3, 4, 5, 6, 7, 8, 9, 10, 12, 13] rfl rfl (by decide) (by decide) hk1 hFc hP1 hD1
  generalize H1 = H at hP hS ⊢
  have hP : va_P (dC, dI) classes [(h0, .inr (11, [.ref tp, .ref sh, .ref me, .ref te, .ref en, .ref lx, .ref pa, .ref fr, .ref re, .ref ty, .ref fm, .ref pr, .int 0, .int 0])), (tp, .inr (0, [.int 65536, .ref ta, .int 0])), (ta, .inl (cT, 256, .inl (fun _ => 0))), (sh, .inr (0, [.int 65536, .ref sa, .int 0])), (me, .inr (1, [.int 0, .int 0, .int 0, .int 0])), (te, .inr (2, [.ref me, .ref t1, .ref t2, .ref t3, .ref t4, .ref t5, .ref t6, .ref t7, .ref t8, .int 0])), (en, .inr (3, [.ref fc, .ref nn, .int 0])), (fc, .inr (0, [.int 16777216, .ref fa, .int 0])), (lx, .inr (4, [.ref tp, .ref tk, .int 0, .int 0, .int 0, .int 0, .int 0])), (tk, .inr (0, [.int 16777216, .ref ka, .int 0])), (ka, .inl (cK, 64, .inl (fun _ => 0))), (mt, .inl (cB, 65536, .inl (fun _ => 0))), (o, .inl (cJ, 1, .inr (.inl (fun _ => 0)))), (mm, .inr (12, fs_6))] H := hP
  have hD : va_D A [(h0, .inr (11, [.ref tp, .ref sh, .ref me, .ref te, .ref en, .ref lx, .ref pa, .ref fr, .ref re, .ref ty, .ref fm, .ref pr, .int 0, .int 0])), (tp, .inr (0, [.int 65536, .ref ta, .int 0])), (ta, .inl (cT, 256, .inl (fun _ => 0))), (sh, .inr (0, [.int 65536, .ref sa, .int 0])), (me, .inr (1, [.int 0, .int 0, .int 0, .int 0])), (te, .inr (2, [.ref me, .ref t1, .ref t2, .ref t3, .ref t4, .ref t5, .ref t6, .ref t7, .ref t8, .int 0])), (en, .inr (3, [.ref fc, .ref nn, .int 0])), (fc, .inr (0, [.int 16777216, .ref fa, .int 0])), (lx, .inr (4, [.ref tp, .ref tk, .int 0, .int 0, .int 0, .int 0, .int 0])), (tk, .inr (0, [.int 16777216, .ref ka, .int 0])), (ka, .inl (cK, 64, .inl (fun _ => 0))), (mt, .inl (cB, 65536, .inl (fun _ => 0))), (o, .inl (cJ, 1, .inr (.inl (fun _ => 0)))), (mm, .inr (12, fs_6))] := hD
  refine W.widen (k := 105) (n := 2672983) (Nat.le_of_ble_eq_true rfl) (Nat.le_of_ble_eq_true rfl) ?_
  subst hw
  refine lv_istore (lv' := [(6, .int 0), (5, .int 1), (4, .int 0), (0, .ref b), (1, .ref h0), (2, .ref mm), (3, .ref o)]) hx hb d_Law_law_410 hl (by decide) rfl (fun ls hl => ?_)
  refine lv_aload_n hx hb d_Law_law_412 rfl (lv_at hl 5 rfl) ?_
  refine W.callR (W.runV (As := []) (rest := []) ⟨hx, hb, hml, hown, hT⟩ (c_Mod_thrown l dC dI mm fs_6 1 tfs_6) (cwV 0 hT (gV vt_402 vt_403 vt_404 vt_352 vt_405) rfl rfl rfl (by decide +kernel) ⟨Nat.le_of_ble_eq_true rfl, Nat.le_of_ble_eq_true rfl⟩) ⟨Pp_blind, va_recv hK hP (ci := 12) (q0 := 13) rfl rfl, Pp_of (hP.sub (ws' := [(mm, .inr (12, fs_6))]) [13] rfl) (hK.sub (tys' := []) [] rfl)⟩ rfl rfl hl.1 rfl (lv_room (Nat.le_of_ble_eq_true rfl)) d_Law_law_413 ⟨Nat.le_of_ble_eq_true rfl, Nat.le_of_ble_eq_true rfl⟩) ?_
  refine W.eq (g2 := F0 m 416 ls [.int 1]) rfl ?_
  refine lv_iload hx hb d_Law_law_416 (lv_at hl 1 rfl) ?_
  refine lv_icmp_eq (tgt := 423) hx hb d_Law_law_418 (by decide) (fun c_8 => ?_) (fun c_8 => absurd (rfl) c_8)
  refine lv_iload hx hb d_Law_law_423 (lv_at hl 1 rfl) ?_
  refine lv_if_ne (tgt := 440) hx hb d_Law_law_425 (by decide) (fun c_9 => ?_) (fun c_9 => absurd c_9 (by decide))
  refine lv_goto (tgt := 592) hx hb d_Law_law_440 (by decide) ?_
  exact law_next C0 (Nat.le_of_ble_eq_true rfl) (Nat.le_of_ble_eq_true rfl) hAe.symm hS (lv_sub hl [2, 3] rfl)
set_option maxHeartbeats 4000000 in
set_option maxRecDepth 100000 in
theorem law_c_showRec (l : Launch) (hfl : l.flags = flags0) {p : Program} {e : Env} {s : State} {m : MethodId} {below : List Frame} {meth : Method} {c : Code} {b : Nat} {xs : Nat → Int32} (C0 : lw_At p s m meth c b 6 xs) {dC : Nat → ClassId} {dI : Nat → Nat → Nat} {h0 tp ta sh sa me te t1 t2 t3 t4 t5 t6 t7 t8 en fc fa nn lx tk ka pa fr re ty fm pr mm mt o : Nat} {cT cK cB cJ : ClassId} {fs : List Value} (hz : Mz fs) (htp : fs[0]? = some (.ref mt)) {H : Heap} {locs : List Loc} {ls : Array Slot} {A : Nat → Prop} (hAe : (fun q : Nat => s.heap.size ≤ q) = A) (hK : va_K (dC, dI) classes [(cT, .int), (cK, .int), (cB, .byte), (cJ, .long)] s) (hP : va_P (dC, dI) classes [(h0, .inr (11, [.ref tp, .ref sh, .ref me, .ref te, .ref en, .ref lx, .ref pa, .ref fr, .ref re, .ref ty, .ref fm, .ref pr, .int 0, .int 0])), (tp, .inr (0, [.int 65536, .ref ta, .int 0])), (ta, .inl (cT, 256, .inl (fun _ => 0))), (sh, .inr (0, [.int 65536, .ref sa, .int 0])), (me, .inr (1, [.int 0, .int 0, .int 0, .int 0])), (te, .inr (2, [.ref me, .ref t1, .ref t2, .ref t3, .ref t4, .ref t5, .ref t6, .ref t7, .ref t8, .int 0])), (en, .inr (3, [.ref fc, .ref nn, .int 0])), (fc, .inr (0, [.int 16777216, .ref fa, .int 0])), (lx, .inr (4, [.ref tp, .ref tk, .int 0, .int 0, .int 0, .int 0, .int 0])), (tk, .inr (0, [.int 16777216, .ref ka, .int 0])), (ka, .inl (cK, 64, .inl (fun _ => 0))), (mm, .inr (12, fs)), (mt, .inl (cB, 65536, .inl (fun _ => 0))), (o, .inl (cJ, 1, .inr (.inl (fun _ => 0))))] H) (hD : va_D A [(h0, .inr (11, [.ref tp, .ref sh, .ref me, .ref te, .ref en, .ref lx, .ref pa, .ref fr, .ref re, .ref ty, .ref fm, .ref pr, .int 0, .int 0])), (tp, .inr (0, [.int 65536, .ref ta, .int 0])), (ta, .inl (cT, 256, .inl (fun _ => 0))), (sh, .inr (0, [.int 65536, .ref sa, .int 0])), (me, .inr (1, [.int 0, .int 0, .int 0, .int 0])), (te, .inr (2, [.ref me, .ref t1, .ref t2, .ref t3, .ref t4, .ref t5, .ref t6, .ref t7, .ref t8, .int 0])), (en, .inr (3, [.ref fc, .ref nn, .int 0])), (fc, .inr (0, [.int 16777216, .ref fa, .int 0])), (lx, .inr (4, [.ref tp, .ref tk, .int 0, .int 0, .int 0, .int 0, .int 0])), (tk, .inr (0, [.int 16777216, .ref ka, .int 0])), (ka, .inl (cK, 64, .inl (fun _ => 0))), (mm, .inr (12, fs)), (mt, .inl (cB, 65536, .inl (fun _ => 0))), (o, .inl (cJ, 1, .inr (.inl (fun _ => 0))))]) (hS : va_S A s.heap H locs) (hl : lv_has ls 7 [(4, .int 0), (0, .ref b), (1, .ref h0), (2, .ref mm), (3, .ref o)]) : W p l e room_1 s m #[Value.ref b] below meth c H locs 104 2672977 (lw_Z below #[Value.ref b] s) (F0 m 443 ls []) := by
  obtain ⟨hx, hb, hr, hml, hown, hts, hX0, hbl, hlocks, hgv⟩ := id C0
  have hT : ∀ w ∈ vT, w.before _ s = true := fun w h => hts w (vT_in w h)
  have hA : ∀ q : Nat, s.heap.size ≤ q → A q := fun q h => by rw [← hAe]; exact h
  have hAn : ∀ q : Nat, q < s.heap.size → ¬ A q := fun q h => by rw [← hAe]; exact Nat.not_le.mpr h
  have hbA : ¬ A b := hAn b hbl
  refine lv_aload_n hx hb d_Law_law_443 rfl (lv_at hl 2 rfl) ?_
  refine lv_aload_n hx hb d_Law_law_444 rfl (lv_at hl 1 rfl) ?_
  refine lv_iload hx hb d_Law_law_445 (lv_at hl 0 rfl) ?_
  refine lv_iconst (v := 1) hx hb d_Law_law_447 (by decide) ?_
  refine lv_iadd hx hb d_Law_law_448 ?_
  refine lv_topi (fun x_1 ex_1 => ?_)
  obtain rfl : x_1 = 1 := by rw [ex_1]; decide
  refine va_sld hx hb hX0 hbl hbA hS (vp_in_nI (n := 1) (by decide) (by decide)) d_Law_law_449 ?_
  refine lv_aload_n hx hb d_Law_law_450 rfl (lv_at hl 1 rfl) ?_
  refine lv_iload hx hb d_Law_law_451 (lv_at hl 0 rfl) ?_
  refine lv_iconst (v := 2) hx hb d_Law_law_453 (by decide) ?_
  refine lv_iadd hx hb d_Law_law_454 ?_
  refine lv_topi (fun x_2 ex_2 => ?_)
  obtain rfl : x_2 = 2 := by rw [ex_2]; decide
  refine va_sld hx hb hX0 hbl hbA hS (vp_in_nI (n := 2) (by decide) (by decide)) d_Law_law_455 ?_
  refine lv_aload_n hx hb d_Law_law_456 rfl (lv_at hl 4 rfl) ?_
  have hPc := hP.sub (ws' := [(h0, .inr (11, [.ref tp, .ref sh, .ref me, .ref te, .ref en, .ref lx, .ref pa, .ref fr, .ref re, .ref ty, .ref fm, .ref pr, .int 0, .int 0])), (en, .inr (3, [.ref fc, .ref nn, .int 0])), (fc, .inr (0, [.int 16777216, .ref fa, .int 0]))]) [0, 6, 7] rfl
  have hKc := hK.sub (tys' := []) [] rfl
  have hFc := va_free (wc := []) hD hS hA [] rfl
  have hH0 : ∀ (a : Nat) (cell : Cell), s.heap[a]? = some cell → cell.vm.isStatics = true → H[a]? = some cell := fun a cell hc _ => by rw [hS.2.1 a (Array.getElem?_eq_some_iff.mp hc).1 (hAn a (Array.getElem?_eq_some_iff.mp hc).1)]; exact hc
  refine va_calli (vx_runSW (n := 4) (As := [.ref h0, .int (xs (1 : Int32).toNatClampNeg), .int (xs (2 : Int32).toNatClampNeg), .ref o]) (rest := []) ⟨hx, hb, hml, hown, hT⟩ (h_showRec l dC dI hfl H.size h0 tp ta sh sa me te t1 t2 t3 t4 t5 t6 t7 t8 en fc fa nn lx tk ka pa fr re ty fm pr cT cK o (xs (1 : Int32).toNatClampNeg) (xs (2 : Int32).toNatClampNeg)) vt_427 vt_428 vt_396 vt_429 rfl rfl (by decide +kernel) ⟨Nat.le_of_ble_eq_true rfl, Nat.le_of_ble_eq_true rfl⟩ ⟨PhX_blind, PhX_of hPc hKc hH0 (law_X_NSE C0)⟩ rfl rfl hl.1 rfl (lv_room (Nat.le_of_ble_eq_true rfl)) d_Law_law_457 ⟨Nat.le_of_ble_eq_true rfl, Nat.le_of_ble_eq_true rfl⟩) hS (fun q _ h => hFc q h) hFc (fun r_3 u t H1 locs ht hvm hw hB hz1 hk1 hS => ?_)
  obtain ⟨hP, hD⟩ := va_join (wr := [(h0, .inr (11, [.ref tp, .ref sh, .ref me, .ref te, .ref en, .ref lx, .ref pa, .ref fr, .ref re, .ref ty, .ref fm, .ref pr, .int 0, .int 0])), (tp, .inr (0, [.int 65536, .ref ta, .int 0])), (ta, .inl (cT, 256, .inl (fun _ => 0))), (sh, .inr (0, [.int 65536, .ref sa, .int 0])), (me, .inr (1, [.int 0, .int 0, .int 0, .int 0])), (te, .inr (2, [.ref me, .ref t1, .ref t2, .ref t3, .ref t4, .ref t5, .ref t6, .ref t7, .ref t8, .int 0])), (en, .inr (3, [.ref fc, .ref nn, .int 0])), (fc, .inr (0, [.int 16777216, .ref fa, .int 0])), (lx, .inr (4, [.ref tp, .ref tk, .int 0, .int 0, .int 0, .int 0, .int 0])), (tk, .inr (0, [.int 16777216, .ref ka, .int 0])), (ka, .inl (cK, 64, .inl (fun _ => 0))), (mm, .inr (12, fs)), (mt, .inl (cB, 65536, .inl (fun _ => 0))), (o, .inl (cJ, 1, .inr (.inl (fun _ => 0))))]) (w1 := []) hP hD [] [0, 1, 2, 3, 4, 5, 6, 7, 8, 9, 10, 11, 12, 13] rfl rfl (by decide) (by decide) hk1 hFc va_P_nil va_D_nil
  generalize H1 = H at hP hS ⊢
  have hP : va_P (dC, dI) classes [(h0, .inr (11, [.ref tp, .ref sh, .ref me, .ref te, .ref en, .ref lx, .ref pa, .ref fr, .ref re, .ref ty, .ref fm, .ref pr, .int 0, .int 0])), (tp, .inr (0, [.int 65536, .ref ta, .int 0])), (ta, .inl (cT, 256, .inl (fun _ => 0))), (sh, .inr (0, [.int 65536, .ref sa, .int 0])), (me, .inr (1, [.int 0, .int 0, .int 0, .int 0])), (te, .inr (2, [.ref me, .ref t1, .ref t2, .ref t3, .ref t4, .ref t5, .ref t6, .ref t7, .ref t8, .int 0])), (en, .inr (3, [.ref fc, .ref nn, .int 0])), (fc, .inr (0, [.int 16777216, .ref fa, .int 0])), (lx, .inr (4, [.ref tp, .ref tk, .int 0, .int 0, .int 0, .int 0, .int 0])), (tk, .inr (0, [.int 16777216, .ref ka, .int 0])), (ka, .inl (cK, 64, .inl (fun _ => 0))), (mm, .inr (12, fs)), (mt, .inl (cB, 65536, .inl (fun _ => 0))), (o, .inl (cJ, 1, .inr (.inl (fun _ => 0))))] H := hP
  have hD : va_D A [(h0, .inr (11, [.ref tp, .ref sh, .ref me, .ref te, .ref en, .ref lx, .ref pa, .ref fr, .ref re, .ref ty, .ref fm, .ref pr, .int 0, .int 0])), (tp, .inr (0, [.int 65536, .ref ta, .int 0])), (ta, .inl (cT, 256, .inl (fun _ => 0))), (sh, .inr (0, [.int 65536, .ref sa, .int 0])), (me, .inr (1, [.int 0, .int 0, .int 0, .int 0])), (te, .inr (2, [.ref me, .ref t1, .ref t2, .ref t3, .ref t4, .ref t5, .ref t6, .ref t7, .ref t8, .int 0])), (en, .inr (3, [.ref fc, .ref nn, .int 0])), (fc, .inr (0, [.int 16777216, .ref fa, .int 0])), (lx, .inr (4, [.ref tp, .ref tk, .int 0, .int 0, .int 0, .int 0, .int 0])), (tk, .inr (0, [.int 16777216, .ref ka, .int 0])), (ka, .inl (cK, 64, .inl (fun _ => 0))), (mm, .inr (12, fs)), (mt, .inl (cB, 65536, .inl (fun _ => 0))), (o, .inl (cJ, 1, .inr (.inl (fun _ => 0))))] := hD
  refine W.widen (k := 105) (n := 2672983) (Nat.le_of_ble_eq_true rfl) (Nat.le_of_ble_eq_true rfl) ?_
  subst hw
  refine lv_istore (lv' := [(5, .int 1), (4, .int 0), (0, .ref b), (1, .ref h0), (2, .ref mm), (3, .ref o)]) hx hb d_Law_law_460 hl (by decide) rfl (fun ls hl => ?_)
  refine lv_aload_n hx hb d_Law_law_462 rfl (lv_at hl 4 rfl) ?_
  refine lv_aload_n hx hb d_Law_law_463 rfl (lv_at hl 2 rfl) ?_
  refine lv_iload hx hb d_Law_law_464 (lv_at hl 1 rfl) ?_
  refine lv_iconst (v := 1) hx hb d_Law_law_466 (by decide) ?_
  refine lv_iadd hx hb d_Law_law_467 ?_
  refine lv_topi (fun x_4 ex_4 => ?_)
  obtain rfl : x_4 = 1 := by rw [ex_4]; decide
  refine va_sld hx hb hX0 hbl hbA hS (vp_in_nI (n := 1) (by decide) (by decide)) d_Law_law_468 ?_
  refine lv_aload_n hx hb d_Law_law_469 rfl (lv_at hl 2 rfl) ?_
  refine lv_iload hx hb d_Law_law_470 (lv_at hl 1 rfl) ?_
  refine lv_iconst (v := 2) hx hb d_Law_law_472 (by decide) ?_
  refine lv_iadd hx hb d_Law_law_473 ?_
  refine lv_topi (fun x_5 ex_5 => ?_)
  obtain rfl : x_5 = 2 := by rw [ex_5]; decide
  refine va_sld hx hb hX0 hbl hbA hS (vp_in_nI (n := 2) (by decide) (by decide)) d_Law_law_474 ?_
  have hPc := hP.sub (ws' := [(mm, .inr (12, fs))]) [11] rfl
  have hDc := hD.sub (ws' := [(mm, .inr (12, fs))]) [11] (by decide) rfl
  have hKc := hK.sub (tys' := []) [] rfl
  have hFc := va_free (wc := [(mm, .inr (12, fs))]) hD hS hA [11] rfl
  refine va_calli (va_runV (As := [.int (xs (1 : Int32).toNatClampNeg), .int (xs (2 : Int32).toNatClampNeg)]) (rest := []) ⟨hx, hb, hml, hown, hT⟩ (c_Mod_showRec l dC dI H.size mm fs hz (xs (1 : Int32).toNatClampNeg) (xs (2 : Int32).toNatClampNeg)) (cwV 2 hT (gV vt_430 vt_431 vt_432 vt_352 vt_433) rfl rfl rfl (by decide +kernel) ⟨Nat.le_of_ble_eq_true rfl, Nat.le_of_ble_eq_true rfl⟩) ⟨Pw_blind, va_recv hK hP (ci := 12) (q0 := 11) rfl rfl, Pw_of hPc hKc hDc⟩ rfl rfl hl.1 rfl (lv_room (Nat.le_of_ble_eq_true rfl)) d_Law_law_475 ⟨Nat.le_of_ble_eq_true rfl, Nat.le_of_ble_eq_true rfl⟩) hS (fun q _ h => hFc q h) hFc (fun r_7 u t H1 locs ht hvm hw hB hz1 hk1 hS => ?_)
  obtain ⟨fs_6, hP1, hK1, hD1, lfs_6, tfs_6⟩ := hB
  rw [ht] at hP1
  have hK1 := va_K.moved hvm.symm hK1
  obtain ⟨hP, hD⟩ := va_join (wr := [(h0, .inr (11, [.ref tp, .ref sh, .ref me, .ref te, .ref en, .ref lx, .ref pa, .ref fr, .ref re, .ref ty, .ref fm, .ref pr, .int 0, .int 0])), (tp, .inr (0, [.int 65536, .ref ta, .int 0])), (ta, .inl (cT, 256, .inl (fun _ => 0))), (sh, .inr (0, [.int 65536, .ref sa, .int 0])), (me, .inr (1, [.int 0, .int 0, .int 0, .int 0])), (te, .inr (2, [.ref me, .ref t1, .ref t2, .ref t3, .ref t4, .ref t5, .ref t6, .ref t7, .ref t8, .int 0])), (en, .inr (3, [.ref fc, .ref nn, .int 0])), (fc, .inr (0, [.int 16777216, .ref fa, .int 0])), (lx, .inr (4, [.ref tp, .ref tk, .int 0, .int 0, .int 0, .int 0, .int 0])), (tk, .inr (0, [.int 16777216, .ref ka, .int 0])), (ka, .inl (cK, 64, .inl (fun _ => 0))), (mt, .inl (cB, 65536, .inl (fun _ => 0))), (o, .inl (cJ, 1, .inr (.inl (fun _ => 0))))]) (w1 := [(mm, .inr (12, fs_6))]) hP hD [11] [0, 1, 2, 3, 4, 5, 6, 7, 8, 9, 10, 12, 13] rfl rfl (by decide) (by decide) hk1 hFc hP1 hD1
  generalize H1 = H at hP hS ⊢
  have hP : va_P (dC, dI) classes [(h0, .inr (11, [.ref tp, .ref sh, .ref me, .ref te, .ref en, .ref lx, .ref pa, .ref fr, .ref re, .ref ty, .ref fm, .ref pr, .int 0, .int 0])), (tp, .inr (0, [.int 65536, .ref ta, .int 0])), (ta, .inl (cT, 256, .inl (fun _ => 0))), (sh, .inr (0, [.int 65536, .ref sa, .int 0])), (me, .inr (1, [.int 0, .int 0, .int 0, .int 0])), (te, .inr (2, [.ref me, .ref t1, .ref t2, .ref t3, .ref t4, .ref t5, .ref t6, .ref t7, .ref t8, .int 0])), (en, .inr (3, [.ref fc, .ref nn, .int 0])), (fc, .inr (0, [.int 16777216, .ref fa, .int 0])), (lx, .inr (4, [.ref tp, .ref tk, .int 0, .int 0, .int 0, .int 0, .int 0])), (tk, .inr (0, [.int 16777216, .ref ka, .int 0])), (ka, .inl (cK, 64, .inl (fun _ => 0))), (mt, .inl (cB, 65536, .inl (fun _ => 0))), (o, .inl (cJ, 1, .inr (.inl (fun _ => 0)))), (mm, .inr (12, fs_6))] H := hP
  have hD : va_D A [(h0, .inr (11, [.ref tp, .ref sh, .ref me, .ref te, .ref en, .ref lx, .ref pa, .ref fr, .ref re, .ref ty, .ref fm, .ref pr, .int 0, .int 0])), (tp, .inr (0, [.int 65536, .ref ta, .int 0])), (ta, .inl (cT, 256, .inl (fun _ => 0))), (sh, .inr (0, [.int 65536, .ref sa, .int 0])), (me, .inr (1, [.int 0, .int 0, .int 0, .int 0])), (te, .inr (2, [.ref me, .ref t1, .ref t2, .ref t3, .ref t4, .ref t5, .ref t6, .ref t7, .ref t8, .int 0])), (en, .inr (3, [.ref fc, .ref nn, .int 0])), (fc, .inr (0, [.int 16777216, .ref fa, .int 0])), (lx, .inr (4, [.ref tp, .ref tk, .int 0, .int 0, .int 0, .int 0, .int 0])), (tk, .inr (0, [.int 16777216, .ref ka, .int 0])), (ka, .inl (cK, 64, .inl (fun _ => 0))), (mt, .inl (cB, 65536, .inl (fun _ => 0))), (o, .inl (cJ, 1, .inr (.inl (fun _ => 0)))), (mm, .inr (12, fs_6))] := hD
  refine W.widen (k := 105) (n := 2672983) (Nat.le_of_ble_eq_true rfl) (Nat.le_of_ble_eq_true rfl) ?_
  subst hw
  refine lv_istore (lv' := [(6, .int 0), (5, .int 1), (4, .int 0), (0, .ref b), (1, .ref h0), (2, .ref mm), (3, .ref o)]) hx hb d_Law_law_478 hl (by decide) rfl (fun ls hl => ?_)
  refine lv_aload_n hx hb d_Law_law_480 rfl (lv_at hl 5 rfl) ?_
  refine W.callR (W.runV (As := []) (rest := []) ⟨hx, hb, hml, hown, hT⟩ (c_Mod_thrown l dC dI mm fs_6 1 tfs_6) (cwV 0 hT (gV vt_402 vt_403 vt_404 vt_352 vt_405) rfl rfl rfl (by decide +kernel) ⟨Nat.le_of_ble_eq_true rfl, Nat.le_of_ble_eq_true rfl⟩) ⟨Pp_blind, va_recv hK hP (ci := 12) (q0 := 13) rfl rfl, Pp_of (hP.sub (ws' := [(mm, .inr (12, fs_6))]) [13] rfl) (hK.sub (tys' := []) [] rfl)⟩ rfl rfl hl.1 rfl (lv_room (Nat.le_of_ble_eq_true rfl)) d_Law_law_481 ⟨Nat.le_of_ble_eq_true rfl, Nat.le_of_ble_eq_true rfl⟩) ?_
  refine W.eq (g2 := F0 m 484 ls [.int 1]) rfl ?_
  refine lv_iload hx hb d_Law_law_484 (lv_at hl 1 rfl) ?_
  refine lv_icmp_eq (tgt := 491) hx hb d_Law_law_486 (by decide) (fun c_8 => ?_) (fun c_8 => absurd (rfl) c_8)
  refine lv_iload hx hb d_Law_law_491 (lv_at hl 1 rfl) ?_
  refine lv_if_ne (tgt := 508) hx hb d_Law_law_493 (by decide) (fun c_9 => ?_) (fun c_9 => absurd c_9 (by decide))
  refine lv_goto (tgt := 592) hx hb d_Law_law_508 (by decide) ?_
  exact law_next C0 (Nat.le_of_ble_eq_true rfl) (Nat.le_of_ble_eq_true rfl) hAe.symm hS (lv_sub hl [2, 3] rfl)
set_option maxHeartbeats 4000000 in
set_option maxRecDepth 100000 in
theorem law_c_out (l : Launch) (hfl : l.flags = flags0) {p : Program} {e : Env} {s : State} {m : MethodId} {below : List Frame} {meth : Method} {c : Code} {b : Nat} {xs : Nat → Int32} (C0 : lw_At p s m meth c b 6 xs) {dC : Nat → ClassId} {dI : Nat → Nat → Nat} {h0 tp ta sh sa me te t1 t2 t3 t4 t5 t6 t7 t8 en fc fa nn lx tk ka pa fr re ty fm pr mm mt o : Nat} {cT cK cB cJ : ClassId} {fs : List Value} (hz : Mz fs) (htp : fs[0]? = some (.ref mt)) {H : Heap} {locs : List Loc} {ls : Array Slot} {A : Nat → Prop} (hAe : (fun q : Nat => s.heap.size ≤ q) = A) (hK : va_K (dC, dI) classes [(cT, .int), (cK, .int), (cB, .byte), (cJ, .long)] s) (hP : va_P (dC, dI) classes [(h0, .inr (11, [.ref tp, .ref sh, .ref me, .ref te, .ref en, .ref lx, .ref pa, .ref fr, .ref re, .ref ty, .ref fm, .ref pr, .int 0, .int 0])), (tp, .inr (0, [.int 65536, .ref ta, .int 0])), (ta, .inl (cT, 256, .inl (fun _ => 0))), (sh, .inr (0, [.int 65536, .ref sa, .int 0])), (me, .inr (1, [.int 0, .int 0, .int 0, .int 0])), (te, .inr (2, [.ref me, .ref t1, .ref t2, .ref t3, .ref t4, .ref t5, .ref t6, .ref t7, .ref t8, .int 0])), (en, .inr (3, [.ref fc, .ref nn, .int 0])), (fc, .inr (0, [.int 16777216, .ref fa, .int 0])), (lx, .inr (4, [.ref tp, .ref tk, .int 0, .int 0, .int 0, .int 0, .int 0])), (tk, .inr (0, [.int 16777216, .ref ka, .int 0])), (ka, .inl (cK, 64, .inl (fun _ => 0))), (mm, .inr (12, fs)), (mt, .inl (cB, 65536, .inl (fun _ => 0))), (o, .inl (cJ, 1, .inr (.inl (fun _ => 0))))] H) (hD : va_D A [(h0, .inr (11, [.ref tp, .ref sh, .ref me, .ref te, .ref en, .ref lx, .ref pa, .ref fr, .ref re, .ref ty, .ref fm, .ref pr, .int 0, .int 0])), (tp, .inr (0, [.int 65536, .ref ta, .int 0])), (ta, .inl (cT, 256, .inl (fun _ => 0))), (sh, .inr (0, [.int 65536, .ref sa, .int 0])), (me, .inr (1, [.int 0, .int 0, .int 0, .int 0])), (te, .inr (2, [.ref me, .ref t1, .ref t2, .ref t3, .ref t4, .ref t5, .ref t6, .ref t7, .ref t8, .int 0])), (en, .inr (3, [.ref fc, .ref nn, .int 0])), (fc, .inr (0, [.int 16777216, .ref fa, .int 0])), (lx, .inr (4, [.ref tp, .ref tk, .int 0, .int 0, .int 0, .int 0, .int 0])), (tk, .inr (0, [.int 16777216, .ref ka, .int 0])), (ka, .inl (cK, 64, .inl (fun _ => 0))), (mm, .inr (12, fs)), (mt, .inl (cB, 65536, .inl (fun _ => 0))), (o, .inl (cJ, 1, .inr (.inl (fun _ => 0))))]) (hS : va_S A s.heap H locs) (hl : lv_has ls 7 [(4, .int 0), (0, .ref b), (1, .ref h0), (2, .ref mm), (3, .ref o)]) : W p l e room_1 s m #[Value.ref b] below meth c H locs 104 2672977 (lw_Z below #[Value.ref b] s) (F0 m 511 ls []) := by
  obtain ⟨hx, hb, hr, hml, hown, hts, hX0, hbl, hlocks, hgv⟩ := id C0
  have hT : ∀ w ∈ vT, w.before _ s = true := fun w h => hts w (vT_in w h)
  have hA : ∀ q : Nat, s.heap.size ≤ q → A q := fun q h => by rw [← hAe]; exact h
  have hAn : ∀ q : Nat, q < s.heap.size → ¬ A q := fun q h => by rw [← hAe]; exact Nat.not_le.mpr h
  have hbA : ¬ A b := hAn b hbl
  refine lv_aload_n hx hb d_Law_law_511 rfl (lv_at hl 2 rfl) ?_
  refine lv_aload_n hx hb d_Law_law_512 rfl (lv_at hl 1 rfl) ?_
  refine lv_iload hx hb d_Law_law_513 (lv_at hl 0 rfl) ?_
  refine lv_iconst (v := 1) hx hb d_Law_law_515 (by decide) ?_
  refine lv_iadd hx hb d_Law_law_516 ?_
  refine lv_topi (fun x_1 ex_1 => ?_)
  obtain rfl : x_1 = 1 := by rw [ex_1]; decide
  refine va_sld hx hb hX0 hbl hbA hS (vp_in_nI (n := 1) (by decide) (by decide)) d_Law_law_517 ?_
  refine lv_aload_n hx hb d_Law_law_518 rfl (lv_at hl 4 rfl) ?_
  have hPc := hP.sub (ws' := [(h0, .inr (11, [.ref tp, .ref sh, .ref me, .ref te, .ref en, .ref lx, .ref pa, .ref fr, .ref re, .ref ty, .ref fm, .ref pr, .int 0, .int 0])), (sh, .inr (0, [.int 65536, .ref sa, .int 0]))]) [0, 3] rfl
  have hKc := hK.sub (tys' := []) [] rfl
  have hFc := va_free (wc := []) hD hS hA [] rfl
  have hH0 : ∀ (a : Nat) (cell : Cell), s.heap[a]? = some cell → cell.vm.isStatics = true → H[a]? = some cell := fun a cell hc _ => by rw [hS.2.1 a (Array.getElem?_eq_some_iff.mp hc).1 (hAn a (Array.getElem?_eq_some_iff.mp hc).1)]; exact hc
  refine va_calli (vx_runSW (n := 3) (As := [.ref h0, .int (xs (1 : Int32).toNatClampNeg), .ref o]) (rest := []) ⟨hx, hb, hml, hown, hT⟩ (h_out l dC dI hfl H.size h0 tp ta sh sa me te t1 t2 t3 t4 t5 t6 t7 t8 en fc fa nn lx tk ka pa fr re ty fm pr cT cK o (xs (1 : Int32).toNatClampNeg)) vt_434 vt_435 vt_396 vt_436 rfl rfl (by decide +kernel) ⟨Nat.le_of_ble_eq_true rfl, Nat.le_of_ble_eq_true rfl⟩ ⟨PhX_blind, PhX_of hPc hKc hH0 (law_X_IOB C0)⟩ rfl rfl hl.1 rfl (lv_room (Nat.le_of_ble_eq_true rfl)) d_Law_law_519 ⟨Nat.le_of_ble_eq_true rfl, Nat.le_of_ble_eq_true rfl⟩) hS (fun q _ h => hFc q h) hFc (fun r_2 u t H1 locs ht hvm hw hB hz1 hk1 hS => ?_)
  obtain ⟨hP, hD⟩ := va_join (wr := [(h0, .inr (11, [.ref tp, .ref sh, .ref me, .ref te, .ref en, .ref lx, .ref pa, .ref fr, .ref re, .ref ty, .ref fm, .ref pr, .int 0, .int 0])), (tp, .inr (0, [.int 65536, .ref ta, .int 0])), (ta, .inl (cT, 256, .inl (fun _ => 0))), (sh, .inr (0, [.int 65536, .ref sa, .int 0])), (me, .inr (1, [.int 0, .int 0, .int 0, .int 0])), (te, .inr (2, [.ref me, .ref t1, .ref t2, .ref t3, .ref t4, .ref t5, .ref t6, .ref t7, .ref t8, .int 0])), (en, .inr (3, [.ref fc, .ref nn, .int 0])), (fc, .inr (0, [.int 16777216, .ref fa, .int 0])), (lx, .inr (4, [.ref tp, .ref tk, .int 0, .int 0, .int 0, .int 0, .int 0])), (tk, .inr (0, [.int 16777216, .ref ka, .int 0])), (ka, .inl (cK, 64, .inl (fun _ => 0))), (mm, .inr (12, fs)), (mt, .inl (cB, 65536, .inl (fun _ => 0))), (o, .inl (cJ, 1, .inr (.inl (fun _ => 0))))]) (w1 := []) hP hD [] [0, 1, 2, 3, 4, 5, 6, 7, 8, 9, 10, 11, 12, 13] rfl rfl (by decide) (by decide) hk1 hFc va_P_nil va_D_nil
  generalize H1 = H at hP hS ⊢
  have hP : va_P (dC, dI) classes [(h0, .inr (11, [.ref tp, .ref sh, .ref me, .ref te, .ref en, .ref lx, .ref pa, .ref fr, .ref re, .ref ty, .ref fm, .ref pr, .int 0, .int 0])), (tp, .inr (0, [.int 65536, .ref ta, .int 0])), (ta, .inl (cT, 256, .inl (fun _ => 0))), (sh, .inr (0, [.int 65536, .ref sa, .int 0])), (me, .inr (1, [.int 0, .int 0, .int 0, .int 0])), (te, .inr (2, [.ref me, .ref t1, .ref t2, .ref t3, .ref t4, .ref t5, .ref t6, .ref t7, .ref t8, .int 0])), (en, .inr (3, [.ref fc, .ref nn, .int 0])), (fc, .inr (0, [.int 16777216, .ref fa, .int 0])), (lx, .inr (4, [.ref tp, .ref tk, .int 0, .int 0, .int 0, .int 0, .int 0])), (tk, .inr (0, [.int 16777216, .ref ka, .int 0])), (ka, .inl (cK, 64, .inl (fun _ => 0))), (mm, .inr (12, fs)), (mt, .inl (cB, 65536, .inl (fun _ => 0))), (o, .inl (cJ, 1, .inr (.inl (fun _ => 0))))] H := hP
  have hD : va_D A [(h0, .inr (11, [.ref tp, .ref sh, .ref me, .ref te, .ref en, .ref lx, .ref pa, .ref fr, .ref re, .ref ty, .ref fm, .ref pr, .int 0, .int 0])), (tp, .inr (0, [.int 65536, .ref ta, .int 0])), (ta, .inl (cT, 256, .inl (fun _ => 0))), (sh, .inr (0, [.int 65536, .ref sa, .int 0])), (me, .inr (1, [.int 0, .int 0, .int 0, .int 0])), (te, .inr (2, [.ref me, .ref t1, .ref t2, .ref t3, .ref t4, .ref t5, .ref t6, .ref t7, .ref t8, .int 0])), (en, .inr (3, [.ref fc, .ref nn, .int 0])), (fc, .inr (0, [.int 16777216, .ref fa, .int 0])), (lx, .inr (4, [.ref tp, .ref tk, .int 0, .int 0, .int 0, .int 0, .int 0])), (tk, .inr (0, [.int 16777216, .ref ka, .int 0])), (ka, .inl (cK, 64, .inl (fun _ => 0))), (mm, .inr (12, fs)), (mt, .inl (cB, 65536, .inl (fun _ => 0))), (o, .inl (cJ, 1, .inr (.inl (fun _ => 0))))] := hD
  refine W.widen (k := 105) (n := 2672983) (Nat.le_of_ble_eq_true rfl) (Nat.le_of_ble_eq_true rfl) ?_
  subst hw
  refine lv_istore (lv' := [(5, .int 1), (4, .int 0), (0, .ref b), (1, .ref h0), (2, .ref mm), (3, .ref o)]) hx hb d_Law_law_522 hl (by decide) rfl (fun ls hl => ?_)
  refine lv_aload_n hx hb d_Law_law_524 rfl (lv_at hl 4 rfl) ?_
  refine lv_aload_n hx hb d_Law_law_525 rfl (lv_at hl 2 rfl) ?_
  refine lv_iload hx hb d_Law_law_526 (lv_at hl 1 rfl) ?_
  refine lv_iconst (v := 1) hx hb d_Law_law_528 (by decide) ?_
  refine lv_iadd hx hb d_Law_law_529 ?_
  refine lv_topi (fun x_3 ex_3 => ?_)
  obtain rfl : x_3 = 1 := by rw [ex_3]; decide
  refine va_sld hx hb hX0 hbl hbA hS (vp_in_nI (n := 1) (by decide) (by decide)) d_Law_law_530 ?_
  have hPc := hP.sub (ws' := [(mm, .inr (12, fs))]) [11] rfl
  have hDc := hD.sub (ws' := [(mm, .inr (12, fs))]) [11] (by decide) rfl
  have hKc := hK.sub (tys' := []) [] rfl
  have hFc := va_free (wc := [(mm, .inr (12, fs))]) hD hS hA [11] rfl
  refine va_calli (va_runV (As := [.int (xs (1 : Int32).toNatClampNeg)]) (rest := []) ⟨hx, hb, hml, hown, hT⟩ (c_Mod_out l dC dI H.size mm fs hz (xs (1 : Int32).toNatClampNeg)) (cwV 1 hT (gV vt_437 vt_438 vt_439 vt_352 vt_440) rfl rfl rfl (by decide +kernel) ⟨Nat.le_of_ble_eq_true rfl, Nat.le_of_ble_eq_true rfl⟩) ⟨Pw_blind, va_recv hK hP (ci := 12) (q0 := 11) rfl rfl, Pw_of hPc hKc hDc⟩ rfl rfl hl.1 rfl (lv_room (Nat.le_of_ble_eq_true rfl)) d_Law_law_531 ⟨Nat.le_of_ble_eq_true rfl, Nat.le_of_ble_eq_true rfl⟩) hS (fun q _ h => hFc q h) hFc (fun r_5 u t H1 locs ht hvm hw hB hz1 hk1 hS => ?_)
  obtain ⟨fs_4, hP1, hK1, hD1, lfs_4, tfs_4⟩ := hB
  rw [ht] at hP1
  have hK1 := va_K.moved hvm.symm hK1
  obtain ⟨hP, hD⟩ := va_join (wr := [(h0, .inr (11, [.ref tp, .ref sh, .ref me, .ref te, .ref en, .ref lx, .ref pa, .ref fr, .ref re, .ref ty, .ref fm, .ref pr, .int 0, .int 0])), (tp, .inr (0, [.int 65536, .ref ta, .int 0])), (ta, .inl (cT, 256, .inl (fun _ => 0))), (sh, .inr (0, [.int 65536, .ref sa, .int 0])), (me, .inr (1, [.int 0, .int 0, .int 0, .int 0])), (te, .inr (2, [.ref me, .ref t1, .ref t2, .ref t3, .ref t4, .ref t5, .ref t6, .ref t7, .ref t8, .int 0])), (en, .inr (3, [.ref fc, .ref nn, .int 0])), (fc, .inr (0, [.int 16777216, .ref fa, .int 0])), (lx, .inr (4, [.ref tp, .ref tk, .int 0, .int 0, .int 0, .int 0, .int 0])), (tk, .inr (0, [.int 16777216, .ref ka, .int 0])), (ka, .inl (cK, 64, .inl (fun _ => 0))), (mt, .inl (cB, 65536, .inl (fun _ => 0))), (o, .inl (cJ, 1, .inr (.inl (fun _ => 0))))]) (w1 := [(mm, .inr (12, fs_4))]) hP hD [11] [0, 1, 2, 3, 4, 5, 6, 7, 8, 9, 10, 12, 13] rfl rfl (by decide) (by decide) hk1 hFc hP1 hD1
  generalize H1 = H at hP hS ⊢
  have hP : va_P (dC, dI) classes [(h0, .inr (11, [.ref tp, .ref sh, .ref me, .ref te, .ref en, .ref lx, .ref pa, .ref fr, .ref re, .ref ty, .ref fm, .ref pr, .int 0, .int 0])), (tp, .inr (0, [.int 65536, .ref ta, .int 0])), (ta, .inl (cT, 256, .inl (fun _ => 0))), (sh, .inr (0, [.int 65536, .ref sa, .int 0])), (me, .inr (1, [.int 0, .int 0, .int 0, .int 0])), (te, .inr (2, [.ref me, .ref t1, .ref t2, .ref t3, .ref t4, .ref t5, .ref t6, .ref t7, .ref t8, .int 0])), (en, .inr (3, [.ref fc, .ref nn, .int 0])), (fc, .inr (0, [.int 16777216, .ref fa, .int 0])), (lx, .inr (4, [.ref tp, .ref tk, .int 0, .int 0, .int 0, .int 0, .int 0])), (tk, .inr (0, [.int 16777216, .ref ka, .int 0])), (ka, .inl (cK, 64, .inl (fun _ => 0))), (mt, .inl (cB, 65536, .inl (fun _ => 0))), (o, .inl (cJ, 1, .inr (.inl (fun _ => 0)))), (mm, .inr (12, fs_4))] H := hP
  have hD : va_D A [(h0, .inr (11, [.ref tp, .ref sh, .ref me, .ref te, .ref en, .ref lx, .ref pa, .ref fr, .ref re, .ref ty, .ref fm, .ref pr, .int 0, .int 0])), (tp, .inr (0, [.int 65536, .ref ta, .int 0])), (ta, .inl (cT, 256, .inl (fun _ => 0))), (sh, .inr (0, [.int 65536, .ref sa, .int 0])), (me, .inr (1, [.int 0, .int 0, .int 0, .int 0])), (te, .inr (2, [.ref me, .ref t1, .ref t2, .ref t3, .ref t4, .ref t5, .ref t6, .ref t7, .ref t8, .int 0])), (en, .inr (3, [.ref fc, .ref nn, .int 0])), (fc, .inr (0, [.int 16777216, .ref fa, .int 0])), (lx, .inr (4, [.ref tp, .ref tk, .int 0, .int 0, .int 0, .int 0, .int 0])), (tk, .inr (0, [.int 16777216, .ref ka, .int 0])), (ka, .inl (cK, 64, .inl (fun _ => 0))), (mt, .inl (cB, 65536, .inl (fun _ => 0))), (o, .inl (cJ, 1, .inr (.inl (fun _ => 0)))), (mm, .inr (12, fs_4))] := hD
  refine W.widen (k := 105) (n := 2672983) (Nat.le_of_ble_eq_true rfl) (Nat.le_of_ble_eq_true rfl) ?_
  subst hw
  refine lv_istore (lv' := [(6, .int 0), (5, .int 1), (4, .int 0), (0, .ref b), (1, .ref h0), (2, .ref mm), (3, .ref o)]) hx hb d_Law_law_534 hl (by decide) rfl (fun ls hl => ?_)
  refine lv_aload_n hx hb d_Law_law_536 rfl (lv_at hl 5 rfl) ?_
  refine W.callR (W.runV (As := []) (rest := []) ⟨hx, hb, hml, hown, hT⟩ (c_Mod_thrown l dC dI mm fs_4 1 tfs_4) (cwV 0 hT (gV vt_402 vt_403 vt_404 vt_352 vt_405) rfl rfl rfl (by decide +kernel) ⟨Nat.le_of_ble_eq_true rfl, Nat.le_of_ble_eq_true rfl⟩) ⟨Pp_blind, va_recv hK hP (ci := 12) (q0 := 13) rfl rfl, Pp_of (hP.sub (ws' := [(mm, .inr (12, fs_4))]) [13] rfl) (hK.sub (tys' := []) [] rfl)⟩ rfl rfl hl.1 rfl (lv_room (Nat.le_of_ble_eq_true rfl)) d_Law_law_537 ⟨Nat.le_of_ble_eq_true rfl, Nat.le_of_ble_eq_true rfl⟩) ?_
  refine W.eq (g2 := F0 m 540 ls [.int 1]) rfl ?_
  refine lv_iload hx hb d_Law_law_540 (lv_at hl 1 rfl) ?_
  refine lv_icmp_eq (tgt := 547) hx hb d_Law_law_542 (by decide) (fun c_6 => ?_) (fun c_6 => absurd (rfl) c_6)
  refine lv_iload hx hb d_Law_law_547 (lv_at hl 1 rfl) ?_
  refine lv_if_ne (tgt := 564) hx hb d_Law_law_549 (by decide) (fun c_7 => ?_) (fun c_7 => absurd c_7 (by decide))
  refine lv_goto (tgt := 592) hx hb d_Law_law_564 (by decide) ?_
  exact law_next C0 (Nat.le_of_ble_eq_true rfl) (Nat.le_of_ble_eq_true rfl) hAe.symm hS (lv_sub hl [2, 3] rfl)
set_option maxHeartbeats 4000000 in
set_option maxRecDepth 100000 in
theorem law_c_read (l : Launch) (hfl : l.flags = flags0) {p : Program} {e : Env} {s : State} {m : MethodId} {below : List Frame} {meth : Method} {c : Code} {b : Nat} {xs : Nat → Int32} (C0 : lw_At p s m meth c b 6 xs) {dC : Nat → ClassId} {dI : Nat → Nat → Nat} {h0 tp ta sh sa me te t1 t2 t3 t4 t5 t6 t7 t8 en fc fa nn lx tk ka pa fr re ty fm pr mm mt o : Nat} {cT cK cB cJ : ClassId} {fs : List Value} (hz : Mz fs) (htp : fs[0]? = some (.ref mt)) {H : Heap} {locs : List Loc} {ls : Array Slot} {A : Nat → Prop} (hAe : (fun q : Nat => s.heap.size ≤ q) = A) (hK : va_K (dC, dI) classes [(cT, .int), (cK, .int), (cB, .byte), (cJ, .long)] s) (hP : va_P (dC, dI) classes [(h0, .inr (11, [.ref tp, .ref sh, .ref me, .ref te, .ref en, .ref lx, .ref pa, .ref fr, .ref re, .ref ty, .ref fm, .ref pr, .int 0, .int 0])), (tp, .inr (0, [.int 65536, .ref ta, .int 0])), (ta, .inl (cT, 256, .inl (fun _ => 0))), (sh, .inr (0, [.int 65536, .ref sa, .int 0])), (me, .inr (1, [.int 0, .int 0, .int 0, .int 0])), (te, .inr (2, [.ref me, .ref t1, .ref t2, .ref t3, .ref t4, .ref t5, .ref t6, .ref t7, .ref t8, .int 0])), (en, .inr (3, [.ref fc, .ref nn, .int 0])), (fc, .inr (0, [.int 16777216, .ref fa, .int 0])), (lx, .inr (4, [.ref tp, .ref tk, .int 0, .int 0, .int 0, .int 0, .int 0])), (tk, .inr (0, [.int 16777216, .ref ka, .int 0])), (ka, .inl (cK, 64, .inl (fun _ => 0))), (mm, .inr (12, fs)), (mt, .inl (cB, 65536, .inl (fun _ => 0))), (o, .inl (cJ, 1, .inr (.inl (fun _ => 0))))] H) (hD : va_D A [(h0, .inr (11, [.ref tp, .ref sh, .ref me, .ref te, .ref en, .ref lx, .ref pa, .ref fr, .ref re, .ref ty, .ref fm, .ref pr, .int 0, .int 0])), (tp, .inr (0, [.int 65536, .ref ta, .int 0])), (ta, .inl (cT, 256, .inl (fun _ => 0))), (sh, .inr (0, [.int 65536, .ref sa, .int 0])), (me, .inr (1, [.int 0, .int 0, .int 0, .int 0])), (te, .inr (2, [.ref me, .ref t1, .ref t2, .ref t3, .ref t4, .ref t5, .ref t6, .ref t7, .ref t8, .int 0])), (en, .inr (3, [.ref fc, .ref nn, .int 0])), (fc, .inr (0, [.int 16777216, .ref fa, .int 0])), (lx, .inr (4, [.ref tp, .ref tk, .int 0, .int 0, .int 0, .int 0, .int 0])), (tk, .inr (0, [.int 16777216, .ref ka, .int 0])), (ka, .inl (cK, 64, .inl (fun _ => 0))), (mm, .inr (12, fs)), (mt, .inl (cB, 65536, .inl (fun _ => 0))), (o, .inl (cJ, 1, .inr (.inl (fun _ => 0))))]) (hS : va_S A s.heap H locs) (hl : lv_has ls 7 [(4, .int 0), (0, .ref b), (1, .ref h0), (2, .ref mm), (3, .ref o)]) : W p l e room_1 s m #[Value.ref b] below meth c H locs 104 2672977 (lw_Z below #[Value.ref b] s) (F0 m 256 ls []) := by
  obtain ⟨hx, hb, hr, hml, hown, hts, hX0, hbl, hlocks, hgv⟩ := id C0
  have hT : ∀ w ∈ vT, w.before _ s = true := fun w h => hts w (vT_in w h)
  have hA : ∀ q : Nat, s.heap.size ≤ q → A q := fun q h => by rw [← hAe]; exact h
  have hAn : ∀ q : Nat, q < s.heap.size → ¬ A q := fun q h => by rw [← hAe]; exact Nat.not_le.mpr h
  have hbA : ¬ A b := hAn b hbl
  refine lv_aload_n hx hb d_Law_law_256 rfl (lv_at hl 2 rfl) ?_
  have hPc := hP.sub (ws' := [(h0, .inr (11, [.ref tp, .ref sh, .ref me, .ref te, .ref en, .ref lx, .ref pa, .ref fr, .ref re, .ref ty, .ref fm, .ref pr, .int 0, .int 0])), (tp, .inr (0, [.int 65536, .ref ta, .int 0])), (me, .inr (1, [.int 0, .int 0, .int 0, .int 0])), (lx, .inr (4, [.ref tp, .ref tk, .int 0, .int 0, .int 0, .int 0, .int 0])), (tk, .inr (0, [.int 16777216, .ref ka, .int 0])), (ka, .inl (cK, 64, .inl (fun _ => 0)))]) [0, 1, 4, 8, 9, 10] rfl
  have hDc := hD.sub (ws' := [(h0, .inr (11, [.ref tp, .ref sh, .ref me, .ref te, .ref en, .ref lx, .ref pa, .ref fr, .ref re, .ref ty, .ref fm, .ref pr, .int 0, .int 0])), (tp, .inr (0, [.int 65536, .ref ta, .int 0])), (me, .inr (1, [.int 0, .int 0, .int 0, .int 0])), (lx, .inr (4, [.ref tp, .ref tk, .int 0, .int 0, .int 0, .int 0, .int 0])), (tk, .inr (0, [.int 16777216, .ref ka, .int 0])), (ka, .inl (cK, 64, .inl (fun _ => 0)))]) [0, 1, 4, 8, 9, 10] (by decide) rfl
  have hKc := hK.sub (tys' := [(cK, .int)]) [1] rfl
  have hFc := va_free (wc := [(h0, .inr (11, [.ref tp, .ref sh, .ref me, .ref te, .ref en, .ref lx, .ref pa, .ref fr, .ref re, .ref ty, .ref fm, .ref pr, .int 0, .int 0])), (tp, .inr (0, [.int 65536, .ref ta, .int 0])), (me, .inr (1, [.int 0, .int 0, .int 0, .int 0])), (lx, .inr (4, [.ref tp, .ref tk, .int 0, .int 0, .int 0, .int 0, .int 0])), (tk, .inr (0, [.int 16777216, .ref ka, .int 0])), (ka, .inl (cK, 64, .inl (fun _ => 0)))]) hD hS hA [0, 1, 4, 8, 9, 10] rfl
  refine va_calli (vx_runVW (n := 0) (As := []) (rest := []) ⟨hx, hb, hml, hown, hT⟩ (c_Ker_read l dC dI H.size h0 tp ta sh sa me te t1 t2 t3 t4 t5 t6 t7 t8 en fc fa nn lx tk ka pa fr re ty fm pr cT cK) vt_441 vt_442 vt_443 vt_318 vt_444 rfl rfl (by decide +kernel) ⟨Nat.le_of_ble_eq_true rfl, Nat.le_of_ble_eq_true rfl⟩ ⟨Pw_blind, va_recv hK hP (ci := 11) (q0 := 0) rfl rfl, Pw_of hPc hKc hDc⟩ rfl rfl hl.1 rfl (lv_room (Nat.le_of_ble_eq_true rfl)) d_Law_law_257 ⟨Nat.le_of_ble_eq_true rfl, Nat.le_of_ble_eq_true rfl⟩) hS (fun q _ h => hFc q h) hFc (fun r_1 u t H1 locs ht hvm hw hB hz1 hk1 hS => ?_)
  obtain ⟨hP, hD⟩ := va_join (wr := [(ta, .inl (cT, 256, .inl (fun _ => 0))), (sh, .inr (0, [.int 65536, .ref sa, .int 0])), (te, .inr (2, [.ref me, .ref t1, .ref t2, .ref t3, .ref t4, .ref t5, .ref t6, .ref t7, .ref t8, .int 0])), (en, .inr (3, [.ref fc, .ref nn, .int 0])), (fc, .inr (0, [.int 16777216, .ref fa, .int 0])), (mm, .inr (12, fs)), (mt, .inl (cB, 65536, .inl (fun _ => 0))), (o, .inl (cJ, 1, .inr (.inl (fun _ => 0))))]) (w1 := []) hP hD [0, 1, 4, 8, 9, 10] [2, 3, 5, 6, 7, 11, 12, 13] rfl rfl (by decide) (by decide) hk1 hFc va_P_nil va_D_nil
  generalize H1 = H at hP hS ⊢
  have hP : va_P (dC, dI) classes [(ta, .inl (cT, 256, .inl (fun _ => 0))), (sh, .inr (0, [.int 65536, .ref sa, .int 0])), (te, .inr (2, [.ref me, .ref t1, .ref t2, .ref t3, .ref t4, .ref t5, .ref t6, .ref t7, .ref t8, .int 0])), (en, .inr (3, [.ref fc, .ref nn, .int 0])), (fc, .inr (0, [.int 16777216, .ref fa, .int 0])), (mm, .inr (12, fs)), (mt, .inl (cB, 65536, .inl (fun _ => 0))), (o, .inl (cJ, 1, .inr (.inl (fun _ => 0))))] H := hP
  have hD : va_D A [(ta, .inl (cT, 256, .inl (fun _ => 0))), (sh, .inr (0, [.int 65536, .ref sa, .int 0])), (te, .inr (2, [.ref me, .ref t1, .ref t2, .ref t3, .ref t4, .ref t5, .ref t6, .ref t7, .ref t8, .int 0])), (en, .inr (3, [.ref fc, .ref nn, .int 0])), (fc, .inr (0, [.int 16777216, .ref fa, .int 0])), (mm, .inr (12, fs)), (mt, .inl (cB, 65536, .inl (fun _ => 0))), (o, .inl (cJ, 1, .inr (.inl (fun _ => 0))))] := hD
  refine W.widen (k := 104) (n := 2672977) (Nat.le_of_ble_eq_true rfl) (Nat.le_of_ble_eq_true rfl) ?_
  subst hw
  refine lv_aload_n hx hb d_Law_law_260 rfl (lv_at hl 3 rfl) ?_
  have hPc := hP.sub (ws' := [(mm, .inr (12, fs))]) [5] rfl
  have hDc := hD.sub (ws' := [(mm, .inr (12, fs))]) [5] (by decide) rfl
  have hKc := hK.sub (tys' := []) [] rfl
  have hFc := va_free (wc := [(mm, .inr (12, fs))]) hD hS hA [5] rfl
  refine va_calli (vx_runVW (n := 0) (As := []) (rest := [.int 0]) ⟨hx, hb, hml, hown, hT⟩ (c_Mod_read l dC dI H.size mm fs hz) vt_445 vt_446 vt_447 vt_352 vt_448 rfl rfl (by decide +kernel) ⟨Nat.le_of_ble_eq_true rfl, Nat.le_of_ble_eq_true rfl⟩ ⟨Pw_blind, va_recv hK hP (ci := 12) (q0 := 5) rfl rfl, Pw_of hPc hKc hDc⟩ rfl rfl hl.1 rfl (lv_room (Nat.le_of_ble_eq_true rfl)) d_Law_law_261 ⟨Nat.le_of_ble_eq_true rfl, Nat.le_of_ble_eq_true rfl⟩) hS (fun q _ h => hFc q h) hFc (fun r_2 u t H1 locs ht hvm hw hB hz1 hk1 hS => ?_)
  obtain ⟨hP, hD⟩ := va_join (wr := [(ta, .inl (cT, 256, .inl (fun _ => 0))), (sh, .inr (0, [.int 65536, .ref sa, .int 0])), (te, .inr (2, [.ref me, .ref t1, .ref t2, .ref t3, .ref t4, .ref t5, .ref t6, .ref t7, .ref t8, .int 0])), (en, .inr (3, [.ref fc, .ref nn, .int 0])), (fc, .inr (0, [.int 16777216, .ref fa, .int 0])), (mt, .inl (cB, 65536, .inl (fun _ => 0))), (o, .inl (cJ, 1, .inr (.inl (fun _ => 0))))]) (w1 := []) hP hD [5] [0, 1, 2, 3, 4, 6, 7] rfl rfl (by decide) (by decide) hk1 hFc va_P_nil va_D_nil
  generalize H1 = H at hP hS ⊢
  have hP : va_P (dC, dI) classes [(ta, .inl (cT, 256, .inl (fun _ => 0))), (sh, .inr (0, [.int 65536, .ref sa, .int 0])), (te, .inr (2, [.ref me, .ref t1, .ref t2, .ref t3, .ref t4, .ref t5, .ref t6, .ref t7, .ref t8, .int 0])), (en, .inr (3, [.ref fc, .ref nn, .int 0])), (fc, .inr (0, [.int 16777216, .ref fa, .int 0])), (mt, .inl (cB, 65536, .inl (fun _ => 0))), (o, .inl (cJ, 1, .inr (.inl (fun _ => 0))))] H := hP
  have hD : va_D A [(ta, .inl (cT, 256, .inl (fun _ => 0))), (sh, .inr (0, [.int 65536, .ref sa, .int 0])), (te, .inr (2, [.ref me, .ref t1, .ref t2, .ref t3, .ref t4, .ref t5, .ref t6, .ref t7, .ref t8, .int 0])), (en, .inr (3, [.ref fc, .ref nn, .int 0])), (fc, .inr (0, [.int 16777216, .ref fa, .int 0])), (mt, .inl (cB, 65536, .inl (fun _ => 0))), (o, .inl (cJ, 1, .inr (.inl (fun _ => 0))))] := hD
  refine W.widen (k := 104) (n := 2672977) (Nat.le_of_ble_eq_true rfl) (Nat.le_of_ble_eq_true rfl) ?_
  subst hw
  refine lv_icmp_eq (tgt := 592) hx hb d_Law_law_264 (by decide) (fun c_3 => ?_) (fun c_3 => absurd (rfl) c_3)
  exact law_next C0 (Nat.le_of_ble_eq_true rfl) (Nat.le_of_ble_eq_true rfl) hAe.symm hS (lv_sub hl [0, 1] rfl)
set_option maxHeartbeats 4000000 in
set_option maxRecDepth 100000 in
theorem law_c_fault (l : Launch) (hfl : l.flags = flags0) {p : Program} {e : Env} {s : State} {m : MethodId} {below : List Frame} {meth : Method} {c : Code} {b : Nat} {xs : Nat → Int32} (C0 : lw_At p s m meth c b 6 xs) {dC : Nat → ClassId} {dI : Nat → Nat → Nat} {h0 tp ta sh sa me te t1 t2 t3 t4 t5 t6 t7 t8 en fc fa nn lx tk ka pa fr re ty fm pr mm mt o : Nat} {cT cK cB cJ : ClassId} {fs : List Value} (hz : Mz fs) (htp : fs[0]? = some (.ref mt)) {H : Heap} {locs : List Loc} {ls : Array Slot} {A : Nat → Prop} (hAe : (fun q : Nat => s.heap.size ≤ q) = A) (hK : va_K (dC, dI) classes [(cT, .int), (cK, .int), (cB, .byte), (cJ, .long)] s) (hP : va_P (dC, dI) classes [(h0, .inr (11, [.ref tp, .ref sh, .ref me, .ref te, .ref en, .ref lx, .ref pa, .ref fr, .ref re, .ref ty, .ref fm, .ref pr, .int 0, .int 0])), (tp, .inr (0, [.int 65536, .ref ta, .int 0])), (ta, .inl (cT, 256, .inl (fun _ => 0))), (sh, .inr (0, [.int 65536, .ref sa, .int 0])), (me, .inr (1, [.int 0, .int 0, .int 0, .int 0])), (te, .inr (2, [.ref me, .ref t1, .ref t2, .ref t3, .ref t4, .ref t5, .ref t6, .ref t7, .ref t8, .int 0])), (en, .inr (3, [.ref fc, .ref nn, .int 0])), (fc, .inr (0, [.int 16777216, .ref fa, .int 0])), (lx, .inr (4, [.ref tp, .ref tk, .int 0, .int 0, .int 0, .int 0, .int 0])), (tk, .inr (0, [.int 16777216, .ref ka, .int 0])), (ka, .inl (cK, 64, .inl (fun _ => 0))), (mm, .inr (12, fs)), (mt, .inl (cB, 65536, .inl (fun _ => 0))), (o, .inl (cJ, 1, .inr (.inl (fun _ => 0))))] H) (hD : va_D A [(h0, .inr (11, [.ref tp, .ref sh, .ref me, .ref te, .ref en, .ref lx, .ref pa, .ref fr, .ref re, .ref ty, .ref fm, .ref pr, .int 0, .int 0])), (tp, .inr (0, [.int 65536, .ref ta, .int 0])), (ta, .inl (cT, 256, .inl (fun _ => 0))), (sh, .inr (0, [.int 65536, .ref sa, .int 0])), (me, .inr (1, [.int 0, .int 0, .int 0, .int 0])), (te, .inr (2, [.ref me, .ref t1, .ref t2, .ref t3, .ref t4, .ref t5, .ref t6, .ref t7, .ref t8, .int 0])), (en, .inr (3, [.ref fc, .ref nn, .int 0])), (fc, .inr (0, [.int 16777216, .ref fa, .int 0])), (lx, .inr (4, [.ref tp, .ref tk, .int 0, .int 0, .int 0, .int 0, .int 0])), (tk, .inr (0, [.int 16777216, .ref ka, .int 0])), (ka, .inl (cK, 64, .inl (fun _ => 0))), (mm, .inr (12, fs)), (mt, .inl (cB, 65536, .inl (fun _ => 0))), (o, .inl (cJ, 1, .inr (.inl (fun _ => 0))))]) (hS : va_S A s.heap H locs) (hl : lv_has ls 7 [(4, .int 0), (0, .ref b), (1, .ref h0), (2, .ref mm), (3, .ref o)]) : W p l e room_1 s m #[Value.ref b] below meth c H locs 104 2672977 (lw_Z below #[Value.ref b] s) (F0 m 269 ls []) := by
  obtain ⟨hx, hb, hr, hml, hown, hts, hX0, hbl, hlocks, hgv⟩ := id C0
  have hT : ∀ w ∈ vT, w.before _ s = true := fun w h => hts w (vT_in w h)
  have hA : ∀ q : Nat, s.heap.size ≤ q → A q := fun q h => by rw [← hAe]; exact h
  have hAn : ∀ q : Nat, q < s.heap.size → ¬ A q := fun q h => by rw [← hAe]; exact Nat.not_le.mpr h
  have hbA : ¬ A b := hAn b hbl
  refine lv_aload_n hx hb d_Law_law_269 rfl (lv_at hl 2 rfl) ?_
  refine lv_aload_n hx hb d_Law_law_270 rfl (lv_at hl 1 rfl) ?_
  refine lv_iload hx hb d_Law_law_271 (lv_at hl 0 rfl) ?_
  refine lv_iconst (v := 1) hx hb d_Law_law_273 (by decide) ?_
  refine lv_iadd hx hb d_Law_law_274 ?_
  refine lv_topi (fun x_1 ex_1 => ?_)
  obtain rfl : x_1 = 1 := by rw [ex_1]; decide
  refine va_sld hx hb hX0 hbl hbA hS (vp_in_nI (n := 1) (by decide) (by decide)) d_Law_law_275 ?_
  refine W.callR (W.runV (As := [.int (xs (1 : Int32).toNatClampNeg)]) (rest := []) ⟨hx, hb, hml, hown, hT⟩ (c_Ker_fault l dC dI h0 tp ta sh sa me te t1 t2 t3 t4 t5 t6 t7 t8 en fc fa nn lx tk ka pa fr re ty fm pr cT cK (xs (1 : Int32).toNatClampNeg)) (cwV 1 hT (gV vt_449 vt_450 vt_451 vt_318 vt_452) rfl rfl rfl (by decide +kernel) ⟨Nat.le_of_ble_eq_true rfl, Nat.le_of_ble_eq_true rfl⟩) ⟨Pp_blind, va_recv hK hP (ci := 11) (q0 := 0) rfl rfl, Pp_of (hP.sub (ws' := [(h0, .inr (11, [.ref tp, .ref sh, .ref me, .ref te, .ref en, .ref lx, .ref pa, .ref fr, .ref re, .ref ty, .ref fm, .ref pr, .int 0, .int 0])), (me, .inr (1, [.int 0, .int 0, .int 0, .int 0]))]) [0, 4] rfl) (hK.sub (tys' := []) [] rfl)⟩ rfl rfl hl.1 rfl (lv_room (Nat.le_of_ble_eq_true rfl)) d_Law_law_276 ⟨Nat.le_of_ble_eq_true rfl, Nat.le_of_ble_eq_true rfl⟩) ?_
  refine W.eq (g2 := F0 m 279 ls [.int (vfv (xs (1 : Int32).toNatClampNeg))]) rfl ?_
  refine lv_aload_n hx hb d_Law_law_279 rfl (lv_at hl 3 rfl) ?_
  refine lv_aload_n hx hb d_Law_law_280 rfl (lv_at hl 1 rfl) ?_
  refine lv_iload hx hb d_Law_law_281 (lv_at hl 0 rfl) ?_
  refine lv_iconst (v := 1) hx hb d_Law_law_283 (by decide) ?_
  refine lv_iadd hx hb d_Law_law_284 ?_
  refine lv_topi (fun x_2 ex_2 => ?_)
  obtain rfl : x_2 = 1 := by rw [ex_2]; decide
  refine va_sld hx hb hX0 hbl hbA hS (vp_in_nI (n := 1) (by decide) (by decide)) d_Law_law_285 ?_
  have hPc := hP.sub (ws' := [(mm, .inr (12, fs))]) [11] rfl
  have hDc := hD.sub (ws' := [(mm, .inr (12, fs))]) [11] (by decide) rfl
  have hKc := hK.sub (tys' := []) [] rfl
  have hFc := va_free (wc := [(mm, .inr (12, fs))]) hD hS hA [11] rfl
  refine va_calli (va_runV (As := [.int (xs (1 : Int32).toNatClampNeg)]) (rest := [.int (vfv (xs (1 : Int32).toNatClampNeg))]) ⟨hx, hb, hml, hown, hT⟩ (c_Mod_fault l dC dI H.size mm fs hz (xs (1 : Int32).toNatClampNeg)) (cwV 1 hT (gV vt_453 vt_454 vt_455 vt_352 vt_456) rfl rfl rfl (by decide +kernel) ⟨Nat.le_of_ble_eq_true rfl, Nat.le_of_ble_eq_true rfl⟩) ⟨Pw_blind, va_recv hK hP (ci := 12) (q0 := 11) rfl rfl, Pw_of hPc hKc hDc⟩ rfl rfl hl.1 rfl (lv_room (Nat.le_of_ble_eq_true rfl)) d_Law_law_286 ⟨Nat.le_of_ble_eq_true rfl, Nat.le_of_ble_eq_true rfl⟩) hS (fun q _ h => hFc q h) hFc (fun r_3 u t H1 locs ht hvm hw hB hz1 hk1 hS => ?_)
  obtain ⟨hP, hD⟩ := va_join (wr := [(h0, .inr (11, [.ref tp, .ref sh, .ref me, .ref te, .ref en, .ref lx, .ref pa, .ref fr, .ref re, .ref ty, .ref fm, .ref pr, .int 0, .int 0])), (tp, .inr (0, [.int 65536, .ref ta, .int 0])), (ta, .inl (cT, 256, .inl (fun _ => 0))), (sh, .inr (0, [.int 65536, .ref sa, .int 0])), (me, .inr (1, [.int 0, .int 0, .int 0, .int 0])), (te, .inr (2, [.ref me, .ref t1, .ref t2, .ref t3, .ref t4, .ref t5, .ref t6, .ref t7, .ref t8, .int 0])), (en, .inr (3, [.ref fc, .ref nn, .int 0])), (fc, .inr (0, [.int 16777216, .ref fa, .int 0])), (lx, .inr (4, [.ref tp, .ref tk, .int 0, .int 0, .int 0, .int 0, .int 0])), (tk, .inr (0, [.int 16777216, .ref ka, .int 0])), (ka, .inl (cK, 64, .inl (fun _ => 0))), (mt, .inl (cB, 65536, .inl (fun _ => 0))), (o, .inl (cJ, 1, .inr (.inl (fun _ => 0))))]) (w1 := []) hP hD [11] [0, 1, 2, 3, 4, 5, 6, 7, 8, 9, 10, 12, 13] rfl rfl (by decide) (by decide) hk1 hFc va_P_nil va_D_nil
  generalize H1 = H at hP hS ⊢
  have hP : va_P (dC, dI) classes [(h0, .inr (11, [.ref tp, .ref sh, .ref me, .ref te, .ref en, .ref lx, .ref pa, .ref fr, .ref re, .ref ty, .ref fm, .ref pr, .int 0, .int 0])), (tp, .inr (0, [.int 65536, .ref ta, .int 0])), (ta, .inl (cT, 256, .inl (fun _ => 0))), (sh, .inr (0, [.int 65536, .ref sa, .int 0])), (me, .inr (1, [.int 0, .int 0, .int 0, .int 0])), (te, .inr (2, [.ref me, .ref t1, .ref t2, .ref t3, .ref t4, .ref t5, .ref t6, .ref t7, .ref t8, .int 0])), (en, .inr (3, [.ref fc, .ref nn, .int 0])), (fc, .inr (0, [.int 16777216, .ref fa, .int 0])), (lx, .inr (4, [.ref tp, .ref tk, .int 0, .int 0, .int 0, .int 0, .int 0])), (tk, .inr (0, [.int 16777216, .ref ka, .int 0])), (ka, .inl (cK, 64, .inl (fun _ => 0))), (mt, .inl (cB, 65536, .inl (fun _ => 0))), (o, .inl (cJ, 1, .inr (.inl (fun _ => 0))))] H := hP
  have hD : va_D A [(h0, .inr (11, [.ref tp, .ref sh, .ref me, .ref te, .ref en, .ref lx, .ref pa, .ref fr, .ref re, .ref ty, .ref fm, .ref pr, .int 0, .int 0])), (tp, .inr (0, [.int 65536, .ref ta, .int 0])), (ta, .inl (cT, 256, .inl (fun _ => 0))), (sh, .inr (0, [.int 65536, .ref sa, .int 0])), (me, .inr (1, [.int 0, .int 0, .int 0, .int 0])), (te, .inr (2, [.ref me, .ref t1, .ref t2, .ref t3, .ref t4, .ref t5, .ref t6, .ref t7, .ref t8, .int 0])), (en, .inr (3, [.ref fc, .ref nn, .int 0])), (fc, .inr (0, [.int 16777216, .ref fa, .int 0])), (lx, .inr (4, [.ref tp, .ref tk, .int 0, .int 0, .int 0, .int 0, .int 0])), (tk, .inr (0, [.int 16777216, .ref ka, .int 0])), (ka, .inl (cK, 64, .inl (fun _ => 0))), (mt, .inl (cB, 65536, .inl (fun _ => 0))), (o, .inl (cJ, 1, .inr (.inl (fun _ => 0))))] := hD
  refine W.widen (k := 104) (n := 2672977) (Nat.le_of_ble_eq_true rfl) (Nat.le_of_ble_eq_true rfl) ?_
  subst hw
  refine lv_icmp_eq (tgt := 592) hx hb d_Law_law_289 (by decide) (fun c_4 => ?_) (fun c_4 => absurd (rfl) c_4)
  exact law_next C0 (Nat.le_of_ble_eq_true rfl) (Nat.le_of_ble_eq_true rfl) hAe.symm hS (lv_sub hl [0, 1] rfl)
set_option maxHeartbeats 4000000 in
set_option maxRecDepth 100000 in
theorem law_c_count (l : Launch) (hfl : l.flags = flags0) {p : Program} {e : Env} {s : State} {m : MethodId} {below : List Frame} {meth : Method} {c : Code} {b : Nat} {xs : Nat → Int32} (C0 : lw_At p s m meth c b 6 xs) {dC : Nat → ClassId} {dI : Nat → Nat → Nat} {h0 tp ta sh sa me te t1 t2 t3 t4 t5 t6 t7 t8 en fc fa nn lx tk ka pa fr re ty fm pr mm mt o : Nat} {cT cK cB cJ : ClassId} {fs : List Value} (hz : Mz fs) (htp : fs[0]? = some (.ref mt)) {H : Heap} {locs : List Loc} {ls : Array Slot} {A : Nat → Prop} (hAe : (fun q : Nat => s.heap.size ≤ q) = A) (hK : va_K (dC, dI) classes [(cT, .int), (cK, .int), (cB, .byte), (cJ, .long)] s) (hP : va_P (dC, dI) classes [(h0, .inr (11, [.ref tp, .ref sh, .ref me, .ref te, .ref en, .ref lx, .ref pa, .ref fr, .ref re, .ref ty, .ref fm, .ref pr, .int 0, .int 0])), (tp, .inr (0, [.int 65536, .ref ta, .int 0])), (ta, .inl (cT, 256, .inl (fun _ => 0))), (sh, .inr (0, [.int 65536, .ref sa, .int 0])), (me, .inr (1, [.int 0, .int 0, .int 0, .int 0])), (te, .inr (2, [.ref me, .ref t1, .ref t2, .ref t3, .ref t4, .ref t5, .ref t6, .ref t7, .ref t8, .int 0])), (en, .inr (3, [.ref fc, .ref nn, .int 0])), (fc, .inr (0, [.int 16777216, .ref fa, .int 0])), (lx, .inr (4, [.ref tp, .ref tk, .int 0, .int 0, .int 0, .int 0, .int 0])), (tk, .inr (0, [.int 16777216, .ref ka, .int 0])), (ka, .inl (cK, 64, .inl (fun _ => 0))), (mm, .inr (12, fs)), (mt, .inl (cB, 65536, .inl (fun _ => 0))), (o, .inl (cJ, 1, .inr (.inl (fun _ => 0))))] H) (hD : va_D A [(h0, .inr (11, [.ref tp, .ref sh, .ref me, .ref te, .ref en, .ref lx, .ref pa, .ref fr, .ref re, .ref ty, .ref fm, .ref pr, .int 0, .int 0])), (tp, .inr (0, [.int 65536, .ref ta, .int 0])), (ta, .inl (cT, 256, .inl (fun _ => 0))), (sh, .inr (0, [.int 65536, .ref sa, .int 0])), (me, .inr (1, [.int 0, .int 0, .int 0, .int 0])), (te, .inr (2, [.ref me, .ref t1, .ref t2, .ref t3, .ref t4, .ref t5, .ref t6, .ref t7, .ref t8, .int 0])), (en, .inr (3, [.ref fc, .ref nn, .int 0])), (fc, .inr (0, [.int 16777216, .ref fa, .int 0])), (lx, .inr (4, [.ref tp, .ref tk, .int 0, .int 0, .int 0, .int 0, .int 0])), (tk, .inr (0, [.int 16777216, .ref ka, .int 0])), (ka, .inl (cK, 64, .inl (fun _ => 0))), (mm, .inr (12, fs)), (mt, .inl (cB, 65536, .inl (fun _ => 0))), (o, .inl (cJ, 1, .inr (.inl (fun _ => 0))))]) (hS : va_S A s.heap H locs) (hl : lv_has ls 7 [(4, .int 0), (0, .ref b), (1, .ref h0), (2, .ref mm), (3, .ref o)]) : W p l e room_1 s m #[Value.ref b] below meth c H locs 104 2672977 (lw_Z below #[Value.ref b] s) (F0 m 567 ls []) := by
  obtain ⟨hx, hb, hr, hml, hown, hts, hX0, hbl, hlocks, hgv⟩ := id C0
  have hT : ∀ w ∈ vT, w.before _ s = true := fun w h => hts w (vT_in w h)
  have hA : ∀ q : Nat, s.heap.size ≤ q → A q := fun q h => by rw [← hAe]; exact h
  have hAn : ∀ q : Nat, q < s.heap.size → ¬ A q := fun q h => by rw [← hAe]; exact Nat.not_le.mpr h
  have hbA : ¬ A b := hAn b hbl
  refine lv_aload_n hx hb d_Law_law_567 rfl (lv_at hl 2 rfl) ?_
  refine lv_aload_n hx hb d_Law_law_568 rfl (lv_at hl 1 rfl) ?_
  refine lv_iload hx hb d_Law_law_569 (lv_at hl 0 rfl) ?_
  refine lv_iconst (v := 1) hx hb d_Law_law_571 (by decide) ?_
  refine lv_iadd hx hb d_Law_law_572 ?_
  refine lv_topi (fun x_1 ex_1 => ?_)
  obtain rfl : x_1 = 1 := by rw [ex_1]; decide
  refine va_sld hx hb hX0 hbl hbA hS (vp_in_nI (n := 1) (by decide) (by decide)) d_Law_law_573 ?_
  refine W.callR (W.runV (As := [.int (xs (1 : Int32).toNatClampNeg)]) (rest := []) ⟨hx, hb, hml, hown, hT⟩ (c_Ker_count l dC dI h0 tp ta sh sa me te t1 t2 t3 t4 t5 t6 t7 t8 en fc fa nn lx tk ka pa fr re ty fm pr cT cK (xs (1 : Int32).toNatClampNeg)) (cwV 1 hT (gV vt_457 vt_458 vt_459 vt_318 vt_460) rfl rfl rfl (by decide +kernel) ⟨Nat.le_of_ble_eq_true rfl, Nat.le_of_ble_eq_true rfl⟩) ⟨Pp_blind, va_recv hK hP (ci := 11) (q0 := 0) rfl rfl, Pp_of (hP.sub (ws' := [(h0, .inr (11, [.ref tp, .ref sh, .ref me, .ref te, .ref en, .ref lx, .ref pa, .ref fr, .ref re, .ref ty, .ref fm, .ref pr, .int 0, .int 0])), (tp, .inr (0, [.int 65536, .ref ta, .int 0])), (sh, .inr (0, [.int 65536, .ref sa, .int 0])), (en, .inr (3, [.ref fc, .ref nn, .int 0])), (fc, .inr (0, [.int 16777216, .ref fa, .int 0]))]) [0, 1, 3, 6, 7] rfl) (hK.sub (tys' := []) [] rfl)⟩ rfl rfl hl.1 rfl (lv_room (Nat.le_of_ble_eq_true rfl)) d_Law_law_574 ⟨Nat.le_of_ble_eq_true rfl, Nat.le_of_ble_eq_true rfl⟩) ?_
  refine W.eq (g2 := F0 m 577 ls [.int (vcv (xs (1 : Int32).toNatClampNeg))]) rfl ?_
  refine lv_aload_n hx hb d_Law_law_577 rfl (lv_at hl 3 rfl) ?_
  refine lv_aload_n hx hb d_Law_law_578 rfl (lv_at hl 1 rfl) ?_
  refine lv_iload hx hb d_Law_law_579 (lv_at hl 0 rfl) ?_
  refine lv_iconst (v := 1) hx hb d_Law_law_581 (by decide) ?_
  refine lv_iadd hx hb d_Law_law_582 ?_
  refine lv_topi (fun x_2 ex_2 => ?_)
  obtain rfl : x_2 = 1 := by rw [ex_2]; decide
  refine va_sld hx hb hX0 hbl hbA hS (vp_in_nI (n := 1) (by decide) (by decide)) d_Law_law_583 ?_
  have hPc := hP.sub (ws' := [(mm, .inr (12, fs))]) [11] rfl
  have hDc := hD.sub (ws' := [(mm, .inr (12, fs))]) [11] (by decide) rfl
  have hKc := hK.sub (tys' := []) [] rfl
  have hFc := va_free (wc := [(mm, .inr (12, fs))]) hD hS hA [11] rfl
  refine va_calli (va_runV (As := [.int (xs (1 : Int32).toNatClampNeg)]) (rest := [.int (vcv (xs (1 : Int32).toNatClampNeg))]) ⟨hx, hb, hml, hown, hT⟩ (c_Mod_count l dC dI H.size mm fs hz (xs (1 : Int32).toNatClampNeg)) (cwV 1 hT (gV vt_461 vt_462 vt_463 vt_352 vt_464) rfl rfl rfl (by decide +kernel) ⟨Nat.le_of_ble_eq_true rfl, Nat.le_of_ble_eq_true rfl⟩) ⟨Pw_blind, va_recv hK hP (ci := 12) (q0 := 11) rfl rfl, Pw_of hPc hKc hDc⟩ rfl rfl hl.1 rfl (lv_room (Nat.le_of_ble_eq_true rfl)) d_Law_law_584 ⟨Nat.le_of_ble_eq_true rfl, Nat.le_of_ble_eq_true rfl⟩) hS (fun q _ h => hFc q h) hFc (fun r_3 u t H1 locs ht hvm hw hB hz1 hk1 hS => ?_)
  obtain ⟨hP, hD⟩ := va_join (wr := [(h0, .inr (11, [.ref tp, .ref sh, .ref me, .ref te, .ref en, .ref lx, .ref pa, .ref fr, .ref re, .ref ty, .ref fm, .ref pr, .int 0, .int 0])), (tp, .inr (0, [.int 65536, .ref ta, .int 0])), (ta, .inl (cT, 256, .inl (fun _ => 0))), (sh, .inr (0, [.int 65536, .ref sa, .int 0])), (me, .inr (1, [.int 0, .int 0, .int 0, .int 0])), (te, .inr (2, [.ref me, .ref t1, .ref t2, .ref t3, .ref t4, .ref t5, .ref t6, .ref t7, .ref t8, .int 0])), (en, .inr (3, [.ref fc, .ref nn, .int 0])), (fc, .inr (0, [.int 16777216, .ref fa, .int 0])), (lx, .inr (4, [.ref tp, .ref tk, .int 0, .int 0, .int 0, .int 0, .int 0])), (tk, .inr (0, [.int 16777216, .ref ka, .int 0])), (ka, .inl (cK, 64, .inl (fun _ => 0))), (mt, .inl (cB, 65536, .inl (fun _ => 0))), (o, .inl (cJ, 1, .inr (.inl (fun _ => 0))))]) (w1 := []) hP hD [11] [0, 1, 2, 3, 4, 5, 6, 7, 8, 9, 10, 12, 13] rfl rfl (by decide) (by decide) hk1 hFc va_P_nil va_D_nil
  generalize H1 = H at hP hS ⊢
  have hP : va_P (dC, dI) classes [(h0, .inr (11, [.ref tp, .ref sh, .ref me, .ref te, .ref en, .ref lx, .ref pa, .ref fr, .ref re, .ref ty, .ref fm, .ref pr, .int 0, .int 0])), (tp, .inr (0, [.int 65536, .ref ta, .int 0])), (ta, .inl (cT, 256, .inl (fun _ => 0))), (sh, .inr (0, [.int 65536, .ref sa, .int 0])), (me, .inr (1, [.int 0, .int 0, .int 0, .int 0])), (te, .inr (2, [.ref me, .ref t1, .ref t2, .ref t3, .ref t4, .ref t5, .ref t6, .ref t7, .ref t8, .int 0])), (en, .inr (3, [.ref fc, .ref nn, .int 0])), (fc, .inr (0, [.int 16777216, .ref fa, .int 0])), (lx, .inr (4, [.ref tp, .ref tk, .int 0, .int 0, .int 0, .int 0, .int 0])), (tk, .inr (0, [.int 16777216, .ref ka, .int 0])), (ka, .inl (cK, 64, .inl (fun _ => 0))), (mt, .inl (cB, 65536, .inl (fun _ => 0))), (o, .inl (cJ, 1, .inr (.inl (fun _ => 0))))] H := hP
  have hD : va_D A [(h0, .inr (11, [.ref tp, .ref sh, .ref me, .ref te, .ref en, .ref lx, .ref pa, .ref fr, .ref re, .ref ty, .ref fm, .ref pr, .int 0, .int 0])), (tp, .inr (0, [.int 65536, .ref ta, .int 0])), (ta, .inl (cT, 256, .inl (fun _ => 0))), (sh, .inr (0, [.int 65536, .ref sa, .int 0])), (me, .inr (1, [.int 0, .int 0, .int 0, .int 0])), (te, .inr (2, [.ref me, .ref t1, .ref t2, .ref t3, .ref t4, .ref t5, .ref t6, .ref t7, .ref t8, .int 0])), (en, .inr (3, [.ref fc, .ref nn, .int 0])), (fc, .inr (0, [.int 16777216, .ref fa, .int 0])), (lx, .inr (4, [.ref tp, .ref tk, .int 0, .int 0, .int 0, .int 0, .int 0])), (tk, .inr (0, [.int 16777216, .ref ka, .int 0])), (ka, .inl (cK, 64, .inl (fun _ => 0))), (mt, .inl (cB, 65536, .inl (fun _ => 0))), (o, .inl (cJ, 1, .inr (.inl (fun _ => 0))))] := hD
  refine W.widen (k := 104) (n := 2672977) (Nat.le_of_ble_eq_true rfl) (Nat.le_of_ble_eq_true rfl) ?_
  subst hw
  refine lv_icmp_eq (tgt := 592) hx hb d_Law_law_587 (by decide) (fun c_4 => ?_) (fun c_4 => absurd (rfl) c_4)
  exact law_next C0 (Nat.le_of_ble_eq_true rfl) (Nat.le_of_ble_eq_true rfl) hAe.symm hS (lv_sub hl [0, 1] rfl)
set_option maxHeartbeats 4000000 in
set_option maxRecDepth 100000 in
theorem law_c_reset (l : Launch) (hfl : l.flags = flags0) {p : Program} {e : Env} {s : State} {m : MethodId} {below : List Frame} {meth : Method} {c : Code} {b : Nat} {xs : Nat → Int32} (C0 : lw_At p s m meth c b 6 xs) {dC : Nat → ClassId} {dI : Nat → Nat → Nat} {h0 tp ta sh sa me te t1 t2 t3 t4 t5 t6 t7 t8 en fc fa nn lx tk ka pa fr re ty fm pr mm mt o : Nat} {cT cK cB cJ : ClassId} {fs : List Value} (hz : Mz fs) (htp : fs[0]? = some (.ref mt)) {H : Heap} {locs : List Loc} {ls : Array Slot} {A : Nat → Prop} (hAe : (fun q : Nat => s.heap.size ≤ q) = A) (hK : va_K (dC, dI) classes [(cT, .int), (cK, .int), (cB, .byte), (cJ, .long)] s) (hP : va_P (dC, dI) classes [(h0, .inr (11, [.ref tp, .ref sh, .ref me, .ref te, .ref en, .ref lx, .ref pa, .ref fr, .ref re, .ref ty, .ref fm, .ref pr, .int 0, .int 0])), (tp, .inr (0, [.int 65536, .ref ta, .int 0])), (ta, .inl (cT, 256, .inl (fun _ => 0))), (sh, .inr (0, [.int 65536, .ref sa, .int 0])), (me, .inr (1, [.int 0, .int 0, .int 0, .int 0])), (te, .inr (2, [.ref me, .ref t1, .ref t2, .ref t3, .ref t4, .ref t5, .ref t6, .ref t7, .ref t8, .int 0])), (en, .inr (3, [.ref fc, .ref nn, .int 0])), (fc, .inr (0, [.int 16777216, .ref fa, .int 0])), (lx, .inr (4, [.ref tp, .ref tk, .int 0, .int 0, .int 0, .int 0, .int 0])), (tk, .inr (0, [.int 16777216, .ref ka, .int 0])), (ka, .inl (cK, 64, .inl (fun _ => 0))), (mm, .inr (12, fs)), (mt, .inl (cB, 65536, .inl (fun _ => 0))), (o, .inl (cJ, 1, .inr (.inl (fun _ => 0))))] H) (hD : va_D A [(h0, .inr (11, [.ref tp, .ref sh, .ref me, .ref te, .ref en, .ref lx, .ref pa, .ref fr, .ref re, .ref ty, .ref fm, .ref pr, .int 0, .int 0])), (tp, .inr (0, [.int 65536, .ref ta, .int 0])), (ta, .inl (cT, 256, .inl (fun _ => 0))), (sh, .inr (0, [.int 65536, .ref sa, .int 0])), (me, .inr (1, [.int 0, .int 0, .int 0, .int 0])), (te, .inr (2, [.ref me, .ref t1, .ref t2, .ref t3, .ref t4, .ref t5, .ref t6, .ref t7, .ref t8, .int 0])), (en, .inr (3, [.ref fc, .ref nn, .int 0])), (fc, .inr (0, [.int 16777216, .ref fa, .int 0])), (lx, .inr (4, [.ref tp, .ref tk, .int 0, .int 0, .int 0, .int 0, .int 0])), (tk, .inr (0, [.int 16777216, .ref ka, .int 0])), (ka, .inl (cK, 64, .inl (fun _ => 0))), (mm, .inr (12, fs)), (mt, .inl (cB, 65536, .inl (fun _ => 0))), (o, .inl (cJ, 1, .inr (.inl (fun _ => 0))))]) (hS : va_S A s.heap H locs) (hl : lv_has ls 7 [(4, .int 0), (0, .ref b), (1, .ref h0), (2, .ref mm), (3, .ref o)]) : W p l e room_1 s m #[Value.ref b] below meth c H locs 104 2672977 (lw_Z below #[Value.ref b] s) (F0 m 294 ls []) := by
  obtain ⟨hx, hb, hr, hml, hown, hts, hX0, hbl, hlocks, hgv⟩ := id C0
  have hT : ∀ w ∈ vT, w.before _ s = true := fun w h => hts w (vT_in w h)
  have hA : ∀ q : Nat, s.heap.size ≤ q → A q := fun q h => by rw [← hAe]; exact h
  have hAn : ∀ q : Nat, q < s.heap.size → ¬ A q := fun q h => by rw [← hAe]; exact Nat.not_le.mpr h
  have hbA : ¬ A b := hAn b hbl
  refine lv_aload_n hx hb d_Law_law_294 rfl (lv_at hl 2 rfl) ?_
  have hPc := hP.sub (ws' := [(h0, .inr (11, [.ref tp, .ref sh, .ref me, .ref te, .ref en, .ref lx, .ref pa, .ref fr, .ref re, .ref ty, .ref fm, .ref pr, .int 0, .int 0])), (te, .inr (2, [.ref me, .ref t1, .ref t2, .ref t3, .ref t4, .ref t5, .ref t6, .ref t7, .ref t8, .int 0])), (en, .inr (3, [.ref fc, .ref nn, .int 0])), (fc, .inr (0, [.int 16777216, .ref fa, .int 0]))]) [0, 5, 6, 7] rfl
  have hDc := hD.sub (ws' := [(h0, .inr (11, [.ref tp, .ref sh, .ref me, .ref te, .ref en, .ref lx, .ref pa, .ref fr, .ref re, .ref ty, .ref fm, .ref pr, .int 0, .int 0])), (te, .inr (2, [.ref me, .ref t1, .ref t2, .ref t3, .ref t4, .ref t5, .ref t6, .ref t7, .ref t8, .int 0])), (en, .inr (3, [.ref fc, .ref nn, .int 0])), (fc, .inr (0, [.int 16777216, .ref fa, .int 0]))]) [0, 5, 6, 7] (by decide) rfl
  have hKc := hK.sub (tys' := []) [] rfl
  have hFc := va_free (wc := [(h0, .inr (11, [.ref tp, .ref sh, .ref me, .ref te, .ref en, .ref lx, .ref pa, .ref fr, .ref re, .ref ty, .ref fm, .ref pr, .int 0, .int 0])), (te, .inr (2, [.ref me, .ref t1, .ref t2, .ref t3, .ref t4, .ref t5, .ref t6, .ref t7, .ref t8, .int 0])), (en, .inr (3, [.ref fc, .ref nn, .int 0])), (fc, .inr (0, [.int 16777216, .ref fa, .int 0]))]) hD hS hA [0, 5, 6, 7] rfl
  refine va_calli (va_runV (As := []) (rest := []) ⟨hx, hb, hml, hown, hT⟩ (c_Ker_reset l dC dI H.size h0 tp ta sh sa me te t1 t2 t3 t4 t5 t6 t7 t8 en fc fa nn lx tk ka pa fr re ty fm pr cT cK) (cwV 0 hT (gV vt_465 vt_466 vt_467 vt_318 vt_468) rfl rfl rfl (by decide +kernel) ⟨Nat.le_of_ble_eq_true rfl, Nat.le_of_ble_eq_true rfl⟩) ⟨Pw_blind, va_recv hK hP (ci := 11) (q0 := 0) rfl rfl, Pw_of hPc hKc hDc⟩ rfl rfl hl.1 rfl (lv_room (Nat.le_of_ble_eq_true rfl)) d_Law_law_295 ⟨Nat.le_of_ble_eq_true rfl, Nat.le_of_ble_eq_true rfl⟩) hS (fun q _ h => hFc q h) hFc (fun r_1 u t H1 locs ht hvm hw hB hz1 hk1 hS => ?_)
  obtain ⟨hP, hD⟩ := va_join (wr := [(tp, .inr (0, [.int 65536, .ref ta, .int 0])), (ta, .inl (cT, 256, .inl (fun _ => 0))), (sh, .inr (0, [.int 65536, .ref sa, .int 0])), (me, .inr (1, [.int 0, .int 0, .int 0, .int 0])), (lx, .inr (4, [.ref tp, .ref tk, .int 0, .int 0, .int 0, .int 0, .int 0])), (tk, .inr (0, [.int 16777216, .ref ka, .int 0])), (ka, .inl (cK, 64, .inl (fun _ => 0))), (mm, .inr (12, fs)), (mt, .inl (cB, 65536, .inl (fun _ => 0))), (o, .inl (cJ, 1, .inr (.inl (fun _ => 0))))]) (w1 := []) hP hD [0, 5, 6, 7] [1, 2, 3, 4, 8, 9, 10, 11, 12, 13] rfl rfl (by decide) (by decide) hk1 hFc va_P_nil va_D_nil
  generalize H1 = H at hP hS ⊢
  have hP : va_P (dC, dI) classes [(tp, .inr (0, [.int 65536, .ref ta, .int 0])), (ta, .inl (cT, 256, .inl (fun _ => 0))), (sh, .inr (0, [.int 65536, .ref sa, .int 0])), (me, .inr (1, [.int 0, .int 0, .int 0, .int 0])), (lx, .inr (4, [.ref tp, .ref tk, .int 0, .int 0, .int 0, .int 0, .int 0])), (tk, .inr (0, [.int 16777216, .ref ka, .int 0])), (ka, .inl (cK, 64, .inl (fun _ => 0))), (mm, .inr (12, fs)), (mt, .inl (cB, 65536, .inl (fun _ => 0))), (o, .inl (cJ, 1, .inr (.inl (fun _ => 0))))] H := hP
  have hD : va_D A [(tp, .inr (0, [.int 65536, .ref ta, .int 0])), (ta, .inl (cT, 256, .inl (fun _ => 0))), (sh, .inr (0, [.int 65536, .ref sa, .int 0])), (me, .inr (1, [.int 0, .int 0, .int 0, .int 0])), (lx, .inr (4, [.ref tp, .ref tk, .int 0, .int 0, .int 0, .int 0, .int 0])), (tk, .inr (0, [.int 16777216, .ref ka, .int 0])), (ka, .inl (cK, 64, .inl (fun _ => 0))), (mm, .inr (12, fs)), (mt, .inl (cB, 65536, .inl (fun _ => 0))), (o, .inl (cJ, 1, .inr (.inl (fun _ => 0))))] := hD
  refine W.widen (k := 104) (n := 2672977) (Nat.le_of_ble_eq_true rfl) (Nat.le_of_ble_eq_true rfl) ?_
  subst hw
  refine lv_aload_n hx hb d_Law_law_298 rfl (lv_at hl 3 rfl) ?_
  have hPc := hP.sub (ws' := [(mm, .inr (12, fs))]) [7] rfl
  have hDc := hD.sub (ws' := [(mm, .inr (12, fs))]) [7] (by decide) rfl
  have hKc := hK.sub (tys' := []) [] rfl
  have hFc := va_free (wc := [(mm, .inr (12, fs))]) hD hS hA [7] rfl
  refine va_calli (va_runV (As := []) (rest := [.int 0]) ⟨hx, hb, hml, hown, hT⟩ (c_Mod_reset l dC dI H.size mm fs hz) (cwV 0 hT (gV vt_469 vt_470 vt_471 vt_352 vt_472) rfl rfl rfl (by decide +kernel) ⟨Nat.le_of_ble_eq_true rfl, Nat.le_of_ble_eq_true rfl⟩) ⟨Pw_blind, va_recv hK hP (ci := 12) (q0 := 7) rfl rfl, Pw_of hPc hKc hDc⟩ rfl rfl hl.1 rfl (lv_room (Nat.le_of_ble_eq_true rfl)) d_Law_law_299 ⟨Nat.le_of_ble_eq_true rfl, Nat.le_of_ble_eq_true rfl⟩) hS (fun q _ h => hFc q h) hFc (fun r_2 u t H1 locs ht hvm hw hB hz1 hk1 hS => ?_)
  obtain ⟨hP, hD⟩ := va_join (wr := [(tp, .inr (0, [.int 65536, .ref ta, .int 0])), (ta, .inl (cT, 256, .inl (fun _ => 0))), (sh, .inr (0, [.int 65536, .ref sa, .int 0])), (me, .inr (1, [.int 0, .int 0, .int 0, .int 0])), (lx, .inr (4, [.ref tp, .ref tk, .int 0, .int 0, .int 0, .int 0, .int 0])), (tk, .inr (0, [.int 16777216, .ref ka, .int 0])), (ka, .inl (cK, 64, .inl (fun _ => 0))), (mt, .inl (cB, 65536, .inl (fun _ => 0))), (o, .inl (cJ, 1, .inr (.inl (fun _ => 0))))]) (w1 := []) hP hD [7] [0, 1, 2, 3, 4, 5, 6, 8, 9] rfl rfl (by decide) (by decide) hk1 hFc va_P_nil va_D_nil
  generalize H1 = H at hP hS ⊢
  have hP : va_P (dC, dI) classes [(tp, .inr (0, [.int 65536, .ref ta, .int 0])), (ta, .inl (cT, 256, .inl (fun _ => 0))), (sh, .inr (0, [.int 65536, .ref sa, .int 0])), (me, .inr (1, [.int 0, .int 0, .int 0, .int 0])), (lx, .inr (4, [.ref tp, .ref tk, .int 0, .int 0, .int 0, .int 0, .int 0])), (tk, .inr (0, [.int 16777216, .ref ka, .int 0])), (ka, .inl (cK, 64, .inl (fun _ => 0))), (mt, .inl (cB, 65536, .inl (fun _ => 0))), (o, .inl (cJ, 1, .inr (.inl (fun _ => 0))))] H := hP
  have hD : va_D A [(tp, .inr (0, [.int 65536, .ref ta, .int 0])), (ta, .inl (cT, 256, .inl (fun _ => 0))), (sh, .inr (0, [.int 65536, .ref sa, .int 0])), (me, .inr (1, [.int 0, .int 0, .int 0, .int 0])), (lx, .inr (4, [.ref tp, .ref tk, .int 0, .int 0, .int 0, .int 0, .int 0])), (tk, .inr (0, [.int 16777216, .ref ka, .int 0])), (ka, .inl (cK, 64, .inl (fun _ => 0))), (mt, .inl (cB, 65536, .inl (fun _ => 0))), (o, .inl (cJ, 1, .inr (.inl (fun _ => 0))))] := hD
  refine W.widen (k := 104) (n := 2672977) (Nat.le_of_ble_eq_true rfl) (Nat.le_of_ble_eq_true rfl) ?_
  subst hw
  refine lv_icmp_eq (tgt := 592) hx hb d_Law_law_302 (by decide) (fun c_3 => ?_) (fun c_3 => absurd (rfl) c_3)
  exact law_next C0 (Nat.le_of_ble_eq_true rfl) (Nat.le_of_ble_eq_true rfl) hAe.symm hS (lv_sub hl [0, 1] rfl)
