theorem kw_Law_7 : kWv "FamilyKernelLaw" 7 "FamilyKernel" y_Ker_feed b_Ker_feed 6 (some .int) 5 := ⟨vt_1201, vt_1202, vt_1203, vt_201, vt_1204, by decide, by decide, by decide +kernel⟩
set_option maxHeartbeats 4000000 in
set_option maxRecDepth 100000 in
theorem h_feed_ok {l : Launch} {g : mG} {o : Nat} {A : Nat → Prop} {α : kS} {ad : Nat → Nat} {β : mS} {w : Nat → Int64} (hfl : kFl l) (N : Nat) (a1 a2 a3 a4 a5 v : Int32) {α' : kS} (hf : f_Ker_feed N a1 a2 a3 a4 a5 α = some (some (some v), α')) : vE l y_Law_feed (Cond.codeWith y_Law_feed b_Law_feed 8 (some .int) [(0, 16, 19, 13)] :: vT) (lR α) (va_Pc [.ref (kad g.1 0), .int a1, .int a2, .int a3, .int a4, .int a5, .ref o] (lB g o A α ad β w)) (lQ g o A α β (0, α', vp_updL w 0 v.toInt64)) A := by
  refine lq_ofW (by decide) (fun p e s m args below meth c S hr hlocks ht hargs E hJ => ?_)
  have S : CallFix p m c b_Law_feed 8 s args vT "FamilyKernelLaw" := S
  obtain ⟨hx, hb, hml, hown, hT⟩ := id S
  subst hargs
  have hl := lv_entry ([.ref (kad g.1 0), .int a1, .int a2, .int a3, .int a4, .int a5, .ref o]) (n := 8) (Nat.le_of_ble_eq_true rfl)
  rw [lg_entry_eq]
  generalize (lg_sl ([.ref (kad g.1 0), .int a1, .int a2, .int a3, .int a4, .int a5, .ref o]) ++ List.replicate (8 - (lg_sl ([.ref (kad g.1 0), .int a1, .int a2, .int a3, .int a4, .int a5, .ref o])).length) Slot.unset).toArray = ls at hl ⊢
  have hl : lv_has ls 8 [(0, .ref (kad g.1 0)), (1, .int a1), (2, .int a2), (3, .int a3), (4, .int a4), (5, .int a5), (6, .ref o)] := hl
  refine lv_aload hx hb d_Law_feed_0 (lv_at hl 6 rfl) ?_
  refine lv_iconst (v := 0) hx hb d_Law_feed_2 (by decide) ?_
  refine lv_aload_n hx hb d_Law_feed_3 rfl (lv_at hl 0 rfl) ?_
  refine lv_iload_n hx hb d_Law_feed_4 rfl (lv_at hl 1 rfl) ?_
  refine lv_iload_n hx hb d_Law_feed_5 rfl (lv_at hl 2 rfl) ?_
  refine lv_iload_n hx hb d_Law_feed_6 rfl (lv_at hl 3 rfl) ?_
  refine lv_iload hx hb d_Law_feed_7 (lv_at hl 4 rfl) ?_
  refine lv_iload hx hb d_Law_feed_9 (lv_at hl 5 rfl) ?_
  refine lk_call (As := [.int a1, .int a2, .int a3, .int a4, .int a5]) (rest := [.int 0, .ref o]) hf (k_Ker_feed hfl N a1 a2 a3 a4 a5) S E hJ kw_Law_7 ⟨(Nat.le_of_ble_eq_true rfl), (Nat.le_of_ble_eq_true rfl)⟩ ⟨by show 0 + ((kM - kF α) / 32 + 1) ≤ (kM - kF α) / 32 + 2; omega, by show 0 + (kM - kF α + 6) ≤ kM - kF α + 12; omega⟩ rfl hl.1 rfl (Nat.le_of_ble_eq_true rfl) d_Law_feed_11 (fun ad1 H1 locs1 k1 n1 hk1 hk2 hJ => ?_)
  refine lv_i2l (v := v.toInt64) hx hb d_Law_feed_14 rfl ?_
  refine lj_last S E hJ d_Law_feed_15 (fun H2 locs2 hJ => ?_)
  refine lv_goto (tgt := 23) hx hb d_Law_feed_16 (by decide) ?_
  refine lv_iconst (v := 0) hx hb d_Law_feed_23 (by decide) ?_
  exact lq_iret (x := (0, α', vp_updL w 0 v.toInt64)) (α := α) hx hb hr hlocks E hJ (by show 0 + n1 + kF α ≤ kF α' + 6; omega) (by show 32 * (0 + k1) + kF α ≤ kF α' + 32; omega) d_Law_feed_24
theorem kw_Law_15 : kWv "FamilyKernelLaw" 15 "FamilyKernel" y_Ker_end b_Ker_end 2 (some .int) 1 := ⟨vt_1213, vt_1214, vt_1215, vt_201, vt_1216, by decide, by decide, by decide +kernel⟩
set_option maxHeartbeats 4000000 in
set_option maxRecDepth 100000 in
theorem h_end_ok {l : Launch} {g : mG} {o : Nat} {A : Nat → Prop} {α : kS} {ad : Nat → Nat} {β : mS} {w : Nat → Int64} (hfl : kFl l) (N : Nat) (a1 v : Int32) {α' : kS} (hf : f_Ker_end N a1 α = some (some (some v), α')) : vE l y_Law_end (Cond.codeWith y_Law_end b_Law_end 4 (some .int) [(0, 9, 12, 19)] :: vT) (lR α) (va_Pc [.ref (kad g.1 0), .int a1, .ref o] (lB g o A α ad β w)) (lQ g o A α β (0, α', vp_updL w 0 v.toInt64)) A := by
  refine lq_ofW (by decide) (fun p e s m args below meth c S hr hlocks ht hargs E hJ => ?_)
  have S : CallFix p m c b_Law_end 4 s args vT "FamilyKernelLaw" := S
  obtain ⟨hx, hb, hml, hown, hT⟩ := id S
  subst hargs
  have hl := lv_entry ([.ref (kad g.1 0), .int a1, .ref o]) (n := 4) (Nat.le_of_ble_eq_true rfl)
  rw [lg_entry_eq]
  generalize (lg_sl ([.ref (kad g.1 0), .int a1, .ref o]) ++ List.replicate (4 - (lg_sl ([.ref (kad g.1 0), .int a1, .ref o])).length) Slot.unset).toArray = ls at hl ⊢
  have hl : lv_has ls 4 [(0, .ref (kad g.1 0)), (1, .int a1), (2, .ref o)] := hl
  refine lv_aload_n hx hb d_Law_end_0 rfl (lv_at hl 2 rfl) ?_
  refine lv_iconst (v := 0) hx hb d_Law_end_1 (by decide) ?_
  refine lv_aload_n hx hb d_Law_end_2 rfl (lv_at hl 0 rfl) ?_
  refine lv_iload_n hx hb d_Law_end_3 rfl (lv_at hl 1 rfl) ?_
  refine lk_call (As := [.int a1]) (rest := [.int 0, .ref o]) hf (k_Ker_end hfl N a1) S E hJ kw_Law_15 ⟨(Nat.le_of_ble_eq_true rfl), (Nat.le_of_ble_eq_true rfl)⟩ ⟨by show 0 + ((kM - kF α) / 32 + 1) ≤ (kM - kF α) / 32 + 2; omega, by show 0 + (kM - kF α + 6) ≤ kM - kF α + 12; omega⟩ rfl hl.1 rfl (Nat.le_of_ble_eq_true rfl) d_Law_end_4 (fun ad1 H1 locs1 k1 n1 hk1 hk2 hJ => ?_)
  refine lv_i2l (v := v.toInt64) hx hb d_Law_end_7 rfl ?_
  refine lj_last S E hJ d_Law_end_8 (fun H2 locs2 hJ => ?_)
  refine lv_goto (tgt := 15) hx hb d_Law_end_9 (by decide) ?_
  refine lv_iconst (v := 0) hx hb d_Law_end_15 (by decide) ?_
  exact lq_iret (x := (0, α', vp_updL w 0 v.toInt64)) (α := α) hx hb hr hlocks E hJ (by show 0 + n1 + kF α ≤ kF α' + 6; omega) (by show 32 * (0 + k1) + kF α ≤ kF α' + 32; omega) d_Law_end_16
set_option maxHeartbeats 4000000 in
set_option maxRecDepth 100000 in
theorem h_end_2 {l : Launch} {g : mG} {o : Nat} {A : Nat → Prop} {α : kS} {ad : Nat → Nat} {β : mS} {w : Nat → Int64} (hfl : kFl l) (a1 : Int32) (h : fx_Ker_end a1 α = 2) : vE l y_Law_end (Cond.codeWith y_Law_end b_Law_end 4 (some .int) [(0, 9, 12, 19)] :: vT) (lR α) (va_Pc [.ref (kad g.1 0), .int a1, .ref o] (lB g o A α ad β w)) (lQ g o A α β (1, α, w)) A := by
  refine lq_ofW (by decide) (fun p e s m args below meth c S hr hlocks ht hargs E hJ => ?_)
  have S : CallFix p m c b_Law_end 4 s args vT "FamilyKernelLaw" := S
  obtain ⟨hx, hb, hml, hown, hT⟩ := id S
  subst hargs
  have hl := lv_entry ([.ref (kad g.1 0), .int a1, .ref o]) (n := 4) (Nat.le_of_ble_eq_true rfl)
  rw [lg_entry_eq]
  generalize (lg_sl ([.ref (kad g.1 0), .int a1, .ref o]) ++ List.replicate (4 - (lg_sl ([.ref (kad g.1 0), .int a1, .ref o])).length) Slot.unset).toArray = ls at hl ⊢
  have hl : lv_has ls 4 [(0, .ref (kad g.1 0)), (1, .int a1), (2, .ref o)] := hl
  refine lv_aload_n hx hb d_Law_end_0 rfl (lv_at hl 2 rfl) ?_
  refine lv_iconst (v := 0) hx hb d_Law_end_1 (by decide) ?_
  refine lv_aload_n hx hb d_Law_end_2 rfl (lv_at hl 0 rfl) ?_
  refine lv_iload_n hx hb d_Law_end_3 rfl (lv_at hl 1 rfl) ?_
  obtain ⟨x, hx0, e1, e2, e3, e4⟩ := vg_one ht
  refine lk_catch (As := [.int a1]) (rest := [.int 0, .ref o]) (kt_Ker_end_2 hfl a1 h) S E E.2.2.1.2.1 hJ kw_Law_15 ⟨(Nat.le_of_ble_eq_true rfl), (Nat.le_of_ble_eq_true rfl)⟩ ⟨by show 0 + 1 ≤ (kM - kF α) / 32 + 2; omega, by show 0 + 6 ≤ kM - kF α + 12; omega⟩ rfl hl.1 rfl (Nat.le_of_ble_eq_true rfl) d_Law_end_4 hx0 (by unfold covers; rw [e1, e2]; decide) (by rw [e4]; decide) (by rw [e4]; exact vt_1854) (fun xa H1 hJ => ?_)
  rw [e3]
  refine lv_astore_n (lv' := [(3, .ref xa), (0, .ref (kad g.1 0)), (1, .int a1), (2, .ref o)]) hx hb d_Law_end_12 rfl hl (by decide) rfl (fun ls hl => ?_)
  refine lv_iconst (v := 1) hx hb d_Law_end_13 (by decide) ?_
  exact lq_iret (x := (1, α, w)) (α := α) hx hb hr hlocks E hJ (by show 0 + 6 + kF α ≤ kF α + 6; omega) (by show 32 * (0 + 1) + kF α ≤ kF α + 32; omega) d_Law_end_14
theorem kw_Law_21 : kWv "FamilyKernelLaw" 21 "FamilyKernel" y_Ker_constant b_Ker_constant 4 (some .int) 2 := ⟨vt_1224, vt_1225, vt_1226, vt_201, vt_1227, by decide, by decide, by decide +kernel⟩
set_option maxHeartbeats 4000000 in
set_option maxRecDepth 100000 in
theorem h_constant_ok {l : Launch} {g : mG} {o : Nat} {A : Nat → Prop} {α : kS} {ad : Nat → Nat} {β : mS} {w : Nat → Int64} (hfl : kFl l) (N : Nat) (a1 a2 v : Int32) {α' : kS} (hf : f_Ker_constant N a1 a2 α = some (some (some v), α')) : vE l y_Law_constant (Cond.codeWith y_Law_constant b_Law_constant 5 (some .int) [(0, 10, 13, 25), (0, 10, 17, 19)] :: vT) (lR α) (va_Pc [.ref (kad g.1 0), .int a1, .int a2, .ref o] (lB g o A α ad β w)) (lQ g o A α β (0, α', vp_updL w 0 v.toInt64)) A := by
  refine lq_ofW (by decide) (fun p e s m args below meth c S hr hlocks ht hargs E hJ => ?_)
  have S : CallFix p m c b_Law_constant 5 s args vT "FamilyKernelLaw" := S
  obtain ⟨hx, hb, hml, hown, hT⟩ := id S
  subst hargs
  have hl := lv_entry ([.ref (kad g.1 0), .int a1, .int a2, .ref o]) (n := 5) (Nat.le_of_ble_eq_true rfl)
  rw [lg_entry_eq]
  generalize (lg_sl ([.ref (kad g.1 0), .int a1, .int a2, .ref o]) ++ List.replicate (5 - (lg_sl ([.ref (kad g.1 0), .int a1, .int a2, .ref o])).length) Slot.unset).toArray = ls at hl ⊢
  have hl : lv_has ls 5 [(0, .ref (kad g.1 0)), (1, .int a1), (2, .int a2), (3, .ref o)] := hl
  refine lv_aload_n hx hb d_Law_constant_0 rfl (lv_at hl 3 rfl) ?_
  refine lv_iconst (v := 0) hx hb d_Law_constant_1 (by decide) ?_
  refine lv_aload_n hx hb d_Law_constant_2 rfl (lv_at hl 0 rfl) ?_
  refine lv_iload_n hx hb d_Law_constant_3 rfl (lv_at hl 1 rfl) ?_
  refine lv_iload_n hx hb d_Law_constant_4 rfl (lv_at hl 2 rfl) ?_
  refine lk_call (As := [.int a1, .int a2]) (rest := [.int 0, .ref o]) hf (k_Ker_constant hfl N a1 a2) S E hJ kw_Law_21 ⟨(Nat.le_of_ble_eq_true rfl), (Nat.le_of_ble_eq_true rfl)⟩ ⟨by show 0 + ((kM - kF α) / 32 + 1) ≤ (kM - kF α) / 32 + 2; omega, by show 0 + (kM - kF α + 6) ≤ kM - kF α + 12; omega⟩ rfl hl.1 rfl (Nat.le_of_ble_eq_true rfl) d_Law_constant_5 (fun ad1 H1 locs1 k1 n1 hk1 hk2 hJ => ?_)
  refine lv_i2l (v := v.toInt64) hx hb d_Law_constant_8 rfl ?_
  refine lj_last S E hJ d_Law_constant_9 (fun H2 locs2 hJ => ?_)
  refine lv_goto (tgt := 21) hx hb d_Law_constant_10 (by decide) ?_
  refine lv_iconst (v := 0) hx hb d_Law_constant_21 (by decide) ?_
  exact lq_iret (x := (0, α', vp_updL w 0 v.toInt64)) (α := α) hx hb hr hlocks E hJ (by show 0 + n1 + kF α ≤ kF α' + 6; omega) (by show 32 * (0 + k1) + kF α ≤ kF α' + 32; omega) d_Law_constant_22
set_option maxHeartbeats 4000000 in
set_option maxRecDepth 100000 in
theorem h_constant_1 {l : Launch} {g : mG} {o : Nat} {A : Nat → Prop} {α : kS} {ad : Nat → Nat} {β : mS} {w : Nat → Int64} (hfl : kFl l) (a1 a2 : Int32) (h : fx_Ker_constant a1 a2 α = 1) : vE l y_Law_constant (Cond.codeWith y_Law_constant b_Law_constant 5 (some .int) [(0, 10, 13, 25), (0, 10, 17, 19)] :: vT) (lR α) (va_Pc [.ref (kad g.1 0), .int a1, .int a2, .ref o] (lB g o A α ad β w)) (lQ g o A α β (1, α, w)) A := by
  refine lq_ofW (by decide) (fun p e s m args below meth c S hr hlocks ht hargs E hJ => ?_)
  have S : CallFix p m c b_Law_constant 5 s args vT "FamilyKernelLaw" := S
  obtain ⟨hx, hb, hml, hown, hT⟩ := id S
  subst hargs
  have hl := lv_entry ([.ref (kad g.1 0), .int a1, .int a2, .ref o]) (n := 5) (Nat.le_of_ble_eq_true rfl)
  rw [lg_entry_eq]
  generalize (lg_sl ([.ref (kad g.1 0), .int a1, .int a2, .ref o]) ++ List.replicate (5 - (lg_sl ([.ref (kad g.1 0), .int a1, .int a2, .ref o])).length) Slot.unset).toArray = ls at hl ⊢
  have hl : lv_has ls 5 [(0, .ref (kad g.1 0)), (1, .int a1), (2, .int a2), (3, .ref o)] := hl
  refine lv_aload_n hx hb d_Law_constant_0 rfl (lv_at hl 3 rfl) ?_
  refine lv_iconst (v := 0) hx hb d_Law_constant_1 (by decide) ?_
  refine lv_aload_n hx hb d_Law_constant_2 rfl (lv_at hl 0 rfl) ?_
  refine lv_iload_n hx hb d_Law_constant_3 rfl (lv_at hl 1 rfl) ?_
  refine lv_iload_n hx hb d_Law_constant_4 rfl (lv_at hl 2 rfl) ?_
  obtain ⟨x, x', hx0, ⟨e1, e2, e3, e4⟩, e1', e2', e3', e4'⟩ := vg_two ht
  refine lk_catch (As := [.int a1, .int a2]) (rest := [.int 0, .ref o]) (kt_Ker_constant_1 hfl a1 a2 h) S E E.2.2.1.2.2.1 hJ kw_Law_21 ⟨(Nat.le_of_ble_eq_true rfl), (Nat.le_of_ble_eq_true rfl)⟩ ⟨by show 0 + 1 ≤ (kM - kF α) / 32 + 2; omega, by show 0 + 6 ≤ kM - kF α + 12; omega⟩ rfl hl.1 rfl (Nat.le_of_ble_eq_true rfl) d_Law_constant_5 hx0 (by unfold covers; rw [e1, e2]; decide) (by rw [e4]; decide) (by rw [e4]; exact vt_1859) (fun xa H1 hJ => ?_)
  rw [e3]
  refine lv_astore (lv' := [(4, .ref xa), (0, .ref (kad g.1 0)), (1, .int a1), (2, .int a2), (3, .ref o)]) hx hb d_Law_constant_13 hl (by decide) rfl (fun ls hl => ?_)
  refine lv_iconst (v := 1) hx hb d_Law_constant_15 (by decide) ?_
  exact lq_iret (x := (1, α, w)) (α := α) hx hb hr hlocks E hJ (by show 0 + 6 + kF α ≤ kF α + 6; omega) (by show 32 * (0 + 1) + kF α ≤ kF α + 32; omega) d_Law_constant_16
set_option maxHeartbeats 4000000 in
set_option maxRecDepth 100000 in
theorem h_constant_2 {l : Launch} {g : mG} {o : Nat} {A : Nat → Prop} {α : kS} {ad : Nat → Nat} {β : mS} {w : Nat → Int64} (hfl : kFl l) (a1 a2 : Int32) (h : fx_Ker_constant a1 a2 α = 2) : vE l y_Law_constant (Cond.codeWith y_Law_constant b_Law_constant 5 (some .int) [(0, 10, 13, 25), (0, 10, 17, 19)] :: vT) (lR α) (va_Pc [.ref (kad g.1 0), .int a1, .int a2, .ref o] (lB g o A α ad β w)) (lQ g o A α β (2, α, w)) A := by
  refine lq_ofW (by decide) (fun p e s m args below meth c S hr hlocks ht hargs E hJ => ?_)
  have S : CallFix p m c b_Law_constant 5 s args vT "FamilyKernelLaw" := S
  obtain ⟨hx, hb, hml, hown, hT⟩ := id S
  subst hargs
  have hl := lv_entry ([.ref (kad g.1 0), .int a1, .int a2, .ref o]) (n := 5) (Nat.le_of_ble_eq_true rfl)
  rw [lg_entry_eq]
  generalize (lg_sl ([.ref (kad g.1 0), .int a1, .int a2, .ref o]) ++ List.replicate (5 - (lg_sl ([.ref (kad g.1 0), .int a1, .int a2, .ref o])).length) Slot.unset).toArray = ls at hl ⊢
  have hl : lv_has ls 5 [(0, .ref (kad g.1 0)), (1, .int a1), (2, .int a2), (3, .ref o)] := hl
  refine lv_aload_n hx hb d_Law_constant_0 rfl (lv_at hl 3 rfl) ?_
  refine lv_iconst (v := 0) hx hb d_Law_constant_1 (by decide) ?_
  refine lv_aload_n hx hb d_Law_constant_2 rfl (lv_at hl 0 rfl) ?_
  refine lv_iload_n hx hb d_Law_constant_3 rfl (lv_at hl 1 rfl) ?_
  refine lv_iload_n hx hb d_Law_constant_4 rfl (lv_at hl 2 rfl) ?_
  obtain ⟨x, x', hx0, ⟨e1, e2, e3, e4⟩, e1', e2', e3', e4'⟩ := vg_two ht
  refine lk_catch2 (As := [.int a1, .int a2]) (rest := [.int 0, .ref o]) (kt_Ker_constant_2 hfl a1 a2 h) S E E.2.2.1.2.1 E.2.2.2.2.2.2.2 hJ kw_Law_21 ⟨(Nat.le_of_ble_eq_true rfl), (Nat.le_of_ble_eq_true rfl)⟩ ⟨by show 0 + 1 ≤ (kM - kF α) / 32 + 2; omega, by show 0 + 6 ≤ kM - kF α + 12; omega⟩ rfl hl.1 rfl (Nat.le_of_ble_eq_true rfl) d_Law_constant_5 hx0 (by unfold covers; rw [e1, e2]; decide) (by rw [e4]; decide) (by rw [e4]; exact vt_1859) (by unfold covers; rw [e1', e2']; decide) (by rw [e4']; decide) (by rw [e4']; exact vt_1854) (fun xa H1 hJ => ?_)
  rw [e3']
  refine lv_astore (lv' := [(4, .ref xa), (0, .ref (kad g.1 0)), (1, .int a1), (2, .int a2), (3, .ref o)]) hx hb d_Law_constant_17 hl (by decide) rfl (fun ls hl => ?_)
  refine lv_iconst (v := 2) hx hb d_Law_constant_19 (by decide) ?_
  exact lq_iret (x := (2, α, w)) (α := α) hx hb hr hlocks E hJ (by show 0 + 6 + kF α ≤ kF α + 6; omega) (by show 32 * (0 + 1) + kF α ≤ kF α + 32; omega) d_Law_constant_20
theorem kw_Law_27 : kWv "FamilyKernelLaw" 27 "FamilyKernel" y_Ker_show b_Ker_show 3 (some .int) 2 := ⟨vt_1236, vt_1237, vt_1238, vt_201, vt_1239, by decide, by decide, by decide +kernel⟩
set_option maxHeartbeats 4000000 in
set_option maxRecDepth 100000 in
theorem h_show_ok {l : Launch} {g : mG} {o : Nat} {A : Nat → Prop} {α : kS} {ad : Nat → Nat} {β : mS} {w : Nat → Int64} (hfl : kFl l) (N : Nat) (a1 a2 v : Int32) {α' : kS} (hf : f_Ker_show N a1 a2 α = some (some (some v), α')) : vE l y_Law_show (Cond.codeWith y_Law_show b_Law_show 5 (some .int) [(0, 10, 13, 25), (0, 10, 17, 19)] :: vT) (lR α) (va_Pc [.ref (kad g.1 0), .int a1, .int a2, .ref o] (lB g o A α ad β w)) (lQ g o A α β (0, α', vp_updL w 0 v.toInt64)) A := by
  refine lq_ofW (by decide) (fun p e s m args below meth c S hr hlocks ht hargs E hJ => ?_)
  have S : CallFix p m c b_Law_show 5 s args vT "FamilyKernelLaw" := S
  obtain ⟨hx, hb, hml, hown, hT⟩ := id S
  subst hargs
  have hl := lv_entry ([.ref (kad g.1 0), .int a1, .int a2, .ref o]) (n := 5) (Nat.le_of_ble_eq_true rfl)
  rw [lg_entry_eq]
  generalize (lg_sl ([.ref (kad g.1 0), .int a1, .int a2, .ref o]) ++ List.replicate (5 - (lg_sl ([.ref (kad g.1 0), .int a1, .int a2, .ref o])).length) Slot.unset).toArray = ls at hl ⊢
  have hl : lv_has ls 5 [(0, .ref (kad g.1 0)), (1, .int a1), (2, .int a2), (3, .ref o)] := hl
  refine lv_aload_n hx hb d_Law_show_0 rfl (lv_at hl 3 rfl) ?_
  refine lv_iconst (v := 0) hx hb d_Law_show_1 (by decide) ?_
  refine lv_aload_n hx hb d_Law_show_2 rfl (lv_at hl 0 rfl) ?_
  refine lv_iload_n hx hb d_Law_show_3 rfl (lv_at hl 1 rfl) ?_
  refine lv_iload_n hx hb d_Law_show_4 rfl (lv_at hl 2 rfl) ?_
  refine lk_call (As := [.int a1, .int a2]) (rest := [.int 0, .ref o]) hf (k_Ker_show hfl N a1 a2) S E hJ kw_Law_27 ⟨(Nat.le_of_ble_eq_true rfl), (Nat.le_of_ble_eq_true rfl)⟩ ⟨by show 0 + ((kM - kF α) / 32 + 1) ≤ (kM - kF α) / 32 + 2; omega, by show 0 + (kM - kF α + 6) ≤ kM - kF α + 12; omega⟩ rfl hl.1 rfl (Nat.le_of_ble_eq_true rfl) d_Law_show_5 (fun ad1 H1 locs1 k1 n1 hk1 hk2 hJ => ?_)
  refine lv_i2l (v := v.toInt64) hx hb d_Law_show_8 rfl ?_
  refine lj_last S E hJ d_Law_show_9 (fun H2 locs2 hJ => ?_)
  refine lv_goto (tgt := 21) hx hb d_Law_show_10 (by decide) ?_
  refine lv_iconst (v := 0) hx hb d_Law_show_21 (by decide) ?_
  exact lq_iret (x := (0, α', vp_updL w 0 v.toInt64)) (α := α) hx hb hr hlocks E hJ (by show 0 + n1 + kF α ≤ kF α' + 6; omega) (by show 32 * (0 + k1) + kF α ≤ kF α' + 32; omega) d_Law_show_22
set_option maxHeartbeats 4000000 in
set_option maxRecDepth 100000 in
theorem h_show_1 {l : Launch} {g : mG} {o : Nat} {A : Nat → Prop} {α : kS} {ad : Nat → Nat} {β : mS} {w : Nat → Int64} (hfl : kFl l) (a1 a2 : Int32) (h : fx_Ker_show a1 a2 α = 1) : vE l y_Law_show (Cond.codeWith y_Law_show b_Law_show 5 (some .int) [(0, 10, 13, 25), (0, 10, 17, 19)] :: vT) (lR α) (va_Pc [.ref (kad g.1 0), .int a1, .int a2, .ref o] (lB g o A α ad β w)) (lQ g o A α β (1, α, w)) A := by
  refine lq_ofW (by decide) (fun p e s m args below meth c S hr hlocks ht hargs E hJ => ?_)
  have S : CallFix p m c b_Law_show 5 s args vT "FamilyKernelLaw" := S
  obtain ⟨hx, hb, hml, hown, hT⟩ := id S
  subst hargs
  have hl := lv_entry ([.ref (kad g.1 0), .int a1, .int a2, .ref o]) (n := 5) (Nat.le_of_ble_eq_true rfl)
  rw [lg_entry_eq]
  generalize (lg_sl ([.ref (kad g.1 0), .int a1, .int a2, .ref o]) ++ List.replicate (5 - (lg_sl ([.ref (kad g.1 0), .int a1, .int a2, .ref o])).length) Slot.unset).toArray = ls at hl ⊢
  have hl : lv_has ls 5 [(0, .ref (kad g.1 0)), (1, .int a1), (2, .int a2), (3, .ref o)] := hl
  refine lv_aload_n hx hb d_Law_show_0 rfl (lv_at hl 3 rfl) ?_
  refine lv_iconst (v := 0) hx hb d_Law_show_1 (by decide) ?_
  refine lv_aload_n hx hb d_Law_show_2 rfl (lv_at hl 0 rfl) ?_
  refine lv_iload_n hx hb d_Law_show_3 rfl (lv_at hl 1 rfl) ?_
  refine lv_iload_n hx hb d_Law_show_4 rfl (lv_at hl 2 rfl) ?_
  obtain ⟨x, x', hx0, ⟨e1, e2, e3, e4⟩, e1', e2', e3', e4'⟩ := vg_two ht
  refine lk_catch (As := [.int a1, .int a2]) (rest := [.int 0, .ref o]) (kt_Ker_show_1 hfl a1 a2 h) S E E.2.2.1.2.2.1 hJ kw_Law_27 ⟨(Nat.le_of_ble_eq_true rfl), (Nat.le_of_ble_eq_true rfl)⟩ ⟨by show 0 + 1 ≤ (kM - kF α) / 32 + 2; omega, by show 0 + 6 ≤ kM - kF α + 12; omega⟩ rfl hl.1 rfl (Nat.le_of_ble_eq_true rfl) d_Law_show_5 hx0 (by unfold covers; rw [e1, e2]; decide) (by rw [e4]; decide) (by rw [e4]; exact vt_1859) (fun xa H1 hJ => ?_)
  rw [e3]
  refine lv_astore (lv' := [(4, .ref xa), (0, .ref (kad g.1 0)), (1, .int a1), (2, .int a2), (3, .ref o)]) hx hb d_Law_show_13 hl (by decide) rfl (fun ls hl => ?_)
  refine lv_iconst (v := 1) hx hb d_Law_show_15 (by decide) ?_
  exact lq_iret (x := (1, α, w)) (α := α) hx hb hr hlocks E hJ (by show 0 + 6 + kF α ≤ kF α + 6; omega) (by show 32 * (0 + 1) + kF α ≤ kF α + 32; omega) d_Law_show_16
set_option maxHeartbeats 4000000 in
set_option maxRecDepth 100000 in
theorem h_show_2 {l : Launch} {g : mG} {o : Nat} {A : Nat → Prop} {α : kS} {ad : Nat → Nat} {β : mS} {w : Nat → Int64} (hfl : kFl l) (a1 a2 : Int32) (h : fx_Ker_show a1 a2 α = 2) : vE l y_Law_show (Cond.codeWith y_Law_show b_Law_show 5 (some .int) [(0, 10, 13, 25), (0, 10, 17, 19)] :: vT) (lR α) (va_Pc [.ref (kad g.1 0), .int a1, .int a2, .ref o] (lB g o A α ad β w)) (lQ g o A α β (2, α, w)) A := by
  refine lq_ofW (by decide) (fun p e s m args below meth c S hr hlocks ht hargs E hJ => ?_)
  have S : CallFix p m c b_Law_show 5 s args vT "FamilyKernelLaw" := S
  obtain ⟨hx, hb, hml, hown, hT⟩ := id S
  subst hargs
  have hl := lv_entry ([.ref (kad g.1 0), .int a1, .int a2, .ref o]) (n := 5) (Nat.le_of_ble_eq_true rfl)
  rw [lg_entry_eq]
  generalize (lg_sl ([.ref (kad g.1 0), .int a1, .int a2, .ref o]) ++ List.replicate (5 - (lg_sl ([.ref (kad g.1 0), .int a1, .int a2, .ref o])).length) Slot.unset).toArray = ls at hl ⊢
  have hl : lv_has ls 5 [(0, .ref (kad g.1 0)), (1, .int a1), (2, .int a2), (3, .ref o)] := hl
  refine lv_aload_n hx hb d_Law_show_0 rfl (lv_at hl 3 rfl) ?_
  refine lv_iconst (v := 0) hx hb d_Law_show_1 (by decide) ?_
  refine lv_aload_n hx hb d_Law_show_2 rfl (lv_at hl 0 rfl) ?_
  refine lv_iload_n hx hb d_Law_show_3 rfl (lv_at hl 1 rfl) ?_
  refine lv_iload_n hx hb d_Law_show_4 rfl (lv_at hl 2 rfl) ?_
  obtain ⟨x, x', hx0, ⟨e1, e2, e3, e4⟩, e1', e2', e3', e4'⟩ := vg_two ht
  refine lk_catch2 (As := [.int a1, .int a2]) (rest := [.int 0, .ref o]) (kt_Ker_show_2 hfl a1 a2 h) S E E.2.2.1.2.1 E.2.2.2.2.2.2.2 hJ kw_Law_27 ⟨(Nat.le_of_ble_eq_true rfl), (Nat.le_of_ble_eq_true rfl)⟩ ⟨by show 0 + 1 ≤ (kM - kF α) / 32 + 2; omega, by show 0 + 6 ≤ kM - kF α + 12; omega⟩ rfl hl.1 rfl (Nat.le_of_ble_eq_true rfl) d_Law_show_5 hx0 (by unfold covers; rw [e1, e2]; decide) (by rw [e4]; decide) (by rw [e4]; exact vt_1859) (by unfold covers; rw [e1', e2']; decide) (by rw [e4']; decide) (by rw [e4']; exact vt_1854) (fun xa H1 hJ => ?_)
  rw [e3']
  refine lv_astore (lv' := [(4, .ref xa), (0, .ref (kad g.1 0)), (1, .int a1), (2, .int a2), (3, .ref o)]) hx hb d_Law_show_17 hl (by decide) rfl (fun ls hl => ?_)
  refine lv_iconst (v := 2) hx hb d_Law_show_19 (by decide) ?_
  exact lq_iret (x := (2, α, w)) (α := α) hx hb hr hlocks E hJ (by show 0 + 6 + kF α ≤ kF α + 6; omega) (by show 32 * (0 + 1) + kF α ≤ kF α + 32; omega) d_Law_show_20
theorem kw_Law_30 : kWv "FamilyKernelLaw" 30 "FamilyKernel" y_Ker_showRec b_Ker_showRec 4 (some .int) 2 := ⟨vt_1245, vt_1246, vt_1247, vt_201, vt_1248, by decide, by decide, by decide +kernel⟩
set_option maxHeartbeats 4000000 in
set_option maxRecDepth 100000 in
theorem h_showRec_ok {l : Launch} {g : mG} {o : Nat} {A : Nat → Prop} {α : kS} {ad : Nat → Nat} {β : mS} {w : Nat → Int64} (hfl : kFl l) (N : Nat) (a1 a2 v : Int32) {α' : kS} (hf : f_Ker_showRec N a1 a2 α = some (some (some v), α')) : vE l y_Law_showRec (Cond.codeWith y_Law_showRec b_Law_showRec 5 (some .int) [(0, 10, 13, 25)] :: vT) (lR α) (va_Pc [.ref (kad g.1 0), .int a1, .int a2, .ref o] (lB g o A α ad β w)) (lQ g o A α β (0, α', vp_updL w 0 v.toInt64)) A := by
  refine lq_ofW (by decide) (fun p e s m args below meth c S hr hlocks ht hargs E hJ => ?_)
  have S : CallFix p m c b_Law_showRec 5 s args vT "FamilyKernelLaw" := S
  obtain ⟨hx, hb, hml, hown, hT⟩ := id S
  subst hargs
  have hl := lv_entry ([.ref (kad g.1 0), .int a1, .int a2, .ref o]) (n := 5) (Nat.le_of_ble_eq_true rfl)
  rw [lg_entry_eq]
  generalize (lg_sl ([.ref (kad g.1 0), .int a1, .int a2, .ref o]) ++ List.replicate (5 - (lg_sl ([.ref (kad g.1 0), .int a1, .int a2, .ref o])).length) Slot.unset).toArray = ls at hl ⊢
  have hl : lv_has ls 5 [(0, .ref (kad g.1 0)), (1, .int a1), (2, .int a2), (3, .ref o)] := hl
  refine lv_aload_n hx hb d_Law_showRec_0 rfl (lv_at hl 3 rfl) ?_
  refine lv_iconst (v := 0) hx hb d_Law_showRec_1 (by decide) ?_
  refine lv_aload_n hx hb d_Law_showRec_2 rfl (lv_at hl 0 rfl) ?_
  refine lv_iload_n hx hb d_Law_showRec_3 rfl (lv_at hl 1 rfl) ?_
  refine lv_iload_n hx hb d_Law_showRec_4 rfl (lv_at hl 2 rfl) ?_
  refine lk_call (As := [.int a1, .int a2]) (rest := [.int 0, .ref o]) hf (k_Ker_showRec hfl N a1 a2) S E hJ kw_Law_30 ⟨(Nat.le_of_ble_eq_true rfl), (Nat.le_of_ble_eq_true rfl)⟩ ⟨by show 0 + ((kM - kF α) / 32 + 1) ≤ (kM - kF α) / 32 + 2; omega, by show 0 + (kM - kF α + 6) ≤ kM - kF α + 12; omega⟩ rfl hl.1 rfl (Nat.le_of_ble_eq_true rfl) d_Law_showRec_5 (fun ad1 H1 locs1 k1 n1 hk1 hk2 hJ => ?_)
  refine lv_i2l (v := v.toInt64) hx hb d_Law_showRec_8 rfl ?_
  refine lj_last S E hJ d_Law_showRec_9 (fun H2 locs2 hJ => ?_)
  refine lv_goto (tgt := 17) hx hb d_Law_showRec_10 (by decide) ?_
  refine lv_iconst (v := 0) hx hb d_Law_showRec_17 (by decide) ?_
  exact lq_iret (x := (0, α', vp_updL w 0 v.toInt64)) (α := α) hx hb hr hlocks E hJ (by show 0 + n1 + kF α ≤ kF α' + 6; omega) (by show 32 * (0 + k1) + kF α ≤ kF α' + 32; omega) d_Law_showRec_18
set_option maxHeartbeats 4000000 in
set_option maxRecDepth 100000 in
theorem h_showRec_1 {l : Launch} {g : mG} {o : Nat} {A : Nat → Prop} {α : kS} {ad : Nat → Nat} {β : mS} {w : Nat → Int64} (hfl : kFl l) (a1 a2 : Int32) (h : fx_Ker_showRec a1 a2 α = 1) : vE l y_Law_showRec (Cond.codeWith y_Law_showRec b_Law_showRec 5 (some .int) [(0, 10, 13, 25)] :: vT) (lR α) (va_Pc [.ref (kad g.1 0), .int a1, .int a2, .ref o] (lB g o A α ad β w)) (lQ g o A α β (1, α, w)) A := by
  refine lq_ofW (by decide) (fun p e s m args below meth c S hr hlocks ht hargs E hJ => ?_)
  have S : CallFix p m c b_Law_showRec 5 s args vT "FamilyKernelLaw" := S
  obtain ⟨hx, hb, hml, hown, hT⟩ := id S
  subst hargs
  have hl := lv_entry ([.ref (kad g.1 0), .int a1, .int a2, .ref o]) (n := 5) (Nat.le_of_ble_eq_true rfl)
  rw [lg_entry_eq]
  generalize (lg_sl ([.ref (kad g.1 0), .int a1, .int a2, .ref o]) ++ List.replicate (5 - (lg_sl ([.ref (kad g.1 0), .int a1, .int a2, .ref o])).length) Slot.unset).toArray = ls at hl ⊢
  have hl : lv_has ls 5 [(0, .ref (kad g.1 0)), (1, .int a1), (2, .int a2), (3, .ref o)] := hl
  refine lv_aload_n hx hb d_Law_showRec_0 rfl (lv_at hl 3 rfl) ?_
  refine lv_iconst (v := 0) hx hb d_Law_showRec_1 (by decide) ?_
  refine lv_aload_n hx hb d_Law_showRec_2 rfl (lv_at hl 0 rfl) ?_
  refine lv_iload_n hx hb d_Law_showRec_3 rfl (lv_at hl 1 rfl) ?_
  refine lv_iload_n hx hb d_Law_showRec_4 rfl (lv_at hl 2 rfl) ?_
  obtain ⟨x, hx0, e1, e2, e3, e4⟩ := vg_one ht
  refine lk_catch (As := [.int a1, .int a2]) (rest := [.int 0, .ref o]) (kt_Ker_showRec_1 hfl a1 a2 h) S E E.2.2.1.2.2.1 hJ kw_Law_30 ⟨(Nat.le_of_ble_eq_true rfl), (Nat.le_of_ble_eq_true rfl)⟩ ⟨by show 0 + 1 ≤ (kM - kF α) / 32 + 2; omega, by show 0 + 6 ≤ kM - kF α + 12; omega⟩ rfl hl.1 rfl (Nat.le_of_ble_eq_true rfl) d_Law_showRec_5 hx0 (by unfold covers; rw [e1, e2]; decide) (by rw [e4]; decide) (by rw [e4]; exact vt_1859) (fun xa H1 hJ => ?_)
  rw [e3]
  refine lv_astore (lv' := [(4, .ref xa), (0, .ref (kad g.1 0)), (1, .int a1), (2, .int a2), (3, .ref o)]) hx hb d_Law_showRec_13 hl (by decide) rfl (fun ls hl => ?_)
  refine lv_iconst (v := 1) hx hb d_Law_showRec_15 (by decide) ?_
  exact lq_iret (x := (1, α, w)) (α := α) hx hb hr hlocks E hJ (by show 0 + 6 + kF α ≤ kF α + 6; omega) (by show 32 * (0 + 1) + kF α ≤ kF α + 32; omega) d_Law_showRec_16
theorem kw_Law_33 : kWv "FamilyKernelLaw" 33 "FamilyKernel" y_Ker_out b_Ker_out 2 (some .int) 1 := ⟨vt_1251, vt_1252, vt_1253, vt_201, vt_1254, by decide, by decide, by decide +kernel⟩
set_option maxHeartbeats 4000000 in
set_option maxRecDepth 100000 in
theorem h_out_ok {l : Launch} {g : mG} {o : Nat} {A : Nat → Prop} {α : kS} {ad : Nat → Nat} {β : mS} {w : Nat → Int64} (hfl : kFl l) (N : Nat) (a1 v : Int32) {α' : kS} (hf : f_Ker_out N a1 α = some (some (some v), α')) : vE l y_Law_out (Cond.codeWith y_Law_out b_Law_out 4 (some .int) [(0, 9, 12, 36)] :: vT) (lR α) (va_Pc [.ref (kad g.1 0), .int a1, .ref o] (lB g o A α ad β w)) (lQ g o A α β (0, α', vp_updL w 0 v.toInt64)) A := by
  refine lq_ofW (by decide) (fun p e s m args below meth c S hr hlocks ht hargs E hJ => ?_)
  have S : CallFix p m c b_Law_out 4 s args vT "FamilyKernelLaw" := S
  obtain ⟨hx, hb, hml, hown, hT⟩ := id S
  subst hargs
  have hl := lv_entry ([.ref (kad g.1 0), .int a1, .ref o]) (n := 4) (Nat.le_of_ble_eq_true rfl)
  rw [lg_entry_eq]
  generalize (lg_sl ([.ref (kad g.1 0), .int a1, .ref o]) ++ List.replicate (4 - (lg_sl ([.ref (kad g.1 0), .int a1, .ref o])).length) Slot.unset).toArray = ls at hl ⊢
  have hl : lv_has ls 4 [(0, .ref (kad g.1 0)), (1, .int a1), (2, .ref o)] := hl
  refine lv_aload_n hx hb d_Law_out_0 rfl (lv_at hl 2 rfl) ?_
  refine lv_iconst (v := 0) hx hb d_Law_out_1 (by decide) ?_
  refine lv_aload_n hx hb d_Law_out_2 rfl (lv_at hl 0 rfl) ?_
  refine lv_iload_n hx hb d_Law_out_3 rfl (lv_at hl 1 rfl) ?_
  refine lk_call (As := [.int a1]) (rest := [.int 0, .ref o]) hf (k_Ker_out hfl N a1) S E hJ kw_Law_33 ⟨(Nat.le_of_ble_eq_true rfl), (Nat.le_of_ble_eq_true rfl)⟩ ⟨by show 0 + ((kM - kF α) / 32 + 1) ≤ (kM - kF α) / 32 + 2; omega, by show 0 + (kM - kF α + 6) ≤ kM - kF α + 12; omega⟩ rfl hl.1 rfl (Nat.le_of_ble_eq_true rfl) d_Law_out_4 (fun ad1 H1 locs1 k1 n1 hk1 hk2 hJ => ?_)
  refine lv_i2l (v := v.toInt64) hx hb d_Law_out_7 rfl ?_
  refine lj_last S E hJ d_Law_out_8 (fun H2 locs2 hJ => ?_)
  refine lv_goto (tgt := 15) hx hb d_Law_out_9 (by decide) ?_
  refine lv_iconst (v := 0) hx hb d_Law_out_15 (by decide) ?_
  exact lq_iret (x := (0, α', vp_updL w 0 v.toInt64)) (α := α) hx hb hr hlocks E hJ (by show 0 + n1 + kF α ≤ kF α' + 6; omega) (by show 32 * (0 + k1) + kF α ≤ kF α' + 32; omega) d_Law_out_16
set_option maxHeartbeats 4000000 in
set_option maxRecDepth 100000 in
theorem h_out_3 {l : Launch} {g : mG} {o : Nat} {A : Nat → Prop} {α : kS} {ad : Nat → Nat} {β : mS} {w : Nat → Int64} (hfl : kFl l) (a1 : Int32) (h : fx_Ker_out a1 α = 3) : vE l y_Law_out (Cond.codeWith y_Law_out b_Law_out 4 (some .int) [(0, 9, 12, 36)] :: vT) (lR α) (va_Pc [.ref (kad g.1 0), .int a1, .ref o] (lB g o A α ad β w)) (lQ g o A α β (1, α, w)) A := by
  refine lq_ofW (by decide) (fun p e s m args below meth c S hr hlocks ht hargs E hJ => ?_)
  have S : CallFix p m c b_Law_out 4 s args vT "FamilyKernelLaw" := S
  obtain ⟨hx, hb, hml, hown, hT⟩ := id S
  subst hargs
  have hl := lv_entry ([.ref (kad g.1 0), .int a1, .ref o]) (n := 4) (Nat.le_of_ble_eq_true rfl)
  rw [lg_entry_eq]
  generalize (lg_sl ([.ref (kad g.1 0), .int a1, .ref o]) ++ List.replicate (4 - (lg_sl ([.ref (kad g.1 0), .int a1, .ref o])).length) Slot.unset).toArray = ls at hl ⊢
  have hl : lv_has ls 4 [(0, .ref (kad g.1 0)), (1, .int a1), (2, .ref o)] := hl
  refine lv_aload_n hx hb d_Law_out_0 rfl (lv_at hl 2 rfl) ?_
  refine lv_iconst (v := 0) hx hb d_Law_out_1 (by decide) ?_
  refine lv_aload_n hx hb d_Law_out_2 rfl (lv_at hl 0 rfl) ?_
  refine lv_iload_n hx hb d_Law_out_3 rfl (lv_at hl 1 rfl) ?_
  obtain ⟨x, hx0, e1, e2, e3, e4⟩ := vg_one ht
  refine lk_catch (As := [.int a1]) (rest := [.int 0, .ref o]) (kt_Ker_out_3 hfl a1 h) S E E.2.2.1.2.2.2 hJ kw_Law_33 ⟨(Nat.le_of_ble_eq_true rfl), (Nat.le_of_ble_eq_true rfl)⟩ ⟨by show 0 + 1 ≤ (kM - kF α) / 32 + 2; omega, by show 0 + 6 ≤ kM - kF α + 12; omega⟩ rfl hl.1 rfl (Nat.le_of_ble_eq_true rfl) d_Law_out_4 hx0 (by unfold covers; rw [e1, e2]; decide) (by rw [e4]; decide) (by rw [e4]; exact vt_1868) (fun xa H1 hJ => ?_)
  rw [e3]
  refine lv_astore_n (lv' := [(3, .ref xa), (0, .ref (kad g.1 0)), (1, .int a1), (2, .ref o)]) hx hb d_Law_out_12 rfl hl (by decide) rfl (fun ls hl => ?_)
  refine lv_iconst (v := 1) hx hb d_Law_out_13 (by decide) ?_
  exact lq_iret (x := (1, α, w)) (α := α) hx hb hr hlocks E hJ (by show 0 + 6 + kF α ≤ kF α + 6; omega) (by show 32 * (0 + 1) + kF α ≤ kF α + 32; omega) d_Law_out_14
