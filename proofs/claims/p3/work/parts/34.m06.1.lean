def f_Mod_mapped (N : Nat) (a1 : Int32) (a2 : Int32) (a3 : Int32) (a4 : Int32) (a5 : Int32) (α : mS) : Option (kO × mS) := mBi ((G_map N dp_map) a2 a3 (mSi (mSi (mSi (mSi α 12 a1) 13 a4) 14 a5) 11 0)) fun v3 α1 => (some (some (some v3), α1))
set_option maxHeartbeats 4000000 in
set_option maxRecDepth 100000 in
theorem k_Mod_mapped {l : Launch} {g : mG} {α : mS} (N : Nat) (a1 : Int32) (a2 : Int32) (a3 : Int32) (a4 : Int32) (a5 : Int32)  : ∀ x, f_Mod_mapped N a1 a2 a3 a4 a5 α = some x → mC l g y_Mod_mapped b_Mod_mapped 6 (some .int) (847) (23757) [.ref (mad g 0), .int a1, .int a2, .int a3, .int a4, .int a5] α (mQr x) := by
  intro x h
  unfold f_Mod_mapped at h
  refine mc_ofW (by decide) (fun A p e s m args below meth c S hr hlocks hno hargs E hI => ?_)
  have hx := S.1
  have hb := S.2.1
  have hown := S.2.2.2.1
  have hT := S.2.2.2.2
  subst hargs
  have hl := lv_entry ([.ref (mad g 0), .int a1, .int a2, .int a3, .int a4, .int a5]) (n := 6) (Nat.le_of_ble_eq_true rfl)
  rw [lg_entry_eq]
  generalize (lg_sl ([.ref (mad g 0), .int a1, .int a2, .int a3, .int a4, .int a5]) ++ List.replicate (6 - (lg_sl ([.ref (mad g 0), .int a1, .int a2, .int a3, .int a4, .int a5])).length) Slot.unset).toArray = ls at hl ⊢
  have hl : lv_has ls 6 [(0, .ref (mad g 0)), (1, .int a1), (2, .int a2), (3, .int a3), (4, .int a4), (5, .int a5)] := hl
  refine lv_aload_n hx hb d_Mod_mapped_0 rfl (lv_at hl 0 rfl) ?_
  refine lv_iload_n hx hb d_Mod_mapped_1 rfl (lv_at hl 1 rfl) ?_
  refine mp_mapHow S E hI vt_1288 d_Mod_mapped_2 (fun H locs hI => ?_)
  refine lv_aload_n hx hb d_Mod_mapped_5 rfl (lv_at hl 0 rfl) ?_
  refine lv_iload hx hb d_Mod_mapped_6 (lv_at hl 4 rfl) ?_
  refine mp_mapWhat S E hI vt_1289 d_Mod_mapped_8 (fun H locs hI => ?_)
  refine lv_aload_n hx hb d_Mod_mapped_11 rfl (lv_at hl 0 rfl) ?_
  refine lv_iload hx hb d_Mod_mapped_12 (lv_at hl 5 rfl) ?_
  refine mp_mapTo S E hI vt_1290 d_Mod_mapped_14 (fun H locs hI => ?_)
  refine lv_aload_n hx hb d_Mod_mapped_17 rfl (lv_at hl 0 rfl) ?_
  refine lv_iconst (v := 0) hx hb d_Mod_mapped_18 (by decide) ?_
  refine mp_spineTop S E hI vt_1287 d_Mod_mapped_19 (fun H locs hI => ?_)
  refine lv_aload_n hx hb d_Mod_mapped_22 rfl (lv_at hl 0 rfl) ?_
  refine lv_iload_n hx hb d_Mod_mapped_23 rfl (lv_at hl 2 rfl) ?_
  refine lv_iload_n hx hb d_Mod_mapped_24 rfl (lv_at hl 3 rfl) ?_
  refine mg_cI (As := [.int a2, .int a3]) (rest := []) h (((ok_map (l := l) (g := g) N dp_map)) a2 a3 (mSi (mSi (mSi (mSi α 12 a1) 13 a4) 14 a5) 11 0)) S hlocks hno E hI kw_Mod_344 ⟨Nat.le_of_ble_eq_true rfl, Nat.le_of_ble_eq_true rfl⟩ (mv_Mod E hI) rfl hl.1 rfl (Nat.le_of_ble_eq_true rfl) d_Mod_mapped_25 (fun v3 α1 H locs e2 h hI => ?_)
  exact mc_iret (w := v3) hx hb hr rfl hlocks E hI h d_Mod_mapped_28
theorem kw_Mod_359 : kWv "FamilyKernelModel" 359 "FamilyKernelModel" y_Mod_mapped b_Mod_mapped 6 (some .int) 5 := ⟨vt_1543, vt_1544, vt_1545, vt_1349, vt_1546, by decide, by decide, by decide +kernel⟩
def f_Mod_put (N : Nat) (a1 : Int32) (a2 : Int32) (α : mS) : Option (kO × mS) := mBi (f_Mod_mapped N 1 a1 0 0 a2 α) fun v3 α1 => (some (some (some v3), α1))
set_option maxHeartbeats 4000000 in
set_option maxRecDepth 100000 in
theorem k_Mod_put {l : Launch} {g : mG} {α : mS} (N : Nat) (a1 : Int32) (a2 : Int32)  : ∀ x, f_Mod_put N a1 a2 α = some x → mC l g y_Mod_put b_Mod_put 3 (some .int) (848) (23782) [.ref (mad g 0), .int a1, .int a2] α (mQr x) := by
  intro x h
  unfold f_Mod_put at h
  refine mc_ofW (by decide) (fun A p e s m args below meth c S hr hlocks hno hargs E hI => ?_)
  have hx := S.1
  have hb := S.2.1
  have hown := S.2.2.2.1
  have hT := S.2.2.2.2
  subst hargs
  have hl := lv_entry ([.ref (mad g 0), .int a1, .int a2]) (n := 3) (Nat.le_of_ble_eq_true rfl)
  rw [lg_entry_eq]
  generalize (lg_sl ([.ref (mad g 0), .int a1, .int a2]) ++ List.replicate (3 - (lg_sl ([.ref (mad g 0), .int a1, .int a2])).length) Slot.unset).toArray = ls at hl ⊢
  have hl : lv_has ls 3 [(0, .ref (mad g 0)), (1, .int a1), (2, .int a2)] := hl
  refine lv_aload_n hx hb d_Mod_put_0 rfl (lv_at hl 0 rfl) ?_
  refine lv_iconst (v := 1) hx hb d_Mod_put_1 (by decide) ?_
  refine lv_iload_n hx hb d_Mod_put_2 rfl (lv_at hl 1 rfl) ?_
  refine lv_iconst (v := 0) hx hb d_Mod_put_3 (by decide) ?_
  refine lv_iconst (v := 0) hx hb d_Mod_put_4 (by decide) ?_
  refine lv_iload_n hx hb d_Mod_put_5 rfl (lv_at hl 2 rfl) ?_
  refine mg_cI (As := [.int 1, .int a1, .int 0, .int 0, .int a2]) (rest := []) h (k_Mod_mapped (l := l) (g := g) (α := α) N 1 a1 0 0 a2) S hlocks hno E hI kw_Mod_359 ⟨Nat.le_of_ble_eq_true rfl, Nat.le_of_ble_eq_true rfl⟩ (mv_Mod E hI) rfl hl.1 rfl (Nat.le_of_ble_eq_true rfl) d_Mod_put_6 (fun v3 α1 H locs e2 h hI => ?_)
  exact mc_iret (w := v3) hx hb hr rfl hlocks E hI h d_Mod_put_9
theorem kw_Mod_428 : kWv "FamilyKernelModel" 428 "FamilyKernelModel" y_Mod_put b_Mod_put 3 (some .int) 2 := ⟨vt_1600, vt_1601, vt_1602, vt_1349, vt_1603, by decide, by decide, by decide +kernel⟩
def f_Mod_opened (N : Nat) (a1 : Int32) (a2 : Int32) (α : mS) : Option (kO × mS) := (((G_sizeWith N dp_sizeWith) a1 a2 0 α)).bind fun v1 => (if v1 ≤ 3000 then (mBi (f_Mod_put N a1 a2 α) fun v6 α4 => (some (some (some v6), α4))) else (some (none, (mTh α 10 (-1)))))
set_option maxHeartbeats 4000000 in
set_option maxRecDepth 100000 in
theorem k_Mod_opened {l : Launch} {g : mG} {α : mS} (N : Nat) (a1 : Int32) (a2 : Int32)  : ∀ x, f_Mod_opened N a1 a2 α = some x → mC l g y_Mod_opened b_Mod_opened 3 (some .int) (849) (23804) [.ref (mad g 0), .int a1, .int a2] α (mQr x) := by
  intro x h
  unfold f_Mod_opened at h
  refine mc_ofW (by decide) (fun A p e s m args below meth c S hr hlocks hno hargs E hI => ?_)
  have hx := S.1
  have hb := S.2.1
  have hown := S.2.2.2.1
  have hT := S.2.2.2.2
  subst hargs
  have hl := lv_entry ([.ref (mad g 0), .int a1, .int a2]) (n := 3) (Nat.le_of_ble_eq_true rfl)
  rw [lg_entry_eq]
  generalize (lg_sl ([.ref (mad g 0), .int a1, .int a2]) ++ List.replicate (3 - (lg_sl ([.ref (mad g 0), .int a1, .int a2])).length) Slot.unset).toArray = ls at hl ⊢
  have hl : lv_has ls 3 [(0, .ref (mad g 0)), (1, .int a1), (2, .int a2)] := hl
  refine lv_aload_n hx hb d_Mod_opened_0 rfl (lv_at hl 0 rfl) ?_
  refine lv_iload_n hx hb d_Mod_opened_1 rfl (lv_at hl 1 rfl) ?_
  refine lv_iload_n hx hb d_Mod_opened_2 rfl (lv_at hl 2 rfl) ?_
  refine lv_iconst (v := 0) hx hb d_Mod_opened_3 (by decide) ?_
  obtain ⟨v1, e2, h⟩ := Option.bind_eq_some_iff.mp h
  refine mg_p (As := [.int a1, .int a2, .int 0]) (rest := []) ((((ok_sizeWith (l := l) (g := g) N dp_sizeWith)) a1 a2 0 α) _ e2) S E hI kw_Mod_363 (Or.inl rfl) ⟨Nat.le_of_ble_eq_true rfl, Nat.le_of_ble_eq_true rfl⟩ (mv_Mod E hI) rfl hl.1 rfl (Nat.le_of_ble_eq_true rfl) d_Mod_opened_4 rfl ?_
  refine lv_sipush (v := 3000) hx hb d_Mod_opened_7 (by decide) ?_
  refine lv_icmp_le (tgt := 19) hx hb d_Mod_opened_10 (by decide) (fun c3 => ?_) (fun c3 => ?_)
  · replace h := Eq.trans (if_pos c3).symm h
    refine lv_aload_n hx hb d_Mod_opened_19 rfl (lv_at hl 0 rfl) ?_
    refine lv_iload_n hx hb d_Mod_opened_20 rfl (lv_at hl 1 rfl) ?_
    refine lv_iload_n hx hb d_Mod_opened_21 rfl (lv_at hl 2 rfl) ?_
    refine mg_cI (As := [.int a1, .int a2]) (rest := []) h (k_Mod_put (l := l) (g := g) (α := α) N a1 a2) S hlocks hno E hI kw_Mod_428 ⟨Nat.le_of_ble_eq_true rfl, Nat.le_of_ble_eq_true rfl⟩ (mv_Mod E hI) rfl hl.1 rfl (Nat.le_of_ble_eq_true rfl) d_Mod_opened_22 (fun v6 α4 H locs e5 h hI => ?_)
    exact mc_iret (w := v6) hx hb hr rfl hlocks E hI h d_Mod_opened_25
  · replace h := Eq.trans (if_neg c3).symm h
    refine lv_bipush (v := 10) hx hb d_Mod_opened_13 (by decide) ?_
    refine mg_fails S E hI kw_Mod_323 hl.1 ⟨Nat.le_of_ble_eq_true rfl, Nat.le_of_ble_eq_true rfl⟩ (Nat.le_of_ble_eq_true rfl) d_Mod_opened_15 (fun q H locs hN => ?_)
    exact mg_athrow S hlocks hno E hN h d_Mod_opened_18
theorem kw_Mod_440 : kWv "FamilyKernelModel" 440 "FamilyKernelModel" y_Mod_nth b_Mod_nth 6 (some .int) 3 := ⟨vt_1632, vt_1633, vt_1634, vt_1349, vt_1635, by decide, by decide, by decide +kernel⟩
def f_Mod_with_7 (N : Nat)  : Nat → Int32 → Int32 → Int32 → Int32 → mS → Option (kO × mS)
  | 0, _, _, _, _, _ => none
  | n + 1, x6_7, x5_7, x2_7, x3_7, β7 => if x3_7 ≤ x6_7 then (some (some (some x5_7), β7)) else (((f_Mod_nth N x2_7 x3_7 x6_7 β7)).bind fun v2 => (mBi (f_Mod_apply N x5_7 v2 β7) fun v6 α4 => (f_Mod_with_7 N n (x6_7 + 1) v6 x2_7 x3_7 α4)))
def f_Mod_with (N : Nat) (a1 : Int32) (a2 : Int32) (a3 : Int32) (a4 : Int32) (α : mS) : Option (kO × mS) := f_Mod_with_7 N N a4 a1 a2 a3 α
set_option maxHeartbeats 4000000 in
set_option maxRecDepth 100000 in
theorem k_Mod_with {l : Launch} {g : mG} {α : mS} (N : Nat) (a1 : Int32) (a2 : Int32) (a3 : Int32) (a4 : Int32)  : ∀ x, f_Mod_with N a1 a2 a3 a4 α = some x → mC l g y_Mod_with b_Mod_with 7 (some .int) (45) (1307) [.ref (mad g 0), .int a1, .int a2, .int a3, .int a4] α (mQr x) := by
  intro x h
  unfold f_Mod_with at h
  refine mc_ofW (by decide) (fun A p e s m args below meth c S hr hlocks hno hargs E hI => ?_)
  have hx := S.1
  have hb := S.2.1
  have hown := S.2.2.2.1
  have hT := S.2.2.2.2
  subst hargs
  have hl := lv_entry ([.ref (mad g 0), .int a1, .int a2, .int a3, .int a4]) (n := 7) (Nat.le_of_ble_eq_true rfl)
  rw [lg_entry_eq]
  generalize (lg_sl ([.ref (mad g 0), .int a1, .int a2, .int a3, .int a4]) ++ List.replicate (7 - (lg_sl ([.ref (mad g 0), .int a1, .int a2, .int a3, .int a4])).length) Slot.unset).toArray = ls at hl ⊢
  have hl : lv_has ls 7 [(0, .ref (mad g 0)), (1, .int a1), (2, .int a2), (3, .int a3), (4, .int a4)] := hl
  refine lv_iload_n hx hb d_Mod_with_0 rfl (lv_at hl 1 rfl) ?_
  refine lv_istore (lv' := [(5, .int a1), (0, .ref (mad g 0)), (1, .int a1), (2, .int a2), (3, .int a3), (4, .int a4)]) hx hb d_Mod_with_1 hl (by decide) rfl (fun ls hl => ?_)
  refine lv_iload hx hb d_Mod_with_3 (lv_at hl 5 rfl) ?_
  refine lv_istore (lv' := [(6, .int a4), (5, .int a1), (0, .ref (mad g 0)), (1, .int a1), (2, .int a2), (3, .int a3), (4, .int a4)]) hx hb d_Mod_with_5 hl (by decide) rfl (fun ls hl => ?_)
  have L7 : ∀ (n7 : Nat) (x6_7 : Int32) (x5_7 : Int32) (x2_7 : Int32) (x3_7 : Int32) (β7 : mS) (H : Heap) (locs : List Loc) (ls : Array Slot), f_Mod_with_7 N n7 x6_7 x5_7 x2_7 x3_7 β7 = some x → mI g A s β7 H locs → lv_has ls 7 [(6, .int x6_7), (5, .int x5_7), (0, .ref (mad g 0)), (2, .int x2_7), (3, .int x3_7)] → W p l e (mR (45) (1307)) s m ([.ref (mad g 0), .int a1, .int a2, .int a3, .int a4]).toArray below meth c H locs 0 0 (vEQ below (mQ g A (mQr x)) ([.ref (mad g 0), .int a1, .int a2, .int a3, .int a4]).toArray s A) (F0 m 7 ls []) := by
    intro n7
    induction n7 with
    | zero => intro x6_7 x5_7 x2_7 x3_7 β7 H locs ls h hI hl; rw [f_Mod_with_7] at h; cases h
    | succ n7 ih7 =>
      intro x6_7 x5_7 x2_7 x3_7 β7 H locs ls h hI hl
      rw [f_Mod_with_7] at h
      refine lv_iload hx hb d_Mod_with_7 (lv_at hl 0 rfl) ?_
      refine lv_iload_n hx hb d_Mod_with_9 rfl (lv_at hl 4 rfl) ?_
      refine lv_icmp_ge (tgt := 35) hx hb d_Mod_with_10 (by decide) (fun c1 => ?_) (fun c1 => ?_)
      · replace h := Eq.trans (if_pos c1).symm h
        refine lv_iload hx hb d_Mod_with_35 (lv_at hl 1 rfl) ?_
        exact mc_iret (w := x5_7) hx hb hr rfl hlocks E hI h d_Mod_with_37
      · replace h := Eq.trans (if_neg c1).symm h
        refine lv_aload_n hx hb d_Mod_with_13 rfl (lv_at hl 2 rfl) ?_
        refine lv_iload hx hb d_Mod_with_14 (lv_at hl 1 rfl) ?_
        refine lv_aload_n hx hb d_Mod_with_16 rfl (lv_at hl 2 rfl) ?_
        refine lv_iload_n hx hb d_Mod_with_17 rfl (lv_at hl 3 rfl) ?_
        refine lv_iload_n hx hb d_Mod_with_18 rfl (lv_at hl 4 rfl) ?_
        refine lv_iload hx hb d_Mod_with_19 (lv_at hl 0 rfl) ?_
        obtain ⟨v2, e3, h⟩ := Option.bind_eq_some_iff.mp h
        refine mg_p (As := [.int x2_7, .int x3_7, .int x6_7]) (rest := [.int x5_7, .ref (mad g 0)]) ((k_Mod_nth (l := l) (g := g) (α := β7) N x2_7 x3_7 x6_7) _ e3) S E hI kw_Mod_440 (Or.inl rfl) ⟨Nat.le_of_ble_eq_true rfl, Nat.le_of_ble_eq_true rfl⟩ (mv_Mod E hI) rfl hl.1 rfl (Nat.le_of_ble_eq_true rfl) d_Mod_with_21 rfl ?_
        refine mg_cI (As := [.int x5_7, .int v2]) (rest := []) h (k_Mod_apply (l := l) (g := g) (α := β7) N x5_7 v2) S hlocks hno E hI kw_Mod_350 ⟨Nat.le_of_ble_eq_true rfl, Nat.le_of_ble_eq_true rfl⟩ (mv_Mod E hI) rfl hl.1 rfl (Nat.le_of_ble_eq_true rfl) d_Mod_with_24 (fun v6 α4 H locs e5 h hI => ?_)
        refine lv_istore (lv' := [(5, .int v6), (6, .int x6_7), (0, .ref (mad g 0)), (2, .int x2_7), (3, .int x3_7)]) hx hb d_Mod_with_27 hl (by decide) rfl (fun ls hl => ?_)
        refine lv_iinc (v := (x6_7 + 1)) (lv' := [(6, .int (x6_7 + 1)), (5, .int v6), (0, .ref (mad g 0)), (2, .int x2_7), (3, .int x3_7)]) hx hb d_Mod_with_29 hl (k := 1) rfl rfl (by decide) rfl (fun ls hl => ?_)
        refine lv_goto (tgt := 7) hx hb d_Mod_with_32 (by decide) ?_
        exact ih7 (x6_7 + 1) v6 x2_7 x3_7 _ _ _ _ h hI (lv_sub hl [0, 1, 2, 3, 4] rfl)
  exact L7 N a4 a1 a2 a3 _ _ _ _ h hI (lv_sub hl [0, 1, 2, 4, 5] rfl)
def f_Mod_leveled (N : Nat) (a1 : Int32) (a2 : Int32) (α : mS) : Option (kO × mS) := mBi (f_Mod_mapped N 4 a1 0 0 a2 α) fun v3 α1 => (some (some (some v3), α1))
set_option maxHeartbeats 4000000 in
set_option maxRecDepth 100000 in
theorem k_Mod_leveled {l : Launch} {g : mG} {α : mS} (N : Nat) (a1 : Int32) (a2 : Int32)  : ∀ x, f_Mod_leveled N a1 a2 α = some x → mC l g y_Mod_leveled b_Mod_leveled 3 (some .int) (848) (23782) [.ref (mad g 0), .int a1, .int a2] α (mQr x) := by
  intro x h
  unfold f_Mod_leveled at h
  refine mc_ofW (by decide) (fun A p e s m args below meth c S hr hlocks hno hargs E hI => ?_)
  have hx := S.1
  have hb := S.2.1
  have hown := S.2.2.2.1
  have hT := S.2.2.2.2
  subst hargs
  have hl := lv_entry ([.ref (mad g 0), .int a1, .int a2]) (n := 3) (Nat.le_of_ble_eq_true rfl)
  rw [lg_entry_eq]
  generalize (lg_sl ([.ref (mad g 0), .int a1, .int a2]) ++ List.replicate (3 - (lg_sl ([.ref (mad g 0), .int a1, .int a2])).length) Slot.unset).toArray = ls at hl ⊢
  have hl : lv_has ls 3 [(0, .ref (mad g 0)), (1, .int a1), (2, .int a2)] := hl
  refine lv_aload_n hx hb d_Mod_leveled_0 rfl (lv_at hl 0 rfl) ?_
  refine lv_iconst (v := 4) hx hb d_Mod_leveled_1 (by decide) ?_
  refine lv_iload_n hx hb d_Mod_leveled_2 rfl (lv_at hl 1 rfl) ?_
  refine lv_iconst (v := 0) hx hb d_Mod_leveled_3 (by decide) ?_
  refine lv_iconst (v := 0) hx hb d_Mod_leveled_4 (by decide) ?_
  refine lv_iload_n hx hb d_Mod_leveled_5 rfl (lv_at hl 2 rfl) ?_
  refine mg_cI (As := [.int 4, .int a1, .int 0, .int 0, .int a2]) (rest := []) h (k_Mod_mapped (l := l) (g := g) (α := α) N 4 a1 0 0 a2) S hlocks hno E hI kw_Mod_359 ⟨Nat.le_of_ble_eq_true rfl, Nat.le_of_ble_eq_true rfl⟩ (mv_Mod E hI) rfl hl.1 rfl (Nat.le_of_ble_eq_true rfl) d_Mod_leveled_6 (fun v3 α1 H locs e2 h hI => ?_)
  exact mc_iret (w := v3) hx hb hr rfl hlocks E hI h d_Mod_leveled_9
def f_Mod_fits (N : Nat) (a1 : Int32) (α : mS) : Option (kO × mS) := if a1 < 0 ∨ 400000 ≤ (a1 : Int32).toNatClampNeg then none else (if 3000 < (α.2 6 (a1 : Int32).toNatClampNeg) then (some (none, (mTh α 10 (-1)))) else (if a1 < 0 ∨ 400000 ≤ (a1 : Int32).toNatClampNeg then none else (if (α.2 7 (a1 : Int32).toNatClampNeg) ≤ 200 then (some (some (some a1), α)) else (some (none, (mTh α 10 (-1)))))))
set_option maxHeartbeats 4000000 in
set_option maxRecDepth 100000 in
theorem k_Mod_fits {l : Launch} {g : mG} {α : mS} (N : Nat) (a1 : Int32)  : ∀ x, f_Mod_fits N a1 α = some x → mC l g y_Mod_fits b_Mod_fits 2 (some .int) (43) (1260) [.ref (mad g 0), .int a1] α (mQr x) := by
  intro x h
  unfold f_Mod_fits at h
  refine mc_ofW (by decide) (fun A p e s m args below meth c S hr hlocks hno hargs E hI => ?_)
  have hx := S.1
  have hb := S.2.1
  have hown := S.2.2.2.1
  have hT := S.2.2.2.2
  subst hargs
  have hl := lv_entry ([.ref (mad g 0), .int a1]) (n := 2) (Nat.le_of_ble_eq_true rfl)
  rw [lg_entry_eq]
  generalize (lg_sl ([.ref (mad g 0), .int a1]) ++ List.replicate (2 - (lg_sl ([.ref (mad g 0), .int a1])).length) Slot.unset).toArray = ls at hl ⊢
  have hl : lv_has ls 2 [(0, .ref (mad g 0)), (1, .int a1)] := hl
  refine lv_aload_n hx hb d_Mod_fits_0 rfl (lv_at hl 0 rfl) ?_
  refine mf_big S E hI vt_1283 d_Mod_fits_1 ?_
  refine lv_iload_n hx hb d_Mod_fits_4 rfl (lv_at hl 1 rfl) ?_
  by_cases c1 : a1 < 0 ∨ 400000 ≤ (a1 : Int32).toNatClampNeg
  · replace h := Eq.trans (if_pos c1).symm h
    cases h
  · replace h := Eq.trans (if_neg c1).symm h
    refine ml_big S E hI c1 d_Mod_fits_5 ?_
    refine lv_sipush (v := 3000) hx hb d_Mod_fits_6 (by decide) ?_
    refine lv_icmp_gt (tgt := 24) hx hb d_Mod_fits_9 (by decide) (fun c2 => ?_) (fun c2 => ?_)
    · replace h := Eq.trans (if_pos c2).symm h
      refine lv_bipush (v := 10) hx hb d_Mod_fits_24 (by decide) ?_
      refine mg_fails S E hI kw_Mod_323 hl.1 ⟨Nat.le_of_ble_eq_true rfl, Nat.le_of_ble_eq_true rfl⟩ (Nat.le_of_ble_eq_true rfl) d_Mod_fits_26 (fun q H locs hN => ?_)
      exact mg_athrow S hlocks hno E hN h d_Mod_fits_29
    · replace h := Eq.trans (if_neg c2).symm h
      refine lv_aload_n hx hb d_Mod_fits_12 rfl (lv_at hl 0 rfl) ?_
      refine mf_deep S E hI vt_1284 d_Mod_fits_13 ?_
      refine lv_iload_n hx hb d_Mod_fits_16 rfl (lv_at hl 1 rfl) ?_
      by_cases c3 : a1 < 0 ∨ 400000 ≤ (a1 : Int32).toNatClampNeg
      · replace h := Eq.trans (if_pos c3).symm h
        cases h
      · replace h := Eq.trans (if_neg c3).symm h
        refine ml_deep S E hI c3 d_Mod_fits_17 ?_
        refine lv_sipush (v := 200) hx hb d_Mod_fits_18 (by decide) ?_
        refine lv_icmp_le (tgt := 30) hx hb d_Mod_fits_21 (by decide) (fun c4 => ?_) (fun c4 => ?_)
        · replace h := Eq.trans (if_pos c4).symm h
          refine lv_iload_n hx hb d_Mod_fits_30 rfl (lv_at hl 1 rfl) ?_
          exact mc_iret (w := a1) hx hb hr rfl hlocks E hI h d_Mod_fits_31
        · replace h := Eq.trans (if_neg c4).symm h
          refine lv_bipush (v := 10) hx hb d_Mod_fits_24 (by decide) ?_
          refine mg_fails S E hI kw_Mod_323 hl.1 ⟨Nat.le_of_ble_eq_true rfl, Nat.le_of_ble_eq_true rfl⟩ (Nat.le_of_ble_eq_true rfl) d_Mod_fits_26 (fun q H locs hN => ?_)
          exact mg_athrow S hlocks hno E hN h d_Mod_fits_29
