def f_Mod_fresh (N : Nat) (a1 : Int32) (α : mS) : Option (kO × mS) := if (α.1 23) < 0 ∨ 66000 ≤ ((α.1 23) : Int32).toNatClampNeg then none else (mBi (f_Mod_free N (α.1 23) (mSi (mSA α 32 (upd (α.2 32) ((α.1 23) : Int32).toNatClampNeg a1)) 23 ((α.1 23) + 1))) fun v4 α2 => (some (some (some v4), α2)))
set_option maxHeartbeats 4000000 in
set_option maxRecDepth 100000 in
theorem k_Mod_fresh {l : Launch} {g : mG} {α : mS} (N : Nat) (a1 : Int32)  : ∀ x, f_Mod_fresh N a1 α = some x → mC l g y_Mod_fresh b_Mod_fresh 2 (some .int) (45) (1306) [.ref (mad g 0), .int a1] α (mQr x) := by
  intro x h
  unfold f_Mod_fresh at h
  refine mc_ofW (by decide) (fun A p e s m args below meth c S hr hlocks hno hargs E hI => ?_)
  have hx := S.1
  have hb := S.2.1
  have hown := S.2.2.2.1
  have hT := S.2.2.2.2
  subst hargs
  have hl := lv_entry ([.ref (mad g 0), .int a1]) (n := 2) (Nat.le_of_ble_eq_true rfl)
  rw [lg_entry_eq]
  generalize (lg_sl ([.ref (mad g 0), .int a1]) ++ List.replicate (2 - (lg_sl ([.ref (mad g 0), .int a1])).length) Slot.unset).toArray = ls at hl ⊢
  have hl : lv_has ls 2 [(0, .ref (mad g 0)), (1, .int a1)] := hl
  refine lv_aload_n hx hb d_Mod_fresh_0 rfl (lv_at hl 0 rfl) ?_
  refine mf_typeOfVariable S E hI vt_1325 d_Mod_fresh_1 ?_
  refine lv_aload_n hx hb d_Mod_fresh_4 rfl (lv_at hl 0 rfl) ?_
  refine mf_variables S E hI vt_1323 d_Mod_fresh_5 ?_
  refine lv_iload_n hx hb d_Mod_fresh_8 rfl (lv_at hl 1 rfl) ?_
  by_cases c1 : (α.1 23) < 0 ∨ 66000 ≤ ((α.1 23) : Int32).toNatClampNeg
  · replace h := Eq.trans (if_pos c1).symm h
    cases h
  · replace h := Eq.trans (if_neg c1).symm h
    refine ms_typeOfVariable S E hI c1 d_Mod_fresh_9 (fun H locs hI => ?_)
    refine lv_aload_n hx hb d_Mod_fresh_10 rfl (lv_at hl 0 rfl) ?_
    refine lv_aload_n hx hb d_Mod_fresh_11 rfl (lv_at hl 0 rfl) ?_
    refine lv_dup hx hb d_Mod_fresh_12 rfl ?_
    refine mf_variables S E hI vt_1323 d_Mod_fresh_13 ?_
    refine lv_dup_x1 hx hb d_Mod_fresh_16 rfl rfl ?_
    refine lv_iconst (v := 1) hx hb d_Mod_fresh_17 (by decide) ?_
    refine lv_iadd hx hb d_Mod_fresh_18 ?_
    refine mp_variables S E hI vt_1323 d_Mod_fresh_19 (fun H locs hI => ?_)
    refine mg_cI (As := [.int (α.1 23)]) (rest := []) h (k_Mod_free (l := l) (g := g) (α := (mSi (mSA α 32 (upd (α.2 32) ((α.1 23) : Int32).toNatClampNeg a1)) 23 ((α.1 23) + 1))) N (α.1 23)) S hlocks hno E hI kw_Mod_353 ⟨Nat.le_of_ble_eq_true rfl, Nat.le_of_ble_eq_true rfl⟩ (mv_Mod E hI) rfl hl.1 rfl (Nat.le_of_ble_eq_true rfl) d_Mod_fresh_22 (fun v4 α2 H locs e3 h hI => ?_)
    exact mc_iret (w := v4) hx hb hr rfl hlocks E hI h d_Mod_fresh_25
def f_Mod_open (N : Nat) (a1 : Int32) (a2 : Int32) (α : mS) : Option (kO × mS) := mBi (f_Mod_opened N a1 a2 α) fun v3 α1 => (mBi (f_Mod_fits N v3 α1) fun v6 α4 => (if v6 < 0 ∨ 400000 ≤ (v6 : Int32).toNatClampNeg then none else (mBv (f_Mod_costs N (α4.2 6 (v6 : Int32).toNatClampNeg) α4) fun α8 => (some (some (some v6), α8)))))
set_option maxHeartbeats 4000000 in
set_option maxRecDepth 100000 in
theorem k_Mod_open {l : Launch} {g : mG} {α : mS} (N : Nat) (a1 : Int32) (a2 : Int32)  : ∀ x, f_Mod_open N a1 a2 α = some x → mC l g y_Mod_open b_Mod_open 4 (some .int) (850) (23826) [.ref (mad g 0), .int a1, .int a2] α (mQr x) := by
  intro x h
  unfold f_Mod_open at h
  refine mc_ofW (by decide) (fun A p e s m args below meth c S hr hlocks hno hargs E hI => ?_)
  have hx := S.1
  have hb := S.2.1
  have hown := S.2.2.2.1
  have hT := S.2.2.2.2
  subst hargs
  have hl := lv_entry ([.ref (mad g 0), .int a1, .int a2]) (n := 4) (Nat.le_of_ble_eq_true rfl)
  rw [lg_entry_eq]
  generalize (lg_sl ([.ref (mad g 0), .int a1, .int a2]) ++ List.replicate (4 - (lg_sl ([.ref (mad g 0), .int a1, .int a2])).length) Slot.unset).toArray = ls at hl ⊢
  have hl : lv_has ls 4 [(0, .ref (mad g 0)), (1, .int a1), (2, .int a2)] := hl
  refine lv_aload_n hx hb d_Mod_open_0 rfl (lv_at hl 0 rfl) ?_
  refine lv_aload_n hx hb d_Mod_open_1 rfl (lv_at hl 0 rfl) ?_
  refine lv_iload_n hx hb d_Mod_open_2 rfl (lv_at hl 1 rfl) ?_
  refine lv_iload_n hx hb d_Mod_open_3 rfl (lv_at hl 2 rfl) ?_
  refine mg_cI (As := [.int a1, .int a2]) (rest := [.ref (mad g 0)]) h (k_Mod_opened (l := l) (g := g) (α := α) N a1 a2) S hlocks hno E hI kw_Mod_431 ⟨Nat.le_of_ble_eq_true rfl, Nat.le_of_ble_eq_true rfl⟩ (mv_Mod E hI) rfl hl.1 rfl (Nat.le_of_ble_eq_true rfl) d_Mod_open_4 (fun v3 α1 H locs e2 h hI => ?_)
  refine mg_cI (As := [.int v3]) (rest := []) h (k_Mod_fits (l := l) (g := g) (α := α1) N v3) S hlocks hno E hI kw_Mod_402 ⟨Nat.le_of_ble_eq_true rfl, Nat.le_of_ble_eq_true rfl⟩ (mv_Mod E hI) rfl hl.1 rfl (Nat.le_of_ble_eq_true rfl) d_Mod_open_7 (fun v6 α4 H locs e5 h hI => ?_)
  refine lv_istore_n (lv' := [(3, .int v6), (0, .ref (mad g 0)), (1, .int a1), (2, .int a2)]) hx hb d_Mod_open_10 rfl hl (by decide) rfl (fun ls hl => ?_)
  refine lv_aload_n hx hb d_Mod_open_11 rfl (lv_at hl 1 rfl) ?_
  refine lv_aload_n hx hb d_Mod_open_12 rfl (lv_at hl 1 rfl) ?_
  refine mf_big S E hI vt_1283 d_Mod_open_13 ?_
  refine lv_iload_n hx hb d_Mod_open_16 rfl (lv_at hl 0 rfl) ?_
  by_cases c7 : v6 < 0 ∨ 400000 ≤ (v6 : Int32).toNatClampNeg
  · replace h := Eq.trans (if_pos c7).symm h
    cases h
  · replace h := Eq.trans (if_neg c7).symm h
    refine ml_big S E hI c7 d_Mod_open_17 ?_
    refine mg_cV (As := [.int (α4.2 6 (v6 : Int32).toNatClampNeg)]) (rest := []) h (k_Mod_costs (l := l) (g := g) (α := α4) N (α4.2 6 (v6 : Int32).toNatClampNeg)) S hlocks hno E hI kw_Mod_434 ⟨Nat.le_of_ble_eq_true rfl, Nat.le_of_ble_eq_true rfl⟩ (mv_Mod E hI) rfl hl.1 rfl (Nat.le_of_ble_eq_true rfl) d_Mod_open_18 (fun α8 H locs e9 h hI => ?_)
    refine lv_iload_n hx hb d_Mod_open_21 rfl (lv_at hl 0 rfl) ?_
    exact mc_iret (w := v6) hx hb hr rfl hlocks E hI h d_Mod_open_22
