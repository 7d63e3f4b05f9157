def f_Mod_applied2_16 (N : Nat)  : Nat → Int32 → Int32 → mS → Option (kO × mS)
  | 0, _, _, _ => none
  | n + 1, x3_16, x2_16, β16 => if (β16.1 30) ≤ x3_16 then (some (some (some x2_16), β16)) else (if x3_16 < 0 ∨ 9000 ≤ (x3_16 : Int32).toNatClampNeg then none else (mBi (f_Mod_free N (β16.2 41 (x3_16 : Int32).toNatClampNeg) β16) fun v8 α6 => (mBi (f_Mod_apply N x2_16 v8 α6) fun v11 α9 => (f_Mod_applied2_16 N n (x3_16 + 1) v11 α9))))
def f_Mod_applied2 (N : Nat) (a1 : Int32) (α : mS) : Option (kO × mS) := mBi (f_Mod_free N a1 α) fun v3 α1 => (f_Mod_applied2_16 N N ((α1.1 30) - (α1.1 31)) v3 α1)
set_option maxHeartbeats 4000000 in
set_option maxRecDepth 100000 in
theorem k_Mod_applied2 {l : Launch} {g : mG} {α : mS} (N : Nat) (a1 : Int32)  : ∀ x, f_Mod_applied2 N a1 α = some x → mC l g y_Mod_applied2 b_Mod_applied2 4 (some .int) (45) (1307) [.ref (mad g 0), .int a1] α (mQr x) := by
  intro x h
  unfold f_Mod_applied2 at h
  refine mc_ofW (by decide) (fun A p e s m args below meth c S hr hlocks hno hargs E hI => ?_)
  have hx := S.1
  have hb := S.2.1
  have hown := S.2.2.2.1
  have hT := S.2.2.2.2
  subst hargs
  have hl := lv_entry ([.ref (mad g 0), .int a1]) (n := 4) (Nat.le_of_ble_eq_true rfl)
  rw [lg_entry_eq]
  generalize (lg_sl ([.ref (mad g 0), .int a1]) ++ List.replicate (4 - (lg_sl ([.ref (mad g 0), .int a1])).length) Slot.unset).toArray = ls at hl ⊢
  have hl : lv_has ls 4 [(0, .ref (mad g 0)), (1, .int a1)] := hl
  refine lv_aload_n hx hb d_Mod_applied2_0 rfl (lv_at hl 0 rfl) ?_
  refine lv_iload_n hx hb d_Mod_applied2_1 rfl (lv_at hl 1 rfl) ?_
  refine mg_cI (As := [.int a1]) (rest := []) h (k_Mod_free (l := l) (g := g) (α := α) N a1) S hlocks hno E hI kw_Mod_353 ⟨Nat.le_of_ble_eq_true rfl, Nat.le_of_ble_eq_true rfl⟩ (mv_Mod E hI) rfl hl.1 rfl (Nat.le_of_ble_eq_true rfl) d_Mod_applied2_2 (fun v3 α1 H locs e2 h hI => ?_)
  refine lv_istore_n (lv' := [(2, .int v3), (0, .ref (mad g 0)), (1, .int a1)]) hx hb d_Mod_applied2_5 rfl hl (by decide) rfl (fun ls hl => ?_)
  refine lv_aload_n hx hb d_Mod_applied2_6 rfl (lv_at hl 1 rfl) ?_
  refine mf_listed S E hI vt_1341 d_Mod_applied2_7 ?_
  refine lv_aload_n hx hb d_Mod_applied2_10 rfl (lv_at hl 1 rfl) ?_
  refine mf_xs S E hI vt_1344 d_Mod_applied2_11 ?_
  refine lv_isub hx hb d_Mod_applied2_14 ?_
  refine lv_istore_n (lv' := [(3, .int ((α1.1 30) - (α1.1 31))), (2, .int v3), (0, .ref (mad g 0)), (1, .int a1)]) hx hb d_Mod_applied2_15 rfl hl (by decide) rfl (fun ls hl => ?_)
  have L16 : ∀ (n16 : Nat) (x3_16 : Int32) (x2_16 : Int32) (β16 : mS) (H : Heap) (locs : List Loc) (ls : Array Slot), f_Mod_applied2_16 N n16 x3_16 x2_16 β16 = some x → mI g A s β16 H locs → lv_has ls 4 [(3, .int x3_16), (2, .int x2_16), (0, .ref (mad g 0))] → W p l e (mR (45) (1307)) s m ([.ref (mad g 0), .int a1]).toArray below meth c H locs 0 0 (vEQ below (mQ g A (mQr x)) ([.ref (mad g 0), .int a1]).toArray s A) (F0 m 16 ls []) := by
    intro n16
    induction n16 with
    | zero => intro x3_16 x2_16 β16 H locs ls h hI hl; rw [f_Mod_applied2_16] at h; cases h
    | succ n16 ih16 =>
      intro x3_16 x2_16 β16 H locs ls h hI hl
      rw [f_Mod_applied2_16] at h
      refine lv_iload_n hx hb d_Mod_applied2_16 rfl (lv_at hl 0 rfl) ?_
      refine lv_aload_n hx hb d_Mod_applied2_17 rfl (lv_at hl 2 rfl) ?_
      refine mf_listed S E hI vt_1341 d_Mod_applied2_18 ?_
      refine lv_icmp_ge (tgt := 46) hx hb d_Mod_applied2_21 (by decide) (fun c4 => ?_) (fun c4 => ?_)
      · replace h := Eq.trans (if_pos c4).symm h
        refine lv_iload_n hx hb d_Mod_applied2_46 rfl (lv_at hl 1 rfl) ?_
        exact mc_iret (w := x2_16) hx hb hr rfl hlocks E hI h d_Mod_applied2_47
      · replace h := Eq.trans (if_neg c4).symm h
        refine lv_aload_n hx hb d_Mod_applied2_24 rfl (lv_at hl 2 rfl) ?_
        refine lv_iload_n hx hb d_Mod_applied2_25 rfl (lv_at hl 1 rfl) ?_
        refine lv_aload_n hx hb d_Mod_applied2_26 rfl (lv_at hl 2 rfl) ?_
        refine lv_aload_n hx hb d_Mod_applied2_27 rfl (lv_at hl 2 rfl) ?_
        refine mf_list S E hI vt_1340 d_Mod_applied2_28 ?_
        refine lv_iload_n hx hb d_Mod_applied2_31 rfl (lv_at hl 0 rfl) ?_
        by_cases c5 : x3_16 < 0 ∨ 9000 ≤ (x3_16 : Int32).toNatClampNeg
        · replace h := Eq.trans (if_pos c5).symm h
          cases h
        · replace h := Eq.trans (if_neg c5).symm h
          refine ml_list S E hI c5 d_Mod_applied2_32 ?_
          refine mg_cI (As := [.int (β16.2 41 (x3_16 : Int32).toNatClampNeg)]) (rest := [.int x2_16, .ref (mad g 0)]) h (k_Mod_free (l := l) (g := g) (α := β16) N (β16.2 41 (x3_16 : Int32).toNatClampNeg)) S hlocks hno E hI kw_Mod_353 ⟨Nat.le_of_ble_eq_true rfl, Nat.le_of_ble_eq_true rfl⟩ (mv_Mod E hI) rfl hl.1 rfl (Nat.le_of_ble_eq_true rfl) d_Mod_applied2_33 (fun v8 α6 H locs e7 h hI => ?_)
          refine mg_cI (As := [.int x2_16, .int v8]) (rest := []) h (k_Mod_apply (l := l) (g := g) (α := α6) N x2_16 v8) S hlocks hno E hI kw_Mod_350 ⟨Nat.le_of_ble_eq_true rfl, Nat.le_of_ble_eq_true rfl⟩ (mv_Mod E hI) rfl hl.1 rfl (Nat.le_of_ble_eq_true rfl) d_Mod_applied2_36 (fun v11 α9 H locs e10 h hI => ?_)
          refine lv_istore_n (lv' := [(2, .int v11), (3, .int x3_16), (0, .ref (mad g 0))]) hx hb d_Mod_applied2_39 rfl hl (by decide) rfl (fun ls hl => ?_)
          refine lv_iinc (v := (x3_16 + 1)) (lv' := [(3, .int (x3_16 + 1)), (2, .int v11), (0, .ref (mad g 0))]) hx hb d_Mod_applied2_40 hl (k := 1) rfl rfl (by decide) rfl (fun ls hl => ?_)
          refine lv_goto (tgt := 16) hx hb d_Mod_applied2_43 (by decide) ?_
          exact ih16 (x3_16 + 1) v11 _ _ _ _ h hI (lv_sub hl [0, 1, 2] rfl)
  exact L16 N ((α1.1 30) - (α1.1 31)) v3 _ _ _ _ h hI (lv_sub hl [0, 1, 2] rfl)
def f_Mod_back (N : Nat) (a1 : Int32) (a2 : Int32) (α : mS) : Option (kO × mS) := mBi (f_Mod_mapped N 2 a1 0 a2 0 α) fun v3 α1 => (some (some (some v3), α1))
set_option maxHeartbeats 4000000 in
set_option maxRecDepth 100000 in
theorem k_Mod_back {l : Launch} {g : mG} {α : mS} (N : Nat) (a1 : Int32) (a2 : Int32)  : ∀ x, f_Mod_back N a1 a2 α = some x → mC l g y_Mod_back b_Mod_back 3 (some .int) (848) (23782) [.ref (mad g 0), .int a1, .int a2] α (mQr x) := by
  intro x h
  unfold f_Mod_back at h
  refine mc_ofW (by decide) (fun A p e s m args below meth c S hr hlocks hno hargs E hI => ?_)
  have hx := S.1
  have hb := S.2.1
  have hown := S.2.2.2.1
  have hT := S.2.2.2.2
  subst hargs
  have hl := lv_entry ([.ref (mad g 0), .int a1, .int a2]) (n := 3) (Nat.le_of_ble_eq_true rfl)
  rw [lg_entry_eq]
  generalize (lg_sl ([.ref (mad g 0), .int a1, .int a2]) ++ List.replicate (3 - (lg_sl ([.ref (mad g 0), .int a1, .int a2])).length) Slot.unset).toArray = ls at hl ⊢
  have hl : lv_has ls 3 [(0, .ref (mad g 0)), (1, .int a1), (2, .int a2)] := hl
  refine lv_aload_n hx hb d_Mod_back_0 rfl (lv_at hl 0 rfl) ?_
  refine lv_iconst (v := 2) hx hb d_Mod_back_1 (by decide) ?_
  refine lv_iload_n hx hb d_Mod_back_2 rfl (lv_at hl 1 rfl) ?_
  refine lv_iconst (v := 0) hx hb d_Mod_back_3 (by decide) ?_
  refine lv_iload_n hx hb d_Mod_back_4 rfl (lv_at hl 2 rfl) ?_
  refine lv_iconst (v := 0) hx hb d_Mod_back_5 (by decide) ?_
  refine mg_cI (As := [.int 2, .int a1, .int 0, .int a2, .int 0]) (rest := []) h (k_Mod_mapped (l := l) (g := g) (α := α) N 2 a1 0 a2 0) S hlocks hno E hI kw_Mod_359 ⟨Nat.le_of_ble_eq_true rfl, Nat.le_of_ble_eq_true rfl⟩ (mv_Mod E hI) rfl hl.1 rfl (Nat.le_of_ble_eq_true rfl) d_Mod_back_6 (fun v3 α1 H locs e2 h hI => ?_)
  exact mc_iret (w := v3) hx hb hr rfl hlocks E hI h d_Mod_back_9
def f_Mod_binds (N : Nat) (a1 : Int32) (α : mS) : Option Int32 := if a1 < 0 ∨ 400000 ≤ (a1 : Int32).toNatClampNeg then none else (if (α.2 2 (a1 : Int32).toNatClampNeg) = 6 then (some 1) else (if a1 < 0 ∨ 400000 ≤ (a1 : Int32).toNatClampNeg then none else (if (α.2 2 (a1 : Int32).toNatClampNeg) = 7 then (some 1) else (if a1 < 0 ∨ 400000 ≤ (a1 : Int32).toNatClampNeg then none else (if (α.2 2 (a1 : Int32).toNatClampNeg) = 9 then (some 1) else (some 0))))))
set_option maxHeartbeats 4000000 in
set_option maxRecDepth 100000 in
theorem k_Mod_binds {l : Launch} {g : mG} {α : mS} (N : Nat) (a1 : Int32)  : ∀ x, f_Mod_binds N a1 α = some x → mV l g y_Mod_binds b_Mod_binds 2 (some .boolean) (1) (1) [.ref (mad g 0), .int a1] α x := by
  intro x h
  unfold f_Mod_binds at h
  refine mv_ofW (by decide) (fun A p e s m args below meth c S hr hlocks hargs E hI => ?_)
  have hx := S.1
  have hb := S.2.1
  have hown := S.2.2.2.1
  have hT := S.2.2.2.2
  subst hargs
  have hl := lv_entry ([.ref (mad g 0), .int a1]) (n := 2) (Nat.le_of_ble_eq_true rfl)
  rw [lg_entry_eq]
  generalize (lg_sl ([.ref (mad g 0), .int a1]) ++ List.replicate (2 - (lg_sl ([.ref (mad g 0), .int a1])).length) Slot.unset).toArray = ls at hl ⊢
  have hl : lv_has ls 2 [(0, .ref (mad g 0)), (1, .int a1)] := hl
  refine lv_aload_n hx hb d_Mod_binds_0 rfl (lv_at hl 0 rfl) ?_
  refine mf_kind S E hI vt_1279 d_Mod_binds_1 ?_
  refine lv_iload_n hx hb d_Mod_binds_4 rfl (lv_at hl 1 rfl) ?_
  by_cases c1 : a1 < 0 ∨ 400000 ≤ (a1 : Int32).toNatClampNeg
  · replace h := Eq.trans (if_pos c1).symm h
    cases h
  · replace h := Eq.trans (if_neg c1).symm h
    refine ml_kind S E hI c1 d_Mod_binds_5 ?_
    refine lv_bipush (v := 6) hx hb d_Mod_binds_6 (by decide) ?_
    refine lv_icmp_eq (tgt := 33) hx hb d_Mod_binds_8 (by decide) (fun c2 => ?_) (fun c2 => ?_)
    · replace h := Eq.trans (if_pos c2).symm h
      refine lv_iconst (v := 1) hx hb d_Mod_binds_33 (by decide) ?_
      refine lv_goto (tgt := 38) hx hb d_Mod_binds_34 (by decide) ?_
      exact kv_iret (w := 1) hx hb hr (by decide) hlocks (Option.some.inj h) d_Mod_binds_38
    · replace h := Eq.trans (if_neg c2).symm h
      refine lv_aload_n hx hb d_Mod_binds_11 rfl (lv_at hl 0 rfl) ?_
      refine mf_kind S E hI vt_1279 d_Mod_binds_12 ?_
      refine lv_iload_n hx hb d_Mod_binds_15 rfl (lv_at hl 1 rfl) ?_
      by_cases c3 : a1 < 0 ∨ 400000 ≤ (a1 : Int32).toNatClampNeg
      · replace h := Eq.trans (if_pos c3).symm h
        cases h
      · replace h := Eq.trans (if_neg c3).symm h
        refine ml_kind S E hI c3 d_Mod_binds_16 ?_
        refine lv_bipush (v := 7) hx hb d_Mod_binds_17 (by decide) ?_
        refine lv_icmp_eq (tgt := 33) hx hb d_Mod_binds_19 (by decide) (fun c4 => ?_) (fun c4 => ?_)
        · replace h := Eq.trans (if_pos c4).symm h
          refine lv_iconst (v := 1) hx hb d_Mod_binds_33 (by decide) ?_
          refine lv_goto (tgt := 38) hx hb d_Mod_binds_34 (by decide) ?_
          exact kv_iret (w := 1) hx hb hr (by decide) hlocks (Option.some.inj h) d_Mod_binds_38
        · replace h := Eq.trans (if_neg c4).symm h
          refine lv_aload_n hx hb d_Mod_binds_22 rfl (lv_at hl 0 rfl) ?_
          refine mf_kind S E hI vt_1279 d_Mod_binds_23 ?_
          refine lv_iload_n hx hb d_Mod_binds_26 rfl (lv_at hl 1 rfl) ?_
          by_cases c5 : a1 < 0 ∨ 400000 ≤ (a1 : Int32).toNatClampNeg
          · replace h := Eq.trans (if_pos c5).symm h
            cases h
          · replace h := Eq.trans (if_neg c5).symm h
            refine ml_kind S E hI c5 d_Mod_binds_27 ?_
            refine lv_bipush (v := 9) hx hb d_Mod_binds_28 (by decide) ?_
            refine lv_icmp_ne (tgt := 37) hx hb d_Mod_binds_30 (by decide) (fun c6 => ?_) (fun c6 => ?_)
            · replace h := Eq.trans (if_neg c6).symm h
              refine lv_iconst (v := 0) hx hb d_Mod_binds_37 (by decide) ?_
              exact kv_iret (w := 0) hx hb hr (by decide) hlocks (Option.some.inj h) d_Mod_binds_38
            · replace h := Eq.trans (if_pos c6).symm h
              refine lv_iconst (v := 1) hx hb d_Mod_binds_33 (by decide) ?_
              refine lv_goto (tgt := 38) hx hb d_Mod_binds_34 (by decide) ?_
              exact kv_iret (w := 1) hx hb hr (by decide) hlocks (Option.some.inj h) d_Mod_binds_38
