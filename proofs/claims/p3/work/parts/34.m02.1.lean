def f_Mod_nth_8 (N : Nat)  (α : mS) : Nat → Int32 → Int32 → Int32 → Option Int32
  | 0, _, _, _ => none
  | n + 1, x5_8, x4_8, x3_8 => if x5_8 ≤ x3_8 then (if x4_8 < 0 ∨ 400000 ≤ (x4_8 : Int32).toNatClampNeg then none else (some (α.2 4 (x4_8 : Int32).toNatClampNeg))) else (if x4_8 < 0 ∨ 400000 ≤ (x4_8 : Int32).toNatClampNeg then none else (f_Mod_nth_8 N α n (x5_8 + (-1)) (α.2 3 (x4_8 : Int32).toNatClampNeg) x3_8))
def f_Mod_nth (N : Nat) (a1 : Int32) (a2 : Int32) (a3 : Int32) (α : mS) : Option Int32 := f_Mod_nth_8 N α N (a2 - 1) a1 a3
set_option maxHeartbeats 4000000 in
set_option maxRecDepth 100000 in
theorem k_Mod_nth {l : Launch} {g : mG} {α : mS} (N : Nat) (a1 : Int32) (a2 : Int32) (a3 : Int32)  : ∀ x, f_Mod_nth N a1 a2 a3 α = some x → mV l g y_Mod_nth b_Mod_nth 6 (some .int) (1) (1) [.ref (mad g 0), .int a1, .int a2, .int a3] α x := by
  intro x h
  unfold f_Mod_nth at h
  refine mv_ofW (by decide) (fun A p e s m args below meth c S hr hlocks hargs E hI => ?_)
  have hx := S.1
  have hb := S.2.1
  have hown := S.2.2.2.1
  have hT := S.2.2.2.2
  subst hargs
  have hl := lv_entry ([.ref (mad g 0), .int a1, .int a2, .int a3]) (n := 6) (Nat.le_of_ble_eq_true rfl)
  rw [lg_entry_eq]
  generalize (lg_sl ([.ref (mad g 0), .int a1, .int a2, .int a3]) ++ List.replicate (6 - (lg_sl ([.ref (mad g 0), .int a1, .int a2, .int a3])).length) Slot.unset).toArray = ls at hl ⊢
  have hl : lv_has ls 6 [(0, .ref (mad g 0)), (1, .int a1), (2, .int a2), (3, .int a3)] := hl
  refine lv_iload_n hx hb d_Mod_nth_0 rfl (lv_at hl 1 rfl) ?_
  refine lv_istore (lv' := [(4, .int a1), (0, .ref (mad g 0)), (1, .int a1), (2, .int a2), (3, .int a3)]) hx hb d_Mod_nth_1 hl (by decide) rfl (fun ls hl => ?_)
  refine lv_iload_n hx hb d_Mod_nth_3 rfl (lv_at hl 3 rfl) ?_
  refine lv_iconst (v := 1) hx hb d_Mod_nth_4 (by decide) ?_
  refine lv_isub hx hb d_Mod_nth_5 ?_
  refine lv_istore (lv' := [(5, .int (a2 - 1)), (4, .int a1), (0, .ref (mad g 0)), (1, .int a1), (2, .int a2), (3, .int a3)]) hx hb d_Mod_nth_6 hl (by decide) rfl (fun ls hl => ?_)
  have L8 : ∀ (n8 : Nat) (x5_8 : Int32) (x4_8 : Int32) (x3_8 : Int32) (ls : Array Slot), f_Mod_nth_8 N α n8 x5_8 x4_8 x3_8 = some x → lv_has ls 6 [(5, .int x5_8), (4, .int x4_8), (0, .ref (mad g 0)), (3, .int x3_8)] → W p l e (mP (1) (1)) s m ([.ref (mad g 0), .int a1, .int a2, .int a3]).toArray below meth c s.heap [] 0 0 (MQ below (QcRead x) ([.ref (mad g 0), .int a1, .int a2, .int a3]).toArray s 0 0 (fun _ => False)) (F0 m 8 ls []) := by
    intro n8
    induction n8 with
    | zero => intro x5_8 x4_8 x3_8 ls h hl; rw [f_Mod_nth_8] at h; cases h
    | succ n8 ih8 =>
      intro x5_8 x4_8 x3_8 ls h hl
      rw [f_Mod_nth_8] at h
      refine lv_iload hx hb d_Mod_nth_8 (lv_at hl 0 rfl) ?_
      refine lv_iload_n hx hb d_Mod_nth_10 rfl (lv_at hl 3 rfl) ?_
      refine lv_icmp_le (tgt := 29) hx hb d_Mod_nth_11 (by decide) (fun c1 => ?_) (fun c1 => ?_)
      · replace h := Eq.trans (if_pos c1).symm h
        refine lv_aload_n hx hb d_Mod_nth_29 rfl (lv_at hl 2 rfl) ?_
        refine mf_two S E hI vt_1281 d_Mod_nth_30 ?_
        refine lv_iload hx hb d_Mod_nth_33 (lv_at hl 1 rfl) ?_
        by_cases c2 : x4_8 < 0 ∨ 400000 ≤ (x4_8 : Int32).toNatClampNeg
        · replace h := Eq.trans (if_pos c2).symm h
          cases h
        · replace h := Eq.trans (if_neg c2).symm h
          refine ml_two S E hI c2 d_Mod_nth_35 ?_
          exact kv_iret (w := (α.2 4 (x4_8 : Int32).toNatClampNeg)) hx hb hr rfl hlocks (Option.some.inj h) d_Mod_nth_36
      · replace h := Eq.trans (if_neg c1).symm h
        refine lv_aload_n hx hb d_Mod_nth_14 rfl (lv_at hl 2 rfl) ?_
        refine mf_one S E hI vt_1280 d_Mod_nth_15 ?_
        refine lv_iload hx hb d_Mod_nth_18 (lv_at hl 1 rfl) ?_
        by_cases c3 : x4_8 < 0 ∨ 400000 ≤ (x4_8 : Int32).toNatClampNeg
        · replace h := Eq.trans (if_pos c3).symm h
          cases h
        · replace h := Eq.trans (if_neg c3).symm h
          refine ml_one S E hI c3 d_Mod_nth_20 ?_
          refine lv_istore (lv' := [(4, .int (α.2 3 (x4_8 : Int32).toNatClampNeg)), (5, .int x5_8), (0, .ref (mad g 0)), (3, .int x3_8)]) hx hb d_Mod_nth_21 hl (by decide) rfl (fun ls hl => ?_)
          refine lv_iinc (v := (x5_8 + (-1))) (lv' := [(5, .int (x5_8 + (-1))), (4, .int (α.2 3 (x4_8 : Int32).toNatClampNeg)), (0, .ref (mad g 0)), (3, .int x3_8)]) hx hb d_Mod_nth_23 hl (k := 1) rfl rfl (by decide) rfl (fun ls hl => ?_)
          refine lv_goto (tgt := 8) hx hb d_Mod_nth_26 (by decide) ?_
          exact ih8 (x5_8 + (-1)) (α.2 3 (x4_8 : Int32).toNatClampNeg) x3_8 _ h (lv_sub hl [0, 1, 2, 3] rfl)
  exact L8 N (a2 - 1) a1 a3 _ h (lv_sub hl [0, 1, 2, 5] rfl)
theorem kw_Mod_323 : kWs "FamilyKernelModel" 323 y_Mod_fails b_Mod_fails 1 (some (.object "FamilyKernelModel$Wrong")) 1 := ⟨vt_1463, vt_1464, vt_1349, vt_1465, by decide, by decide, by decide +kernel⟩
def f_Mod_costs (N : Nat) (a1 : Int32) (α : mS) : Option (kO × mS) := if ((α.1 22) + a1) ≤ 60000 then (some (some none, (mSi α 22 ((α.1 22) + a1)))) else (some (none, (mTh (mSi α 22 ((α.1 22) + a1)) 10 (-1))))
set_option maxHeartbeats 4000000 in
set_option maxRecDepth 100000 in
theorem k_Mod_costs {l : Launch} {g : mG} {α : mS} (N : Nat) (a1 : Int32)  : ∀ x, f_Mod_costs N a1 α = some x → mC l g y_Mod_costs b_Mod_costs 2 none (43) (1260) [.ref (mad g 0), .int a1] α (mQr x) := by
  intro x h
  unfold f_Mod_costs at h
  refine mc_ofW (by decide) (fun A p e s m args below meth c S hr hlocks hno hargs E hI => ?_)
  have hx := S.1
  have hb := S.2.1
  have hown := S.2.2.2.1
  have hT := S.2.2.2.2
  subst hargs
  have hl := lv_entry ([.ref (mad g 0), .int a1]) (n := 2) (Nat.le_of_ble_eq_true rfl)
  rw [lg_entry_eq]
  generalize (lg_sl ([.ref (mad g 0), .int a1]) ++ List.replicate (2 - (lg_sl ([.ref (mad g 0), .int a1])).length) Slot.unset).toArray = ls at hl ⊢
  have hl : lv_has ls 2 [(0, .ref (mad g 0)), (1, .int a1)] := hl
  refine lv_aload_n hx hb d_Mod_costs_0 rfl (lv_at hl 0 rfl) ?_
  refine lv_dup hx hb d_Mod_costs_1 rfl ?_
  refine mf_work S E hI vt_1322 d_Mod_costs_2 ?_
  refine lv_iload_n hx hb d_Mod_costs_5 rfl (lv_at hl 1 rfl) ?_
  refine lv_iadd hx hb d_Mod_costs_6 ?_
  refine mp_work S E hI vt_1322 d_Mod_costs_7 (fun H locs hI => ?_)
  refine lv_aload_n hx hb d_Mod_costs_10 rfl (lv_at hl 0 rfl) ?_
  refine mf_work S E hI vt_1322 d_Mod_costs_11 ?_
  refine lv_ldcw (v := 60000) hx hb hown (hT _ vt_1591) d_Mod_costs_14 ?_
  refine lv_icmp_le (tgt := 26) hx hb d_Mod_costs_17 (by decide) (fun c1 => ?_) (fun c1 => ?_)
  · replace h := Eq.trans (if_pos c1).symm h
    exact mc_vret hx hb hr hlocks E hI h d_Mod_costs_26
  · replace h := Eq.trans (if_neg c1).symm h
    refine lv_bipush (v := 10) hx hb d_Mod_costs_20 (by decide) ?_
    refine mg_fails S E hI kw_Mod_323 hl.1 ⟨Nat.le_of_ble_eq_true rfl, Nat.le_of_ble_eq_true rfl⟩ (Nat.le_of_ble_eq_true rfl) d_Mod_costs_22 (fun q H locs hN => ?_)
    exact mg_athrow S hlocks hno E hN h d_Mod_costs_25
