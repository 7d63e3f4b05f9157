def f_Mod_head_2 (N : Nat)  (α : mS) : Nat → Int32 → Option Int32
  | 0, _ => none
  | n + 1, x2_2 => if x2_2 < 0 ∨ 400000 ≤ (x2_2 : Int32).toNatClampNeg then none else (if (α.2 2 (x2_2 : Int32).toNatClampNeg) = 8 then (if x2_2 < 0 ∨ 400000 ≤ (x2_2 : Int32).toNatClampNeg then none else (f_Mod_head_2 N α n (α.2 3 (x2_2 : Int32).toNatClampNeg))) else (some x2_2))
def f_Mod_head (N : Nat) (a1 : Int32) (α : mS) : Option Int32 := f_Mod_head_2 N α N a1
set_option maxHeartbeats 4000000 in
set_option maxRecDepth 100000 in
theorem k_Mod_head {l : Launch} {g : mG} {α : mS} (N : Nat) (a1 : Int32)  : ∀ x, f_Mod_head N a1 α = some x → mV l g y_Mod_head b_Mod_head 3 (some .int) (1) (1) [.ref (mad g 0), .int a1] α x := by
  intro x h
  unfold f_Mod_head at h
  refine mv_ofW (by decide) (fun A p e s m args below meth c S hr hlocks hargs E hI => ?_)
  have hx := S.1
  have hb := S.2.1
  have hown := S.2.2.2.1
  have hT := S.2.2.2.2
  subst hargs
  have hl := lv_entry ([.ref (mad g 0), .int a1]) (n := 3) (Nat.le_of_ble_eq_true rfl)
  rw [lg_entry_eq]
  generalize (lg_sl ([.ref (mad g 0), .int a1]) ++ List.replicate (3 - (lg_sl ([.ref (mad g 0), .int a1])).length) Slot.unset).toArray = ls at hl ⊢
  have hl : lv_has ls 3 [(0, .ref (mad g 0)), (1, .int a1)] := hl
  refine lv_iload_n hx hb d_Mod_head_0 rfl (lv_at hl 1 rfl) ?_
  refine lv_istore_n (lv' := [(2, .int a1), (0, .ref (mad g 0)), (1, .int a1)]) hx hb d_Mod_head_1 rfl hl (by decide) rfl (fun ls hl => ?_)
  have L2 : ∀ (n2 : Nat) (x2_2 : Int32) (ls : Array Slot), f_Mod_head_2 N α n2 x2_2 = some x → lv_has ls 3 [(2, .int x2_2), (0, .ref (mad g 0))] → W p l e (mP (1) (1)) s m ([.ref (mad g 0), .int a1]).toArray below meth c s.heap [] 0 0 (MQ below (QcRead x) ([.ref (mad g 0), .int a1]).toArray s 0 0 (fun _ => False)) (F0 m 2 ls []) := by
    intro n2
    induction n2 with
    | zero => intro x2_2 ls h hl; rw [f_Mod_head_2] at h; cases h
    | succ n2 ih2 =>
      intro x2_2 ls h hl
      rw [f_Mod_head_2] at h
      refine lv_aload_n hx hb d_Mod_head_2 rfl (lv_at hl 1 rfl) ?_
      refine mf_kind S E hI vt_1279 d_Mod_head_3 ?_
      refine lv_iload_n hx hb d_Mod_head_6 rfl (lv_at hl 0 rfl) ?_
      by_cases c1 : x2_2 < 0 ∨ 400000 ≤ (x2_2 : Int32).toNatClampNeg
      · replace h := Eq.trans (if_pos c1).symm h
        cases h
      · replace h := Eq.trans (if_neg c1).symm h
        refine ml_kind S E hI c1 d_Mod_head_7 ?_
        refine lv_bipush (v := 8) hx hb d_Mod_head_8 (by decide) ?_
        refine lv_icmp_ne (tgt := 23) hx hb d_Mod_head_10 (by decide) (fun c2 => ?_) (fun c2 => ?_)
        · replace h := Eq.trans (if_neg c2).symm h
          refine lv_iload_n hx hb d_Mod_head_23 rfl (lv_at hl 0 rfl) ?_
          exact kv_iret (w := x2_2) hx hb hr rfl hlocks (Option.some.inj h) d_Mod_head_24
        · replace h := Eq.trans (if_pos c2).symm h
          refine lv_aload_n hx hb d_Mod_head_13 rfl (lv_at hl 1 rfl) ?_
          refine mf_one S E hI vt_1280 d_Mod_head_14 ?_
          refine lv_iload_n hx hb d_Mod_head_17 rfl (lv_at hl 0 rfl) ?_
          by_cases c3 : x2_2 < 0 ∨ 400000 ≤ (x2_2 : Int32).toNatClampNeg
          · replace h := Eq.trans (if_pos c3).symm h
            cases h
          · replace h := Eq.trans (if_neg c3).symm h
            refine ml_one S E hI c3 d_Mod_head_18 ?_
            refine lv_istore_n (lv' := [(2, .int (α.2 3 (x2_2 : Int32).toNatClampNeg)), (0, .ref (mad g 0))]) hx hb d_Mod_head_19 rfl hl (by decide) rfl (fun ls hl => ?_)
            refine lv_goto (tgt := 2) hx hb d_Mod_head_20 (by decide) ?_
            exact ih2 (α.2 3 (x2_2 : Int32).toNatClampNeg) _ h (lv_sub hl [0, 1] rfl)
  exact L2 N a1 _ h (lv_sub hl [0, 1] rfl)
def f_Mod_behind_4 (N : Nat)  (α : mS) : Nat → Int32 → Int32 → Option Int32
  | 0, _, _ => none
  | n + 1, x3_4, x2_4 => if x3_4 < 0 ∨ 400000 ≤ (x3_4 : Int32).toNatClampNeg then none else (if (α.2 2 (x3_4 : Int32).toNatClampNeg) = 8 then (if x3_4 < 0 ∨ 400000 ≤ (x3_4 : Int32).toNatClampNeg then none else (f_Mod_behind_4 N α n (α.2 3 (x3_4 : Int32).toNatClampNeg) (x2_4 + 1))) else (some x2_4))
def f_Mod_behind (N : Nat) (a1 : Int32) (α : mS) : Option Int32 := f_Mod_behind_4 N α N a1 0
set_option maxHeartbeats 4000000 in
set_option maxRecDepth 100000 in
theorem k_Mod_behind {l : Launch} {g : mG} {α : mS} (N : Nat) (a1 : Int32)  : ∀ x, f_Mod_behind N a1 α = some x → mV l g y_Mod_behind b_Mod_behind 4 (some .int) (1) (1) [.ref (mad g 0), .int a1] α x := by
  intro x h
  unfold f_Mod_behind at h
  refine mv_ofW (by decide) (fun A p e s m args below meth c S hr hlocks hargs E hI => ?_)
  have hx := S.1
  have hb := S.2.1
  have hown := S.2.2.2.1
  have hT := S.2.2.2.2
  subst hargs
  have hl := lv_entry ([.ref (mad g 0), .int a1]) (n := 4) (Nat.le_of_ble_eq_true rfl)
  rw [lg_entry_eq]
  generalize (lg_sl ([.ref (mad g 0), .int a1]) ++ List.replicate (4 - (lg_sl ([.ref (mad g 0), .int a1])).length) Slot.unset).toArray = ls at hl ⊢
  have hl : lv_has ls 4 [(0, .ref (mad g 0)), (1, .int a1)] := hl
  refine lv_iconst (v := 0) hx hb d_Mod_behind_0 (by decide) ?_
  refine lv_istore_n (lv' := [(2, .int 0), (0, .ref (mad g 0)), (1, .int a1)]) hx hb d_Mod_behind_1 rfl hl (by decide) rfl (fun ls hl => ?_)
  refine lv_iload_n hx hb d_Mod_behind_2 rfl (lv_at hl 2 rfl) ?_
  refine lv_istore_n (lv' := [(3, .int a1), (2, .int 0), (0, .ref (mad g 0)), (1, .int a1)]) hx hb d_Mod_behind_3 rfl hl (by decide) rfl (fun ls hl => ?_)
  have L4 : ∀ (n4 : Nat) (x3_4 : Int32) (x2_4 : Int32) (ls : Array Slot), f_Mod_behind_4 N α n4 x3_4 x2_4 = some x → lv_has ls 4 [(3, .int x3_4), (2, .int x2_4), (0, .ref (mad g 0))] → W p l e (mP (1) (1)) s m ([.ref (mad g 0), .int a1]).toArray below meth c s.heap [] 0 0 (MQ below (QcRead x) ([.ref (mad g 0), .int a1]).toArray s 0 0 (fun _ => False)) (F0 m 4 ls []) := by
    intro n4
    induction n4 with
    | zero => intro x3_4 x2_4 ls h hl; rw [f_Mod_behind_4] at h; cases h
    | succ n4 ih4 =>
      intro x3_4 x2_4 ls h hl
      rw [f_Mod_behind_4] at h
      refine lv_aload_n hx hb d_Mod_behind_4 rfl (lv_at hl 2 rfl) ?_
      refine mf_kind S E hI vt_1279 d_Mod_behind_5 ?_
      refine lv_iload_n hx hb d_Mod_behind_8 rfl (lv_at hl 0 rfl) ?_
      by_cases c1 : x3_4 < 0 ∨ 400000 ≤ (x3_4 : Int32).toNatClampNeg
      · replace h := Eq.trans (if_pos c1).symm h
        cases h
      · replace h := Eq.trans (if_neg c1).symm h
        refine ml_kind S E hI c1 d_Mod_behind_9 ?_
        refine lv_bipush (v := 8) hx hb d_Mod_behind_10 (by decide) ?_
        refine lv_icmp_ne (tgt := 28) hx hb d_Mod_behind_12 (by decide) (fun c2 => ?_) (fun c2 => ?_)
        · replace h := Eq.trans (if_neg c2).symm h
          refine lv_iload_n hx hb d_Mod_behind_28 rfl (lv_at hl 1 rfl) ?_
          exact kv_iret (w := x2_4) hx hb hr rfl hlocks (Option.some.inj h) d_Mod_behind_29
        · replace h := Eq.trans (if_pos c2).symm h
          refine lv_iinc (v := (x2_4 + 1)) (lv' := [(2, .int (x2_4 + 1)), (3, .int x3_4), (0, .ref (mad g 0))]) hx hb d_Mod_behind_15 hl (k := 1) rfl rfl (by decide) rfl (fun ls hl => ?_)
          refine lv_aload_n hx hb d_Mod_behind_18 rfl (lv_at hl 2 rfl) ?_
          refine mf_one S E hI vt_1280 d_Mod_behind_19 ?_
          refine lv_iload_n hx hb d_Mod_behind_22 rfl (lv_at hl 1 rfl) ?_
          by_cases c3 : x3_4 < 0 ∨ 400000 ≤ (x3_4 : Int32).toNatClampNeg
          · replace h := Eq.trans (if_pos c3).symm h
            cases h
          · replace h := Eq.trans (if_neg c3).symm h
            refine ml_one S E hI c3 d_Mod_behind_23 ?_
            refine lv_istore_n (lv' := [(3, .int (α.2 3 (x3_4 : Int32).toNatClampNeg)), (2, .int (x2_4 + 1)), (0, .ref (mad g 0))]) hx hb d_Mod_behind_24 rfl hl (by decide) rfl (fun ls hl => ?_)
            refine lv_goto (tgt := 4) hx hb d_Mod_behind_25 (by decide) ?_
            exact ih4 (α.2 3 (x3_4 : Int32).toNatClampNeg) (x2_4 + 1) _ h (lv_sub hl [0, 1, 2] rfl)
  exact L4 N a1 0 _ h (lv_sub hl [0, 1, 2] rfl)
