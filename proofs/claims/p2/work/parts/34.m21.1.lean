def f_Mod_small_33 (N : Nat)  (k10 : Int32 → Int32 → Int32 → Int32 → Option Int32) (α : mS) : Nat → Int32 → Int32 → Int32 → Int32 → Int32 → Int32 → Option Int32
  | 0, _, _, _, _, _, _ => none
  | n + 1, x6_33, x5_33, x4_33, x3_33, x1_33, x2_33 => if (x3_33 + x2_33) ≤ x6_33 then (if x5_33 = 0 then (some 0) else (k10 (x4_33 + 1) x3_33 x1_33 x2_33)) else (if 0 < 0 ∨ 301 ≤ (0 : Int32).toNatClampNeg then none else (((f_Mod_nth N (α.2 37 (0 : Int32).toNatClampNeg) (x3_33 + x2_33) x6_33 α)).bind fun v8 => (if x5_33 = 0 then (if v8 < 0 ∨ 400000 ≤ (v8 : Int32).toNatClampNeg then none else (if (α.2 2 (v8 : Int32).toNatClampNeg) = 3 then (if v8 < 0 ∨ 400000 ≤ (v8 : Int32).toNatClampNeg then none else (if x4_33 < 0 ∨ 4000 ≤ (x4_33 : Int32).toNatClampNeg then none else (if (α.2 3 (v8 : Int32).toNatClampNeg) = (α.2 38 (x4_33 : Int32).toNatClampNeg) then (f_Mod_small_33 N k10 α n (x6_33 + 1) 1 x4_33 x3_33 x1_33 x2_33) else (f_Mod_small_33 N k10 α n (x6_33 + 1) 0 x4_33 x3_33 x1_33 x2_33)))) else (f_Mod_small_33 N k10 α n (x6_33 + 1) 0 x4_33 x3_33 x1_33 x2_33))) else (f_Mod_small_33 N k10 α n (x6_33 + 1) 1 x4_33 x3_33 x1_33 x2_33))))
def f_Mod_small_10 (N : Nat)  (α : mS) : Nat → Int32 → Int32 → Int32 → Int32 → Option Int32
  | 0, _, _, _, _ => none
  | n + 1, x4_10, x3_10, x1_10, x2_10 => if x1_10 < 0 ∨ 301 ≤ (x1_10 : Int32).toNatClampNeg then none else (if (α.2 18 (x1_10 : Int32).toNatClampNeg) ≤ x4_10 then (some 1) else (if x4_10 < 0 ∨ 4000 ≤ (x4_10 : Int32).toNatClampNeg then none else (f_Mod_small_33 N (f_Mod_small_10 N α n) α N x3_10 (α.2 40 (x4_10 : Int32).toNatClampNeg) x4_10 x3_10 x1_10 x2_10)))
def f_Mod_small (N : Nat) (a1 : Int32) (a2 : Int32) (α : mS) : Option Int32 := if a1 < 0 ∨ 301 ≤ (a1 : Int32).toNatClampNeg then none else (f_Mod_small_10 N α N 0 (α.2 15 (a1 : Int32).toNatClampNeg) a1 a2)
set_option maxHeartbeats 4000000 in
set_option maxRecDepth 100000 in
theorem k_Mod_small {l : Launch} {g : mG} {α : mS} (N : Nat) (a1 : Int32) (a2 : Int32)  : ∀ x, f_Mod_small N a1 a2 α = some x → mV l g y_Mod_small b_Mod_small 8 (some .boolean) (2) (26) [.ref (mad g 0), .int a1, .int a2] α x := by
  intro x h
  unfold f_Mod_small at h
  refine mv_ofW (by decide) (fun A p e s m args below meth c S hr hlocks hargs E hI => ?_)
  have hx := S.1
  have hb := S.2.1
  have hown := S.2.2.2.1
  have hT := S.2.2.2.2
  subst hargs
  have hl := lv_entry ([.ref (mad g 0), .int a1, .int a2]) (n := 8) (Nat.le_of_ble_eq_true rfl)
  rw [lg_entry_eq]
  generalize (lg_sl ([.ref (mad g 0), .int a1, .int a2]) ++ List.replicate (8 - (lg_sl ([.ref (mad g 0), .int a1, .int a2])).length) Slot.unset).toArray = ls at hl ⊢
  have hl : lv_has ls 8 [(0, .ref (mad g 0)), (1, .int a1), (2, .int a2)] := hl
  refine lv_aload_n hx hb d_Mod_small_0 rfl (lv_at hl 0 rfl) ?_
  refine mf_parameters S E hI vt_1299 d_Mod_small_1 ?_
  refine lv_iload_n hx hb d_Mod_small_4 rfl (lv_at hl 1 rfl) ?_
  by_cases c1 : a1 < 0 ∨ 301 ≤ (a1 : Int32).toNatClampNeg
  · replace h := Eq.trans (if_pos c1).symm h
    cases h
  · replace h := Eq.trans (if_neg c1).symm h
    refine ml_parameters S E hI c1 d_Mod_small_5 ?_
    refine lv_istore_n (lv' := [(3, .int (α.2 15 (a1 : Int32).toNatClampNeg)), (0, .ref (mad g 0)), (1, .int a1), (2, .int a2)]) hx hb d_Mod_small_6 rfl hl (by decide) rfl (fun ls hl => ?_)
    refine lv_iconst (v := 0) hx hb d_Mod_small_7 (by decide) ?_
    refine lv_istore (lv' := [(4, .int 0), (3, .int (α.2 15 (a1 : Int32).toNatClampNeg)), (0, .ref (mad g 0)), (1, .int a1), (2, .int a2)]) hx hb d_Mod_small_8 hl (by decide) rfl (fun ls hl => ?_)
    have L10 : ∀ (n10 : Nat) (x4_10 : Int32) (x3_10 : Int32) (x1_10 : Int32) (x2_10 : Int32) (ls : Array Slot), f_Mod_small_10 N α n10 x4_10 x3_10 x1_10 x2_10 = some x → lv_has ls 8 [(4, .int x4_10), (3, .int x3_10), (0, .ref (mad g 0)), (1, .int x1_10), (2, .int x2_10)] → W p l e (mP (2) (26)) s m ([.ref (mad g 0), .int a1, .int a2]).toArray below meth c s.heap [] 0 0 (MQ below (QcRead x) ([.ref (mad g 0), .int a1, .int a2]).toArray s 0 0 (fun _ => False)) (F0 m 10 ls []) := by
      intro n10
      induction n10 with
      | zero => intro x4_10 x3_10 x1_10 x2_10 ls h hl; rw [f_Mod_small_10] at h; cases h
      | succ n10 ih10 =>
        intro x4_10 x3_10 x1_10 x2_10 ls h hl
        rw [f_Mod_small_10] at h
        refine lv_iload hx hb d_Mod_small_10 (lv_at hl 0 rfl) ?_
        refine lv_aload_n hx hb d_Mod_small_12 rfl (lv_at hl 2 rfl) ?_
        refine mf_arguments S E hI vt_1302 d_Mod_small_13 ?_
        refine lv_iload_n hx hb d_Mod_small_16 rfl (lv_at hl 3 rfl) ?_
        by_cases c2 : x1_10 < 0 ∨ 301 ≤ (x1_10 : Int32).toNatClampNeg
        · replace h := Eq.trans (if_pos c2).symm h
          cases h
        · replace h := Eq.trans (if_neg c2).symm h
          refine ml_arguments S E hI c2 d_Mod_small_17 ?_
          refine lv_icmp_ge (tgt := 117) hx hb d_Mod_small_18 (by decide) (fun c3 => ?_) (fun c3 => ?_)
          · replace h := Eq.trans (if_pos c3).symm h
            refine lv_iconst (v := 1) hx hb d_Mod_small_117 (by decide) ?_
            exact kv_iret (w := 1) hx hb hr (by decide) hlocks (Option.some.inj h) d_Mod_small_118
          · replace h := Eq.trans (if_neg c3).symm h
            refine lv_aload_n hx hb d_Mod_small_21 rfl (lv_at hl 2 rfl) ?_
            refine mf_isProof S E hI vt_1338 d_Mod_small_22 ?_
            refine lv_iload hx hb d_Mod_small_25 (lv_at hl 0 rfl) ?_
            by_cases c4 : x4_10 < 0 ∨ 4000 ≤ (x4_10 : Int32).toNatClampNeg
            · replace h := Eq.trans (if_pos c4).symm h
              cases h
            · replace h := Eq.trans (if_neg c4).symm h
              refine ml_isProof S E hI c4 d_Mod_small_27 ?_
              refine lv_istore (lv' := [(5, .int (α.2 40 (x4_10 : Int32).toNatClampNeg)), (4, .int x4_10), (3, .int x3_10), (0, .ref (mad g 0)), (1, .int x1_10), (2, .int x2_10)]) hx hb d_Mod_small_28 hl (by decide) rfl (fun ls hl => ?_)
              refine lv_iload_n hx hb d_Mod_small_30 rfl (lv_at hl 2 rfl) ?_
              refine lv_istore (lv' := [(6, .int x3_10), (5, .int (α.2 40 (x4_10 : Int32).toNatClampNeg)), (4, .int x4_10), (3, .int x3_10), (0, .ref (mad g 0)), (1, .int x1_10), (2, .int x2_10)]) hx hb d_Mod_small_31 hl (by decide) rfl (fun ls hl => ?_)
              have L33 : ∀ (n33 : Nat) (x6_33 : Int32) (x5_33 : Int32) (x4_33 : Int32) (x3_33 : Int32) (x1_33 : Int32) (x2_33 : Int32) (ls : Array Slot), f_Mod_small_33 N (f_Mod_small_10 N α n10) α n33 x6_33 x5_33 x4_33 x3_33 x1_33 x2_33 = some x → lv_has ls 8 [(6, .int x6_33), (5, .int x5_33), (4, .int x4_33), (3, .int x3_33), (0, .ref (mad g 0)), (1, .int x1_33), (2, .int x2_33)] → W p l e (mP (2) (26)) s m ([.ref (mad g 0), .int a1, .int a2]).toArray below meth c s.heap [] 0 0 (MQ below (QcRead x) ([.ref (mad g 0), .int a1, .int a2]).toArray s 0 0 (fun _ => False)) (F0 m 33 ls []) := by
                intro n33
                induction n33 with
                | zero => intro x6_33 x5_33 x4_33 x3_33 x1_33 x2_33 ls h hl; rw [f_Mod_small_33] at h; cases h
                | succ n33 ih33 =>
                  intro x6_33 x5_33 x4_33 x3_33 x1_33 x2_33 ls h hl
                  rw [f_Mod_small_33] at h
                  refine lv_iload hx hb d_Mod_small_33 (lv_at hl 0 rfl) ?_
                  refine lv_iload_n hx hb d_Mod_small_35 rfl (lv_at hl 3 rfl) ?_
                  refine lv_iload_n hx hb d_Mod_small_36 rfl (lv_at hl 6 rfl) ?_
                  refine lv_iadd hx hb d_Mod_small_37 ?_
                  refine lv_icmp_ge (tgt := 104) hx hb d_Mod_small_38 (by decide) (fun c5 => ?_) (fun c5 => ?_)
                  · replace h := Eq.trans (if_pos c5).symm h
                    refine lv_iload hx hb d_Mod_small_104 (lv_at hl 1 rfl) ?_
                    refine lv_if_ne (tgt := 111) hx hb d_Mod_small_106 (by decide) (fun c6 => ?_) (fun c6 => ?_)
                    · replace h := Eq.trans (if_neg c6).symm h
                      refine lv_iinc (v := (x4_33 + 1)) (lv' := [(4, .int (x4_33 + 1)), (6, .int x6_33), (5, .int x5_33), (3, .int x3_33), (0, .ref (mad g 0)), (1, .int x1_33), (2, .int x2_33)]) hx hb d_Mod_small_111 hl (k := 2) rfl rfl (by decide) rfl (fun ls hl => ?_)
                      refine lv_goto (tgt := 10) hx hb d_Mod_small_114 (by decide) ?_
                      exact ih10 (x4_33 + 1) x3_33 x1_33 x2_33 _ h (lv_sub hl [0, 3, 4, 5, 6] rfl)
                    · replace h := Eq.trans (if_pos c6).symm h
                      refine lv_iconst (v := 0) hx hb d_Mod_small_109 (by decide) ?_
                      exact kv_iret (w := 0) hx hb hr (by decide) hlocks (Option.some.inj h) d_Mod_small_110
                  · replace h := Eq.trans (if_neg c5).symm h
                    refine lv_aload_n hx hb d_Mod_small_41 rfl (lv_at hl 4 rfl) ?_
                    refine lv_aload_n hx hb d_Mod_small_42 rfl (lv_at hl 4 rfl) ?_
                    refine mf_endAt S E hI vt_1335 d_Mod_small_43 ?_
                    refine lv_iconst (v := 0) hx hb d_Mod_small_46 (by decide) ?_
                    by_cases c7 : 0 < 0 ∨ 301 ≤ (0 : Int32).toNatClampNeg
                    · replace h := Eq.trans (if_pos c7).symm h
                      cases h
                    · replace h := Eq.trans (if_neg c7).symm h
                      refine ml_endAt S E hI c7 d_Mod_small_47 ?_
                      refine lv_iload_n hx hb d_Mod_small_48 rfl (lv_at hl 3 rfl) ?_
                      refine lv_iload_n hx hb d_Mod_small_49 rfl (lv_at hl 6 rfl) ?_
                      refine lv_iadd hx hb d_Mod_small_50 ?_
                      refine lv_iload hx hb d_Mod_small_51 (lv_at hl 0 rfl) ?_
                      obtain ⟨v8, e9, h⟩ := Option.bind_eq_some_iff.mp h
                      refine mg_p (As := [.int (α.2 37 (0 : Int32).toNatClampNeg), .int (x3_33 + x2_33), .int x6_33]) (rest := []) ((k_Mod_nth (l := l) (g := g) (α := α) N (α.2 37 (0 : Int32).toNatClampNeg) (x3_33 + x2_33) x6_33) _ e9) S E hI kw_Mod_440 (Or.inr rfl) ⟨Nat.le_of_ble_eq_true rfl, Nat.le_of_ble_eq_true rfl⟩ (mv_Mod E hI) rfl hl.1 rfl (Nat.le_of_ble_eq_true rfl) d_Mod_small_53 rfl ?_
                      refine lv_istore (lv' := [(7, .int v8), (6, .int x6_33), (5, .int x5_33), (4, .int x4_33), (3, .int x3_33), (0, .ref (mad g 0)), (1, .int x1_33), (2, .int x2_33)]) hx hb d_Mod_small_56 hl (by decide) rfl (fun ls hl => ?_)
                      refine lv_iload hx hb d_Mod_small_58 (lv_at hl 2 rfl) ?_
                      refine lv_if_ne (tgt := 91) hx hb d_Mod_small_60 (by decide) (fun c10 => ?_) (fun c10 => ?_)
                      · replace h := Eq.trans (if_neg c10).symm h
                        refine lv_iconst (v := 1) hx hb d_Mod_small_91 (by decide) ?_
                        refine lv_goto (tgt := 96) hx hb d_Mod_small_92 (by decide) ?_
                        refine lv_istore (lv' := [(5, .int 1), (7, .int v8), (6, .int x6_33), (4, .int x4_33), (3, .int x3_33), (0, .ref (mad g 0)), (1, .int x1_33), (2, .int x2_33)]) hx hb d_Mod_small_96 hl (by decide) rfl (fun ls hl => ?_)
                        refine lv_iinc (v := (x6_33 + 1)) (lv' := [(6, .int (x6_33 + 1)), (5, .int 1), (7, .int v8), (4, .int x4_33), (3, .int x3_33), (0, .ref (mad g 0)), (1, .int x1_33), (2, .int x2_33)]) hx hb d_Mod_small_98 hl (k := 2) rfl rfl (by decide) rfl (fun ls hl => ?_)
                        refine lv_goto (tgt := 33) hx hb d_Mod_small_101 (by decide) ?_
                        exact ih33 (x6_33 + 1) 1 x4_33 x3_33 x1_33 x2_33 _ h (lv_sub hl [0, 1, 3, 4, 5, 6, 7] rfl)
                      · replace h := Eq.trans (if_pos c10).symm h
                        refine lv_aload_n hx hb d_Mod_small_63 rfl (lv_at hl 5 rfl) ?_
                        refine mf_kind S E hI vt_1279 d_Mod_small_64 ?_
                        refine lv_iload hx hb d_Mod_small_67 (lv_at hl 0 rfl) ?_
                        by_cases c11 : v8 < 0 ∨ 400000 ≤ (v8 : Int32).toNatClampNeg
                        · replace h := Eq.trans (if_pos c11).symm h
                          cases h
                        · replace h := Eq.trans (if_neg c11).symm h
                          refine ml_kind S E hI c11 d_Mod_small_69 ?_
                          refine lv_iconst (v := 3) hx hb d_Mod_small_70 (by decide) ?_
                          refine lv_icmp_ne (tgt := 95) hx hb d_Mod_small_71 (by decide) (fun c12 => ?_) (fun c12 => ?_)
                          · replace h := Eq.trans (if_neg c12).symm h
                            refine lv_iconst (v := 0) hx hb d_Mod_small_95 (by decide) ?_
                            refine lv_istore (lv' := [(5, .int 0), (7, .int v8), (6, .int x6_33), (4, .int x4_33), (3, .int x3_33), (0, .ref (mad g 0)), (1, .int x1_33), (2, .int x2_33)]) hx hb d_Mod_small_96 hl (by decide) rfl (fun ls hl => ?_)
                            refine lv_iinc (v := (x6_33 + 1)) (lv' := [(6, .int (x6_33 + 1)), (5, .int 0), (7, .int v8), (4, .int x4_33), (3, .int x3_33), (0, .ref (mad g 0)), (1, .int x1_33), (2, .int x2_33)]) hx hb d_Mod_small_98 hl (k := 2) rfl rfl (by decide) rfl (fun ls hl => ?_)
                            refine lv_goto (tgt := 33) hx hb d_Mod_small_101 (by decide) ?_
                            exact ih33 (x6_33 + 1) 0 x4_33 x3_33 x1_33 x2_33 _ h (lv_sub hl [0, 1, 3, 4, 5, 6, 7] rfl)
                          · replace h := Eq.trans (if_pos c12).symm h
                            refine lv_aload_n hx hb d_Mod_small_74 rfl (lv_at hl 5 rfl) ?_
                            refine mf_one S E hI vt_1280 d_Mod_small_75 ?_
                            refine lv_iload hx hb d_Mod_small_78 (lv_at hl 0 rfl) ?_
                            by_cases c13 : v8 < 0 ∨ 400000 ≤ (v8 : Int32).toNatClampNeg
                            · replace h := Eq.trans (if_pos c13).symm h
                              cases h
                            · replace h := Eq.trans (if_neg c13).symm h
                              refine ml_one S E hI c13 d_Mod_small_80 ?_
                              refine lv_aload_n hx hb d_Mod_small_81 rfl (lv_at hl 5 rfl) ?_
                              refine mf_argument S E hI vt_1336 d_Mod_small_82 ?_
                              refine lv_iload hx hb d_Mod_small_85 (lv_at hl 3 rfl) ?_
                              by_cases c14 : x4_33 < 0 ∨ 4000 ≤ (x4_33 : Int32).toNatClampNeg
                              · replace h := Eq.trans (if_pos c14).symm h
                                cases h
                              · replace h := Eq.trans (if_neg c14).symm h
                                refine ml_argument S E hI c14 d_Mod_small_87 ?_
                                refine lv_icmp_ne (tgt := 95) hx hb d_Mod_small_88 (by decide) (fun c15 => ?_) (fun c15 => ?_)
                                · replace h := Eq.trans (if_neg c15).symm h
                                  refine lv_iconst (v := 0) hx hb d_Mod_small_95 (by decide) ?_
                                  refine lv_istore (lv' := [(5, .int 0), (7, .int v8), (6, .int x6_33), (4, .int x4_33), (3, .int x3_33), (0, .ref (mad g 0)), (1, .int x1_33), (2, .int x2_33)]) hx hb d_Mod_small_96 hl (by decide) rfl (fun ls hl => ?_)
                                  refine lv_iinc (v := (x6_33 + 1)) (lv' := [(6, .int (x6_33 + 1)), (5, .int 0), (7, .int v8), (4, .int x4_33), (3, .int x3_33), (0, .ref (mad g 0)), (1, .int x1_33), (2, .int x2_33)]) hx hb d_Mod_small_98 hl (k := 2) rfl rfl (by decide) rfl (fun ls hl => ?_)
                                  refine lv_goto (tgt := 33) hx hb d_Mod_small_101 (by decide) ?_
                                  exact ih33 (x6_33 + 1) 0 x4_33 x3_33 x1_33 x2_33 _ h (lv_sub hl [0, 1, 3, 4, 5, 6, 7] rfl)
                                · replace h := Eq.trans (if_pos c15).symm h
                                  refine lv_iconst (v := 1) hx hb d_Mod_small_91 (by decide) ?_
                                  refine lv_goto (tgt := 96) hx hb d_Mod_small_92 (by decide) ?_
                                  refine lv_istore (lv' := [(5, .int 1), (7, .int v8), (6, .int x6_33), (4, .int x4_33), (3, .int x3_33), (0, .ref (mad g 0)), (1, .int x1_33), (2, .int x2_33)]) hx hb d_Mod_small_96 hl (by decide) rfl (fun ls hl => ?_)
                                  refine lv_iinc (v := (x6_33 + 1)) (lv' := [(6, .int (x6_33 + 1)), (5, .int 1), (7, .int v8), (4, .int x4_33), (3, .int x3_33), (0, .ref (mad g 0)), (1, .int x1_33), (2, .int x2_33)]) hx hb d_Mod_small_98 hl (k := 2) rfl rfl (by decide) rfl (fun ls hl => ?_)
                                  refine lv_goto (tgt := 33) hx hb d_Mod_small_101 (by decide) ?_
                                  exact ih33 (x6_33 + 1) 1 x4_33 x3_33 x1_33 x2_33 _ h (lv_sub hl [0, 1, 3, 4, 5, 6, 7] rfl)
              exact L33 N x3_10 (α.2 40 (x4_10 : Int32).toNatClampNeg) x4_10 x3_10 x1_10 x2_10 _ h (lv_sub hl [0, 1, 2, 3, 4, 5, 6] rfl)
    exact L10 N 0 (α.2 15 (a1 : Int32).toNatClampNeg) a1 a2 _ h (lv_sub hl [0, 1, 2, 3, 4] rfl)
def f_Mod_count (a1 : Int32) (α : mS) : Int32 × mS := if a1 = 0 then (((α.1 16), (mSi α 2 0))) else (if a1 = 1 then (((α.1 26), (mSi α 2 0))) else (if a1 = 2 then (((α.1 27), (mSi α 2 0))) else (if a1 = 3 then (((α.1 18), (mSi α 2 0))) else (if a1 = 4 then (((α.1 0), (mSi α 2 0))) else (if a1 = 5 then (((α.1 1), (mSi α 2 0))) else (((-1), (mSi α 2 0))))))))
set_option maxHeartbeats 4000000 in
set_option maxRecDepth 100000 in
theorem k_Mod_count {l : Launch} {g : mG} {α : mS} (a1 : Int32)  : mC l g y_Mod_count b_Mod_count 2 (some .int) (1) (1) [.ref (mad g 0), .int a1] α (mQr (some (some (f_Mod_count a1 α).1), (f_Mod_count a1 α).2)) := by
  generalize h : f_Mod_count a1 α = x
  unfold f_Mod_count at h
  refine mc_ofW (by decide) (fun A p e s m args below meth c S hr hlocks hno hargs E hI => ?_)
  have hx := S.1
  have hb := S.2.1
  have hown := S.2.2.2.1
  have hT := S.2.2.2.2
  subst hargs
  have hl := lv_entry ([.ref (mad g 0), .int a1]) (n := 2) (Nat.le_of_ble_eq_true rfl)
  rw [lg_entry_eq]
  generalize (lg_sl ([.ref (mad g 0), .int a1]) ++ List.replicate (2 - (lg_sl ([.ref (mad g 0), .int a1])).length) Slot.unset).toArray = ls at hl ⊢
  have hl : lv_has ls 2 [(0, .ref (mad g 0)), (1, .int a1)] := hl
  refine lv_aload_n hx hb d_Mod_count_0 rfl (lv_at hl 0 rfl) ?_
  refine lv_iconst (v := 0) hx hb d_Mod_count_1 (by decide) ?_
  refine mp_thrown S E hI vt_1270 d_Mod_count_2 (fun H locs hI => ?_)
  refine lv_iload_n hx hb d_Mod_count_5 rfl (lv_at hl 1 rfl) ?_
  by_cases c1 : a1 = 0
  · replace h := Eq.trans (if_pos c1).symm h
    refine lv_tableIn (off := 38) (tgt := 44) hx hb d_Mod_count_6 (by rw [c1]; decide) (by rw [c1]; decide) (by rw [c1]; rfl) (by decide) ?_
    refine lv_aload_n hx hb d_Mod_count_44 rfl (lv_at hl 0 rfl) ?_
    refine mf_constants S E hI vt_1295 d_Mod_count_45 ?_
    exact mc_iret (w := (α.1 16)) hx hb hr rfl hlocks E hI (by rw [← h]) d_Mod_count_48
  · replace h := Eq.trans (if_neg c1).symm h
    have nc1 := ksw (z := 0) rfl c1
    by_cases c2 : a1 = 1
    · replace h := Eq.trans (if_pos c2).symm h
      refine lv_tableIn (off := 43) (tgt := 49) hx hb d_Mod_count_6 (by rw [c2]; decide) (by rw [c2]; decide) (by rw [c2]; rfl) (by decide) ?_
      refine lv_aload_n hx hb d_Mod_count_49 rfl (lv_at hl 0 rfl) ?_
      refine mf_accepted S E hI vt_1328 d_Mod_count_50 ?_
      exact mc_iret (w := (α.1 26)) hx hb hr rfl hlocks E hI (by rw [← h]) d_Mod_count_53
    · replace h := Eq.trans (if_neg c2).symm h
      have nc2 := ksw (z := 1) rfl c2
      by_cases c3 : a1 = 2
      · replace h := Eq.trans (if_pos c3).symm h
        refine lv_tableIn (off := 48) (tgt := 54) hx hb d_Mod_count_6 (by rw [c3]; decide) (by rw [c3]; decide) (by rw [c3]; rfl) (by decide) ?_
        refine lv_aload_n hx hb d_Mod_count_54 rfl (lv_at hl 0 rfl) ?_
        refine mf_lastWork S E hI vt_1329 d_Mod_count_55 ?_
        exact mc_iret (w := (α.1 27)) hx hb hr rfl hlocks E hI (by rw [← h]) d_Mod_count_58
      · replace h := Eq.trans (if_neg c3).symm h
        have nc3 := ksw (z := 2) rfl c3
        by_cases c4 : a1 = 3
        · replace h := Eq.trans (if_pos c4).symm h
          refine lv_tableIn (off := 53) (tgt := 59) hx hb d_Mod_count_6 (by rw [c4]; decide) (by rw [c4]; decide) (by rw [c4]; rfl) (by decide) ?_
          refine lv_aload_n hx hb d_Mod_count_59 rfl (lv_at hl 0 rfl) ?_
          refine mf_sizes S E hI vt_1311 d_Mod_count_60 ?_
          exact mc_iret (w := (α.1 18)) hx hb hr rfl hlocks E hI (by rw [← h]) d_Mod_count_63
        · replace h := Eq.trans (if_neg c4).symm h
          have nc4 := ksw (z := 3) rfl c4
          by_cases c5 : a1 = 4
          · replace h := Eq.trans (if_pos c5).symm h
            refine lv_tableIn (off := 58) (tgt := 64) hx hb d_Mod_count_6 (by rw [c5]; decide) (by rw [c5]; decide) (by rw [c5]; rfl) (by decide) ?_
            refine lv_aload_n hx hb d_Mod_count_64 rfl (lv_at hl 0 rfl) ?_
            refine mf_size S E hI vt_1268 d_Mod_count_65 ?_
            exact mc_iret (w := (α.1 0)) hx hb hr rfl hlocks E hI (by rw [← h]) d_Mod_count_68
          · replace h := Eq.trans (if_neg c5).symm h
            have nc5 := ksw (z := 4) rfl c5
            by_cases c6 : a1 = 5
            · replace h := Eq.trans (if_pos c6).symm h
              refine lv_tableIn (off := 63) (tgt := 69) hx hb d_Mod_count_6 (by rw [c6]; decide) (by rw [c6]; decide) (by rw [c6]; rfl) (by decide) ?_
              refine lv_aload_n hx hb d_Mod_count_69 rfl (lv_at hl 0 rfl) ?_
              refine mf_outSize S E hI vt_1269 d_Mod_count_70 ?_
              exact mc_iret (w := (α.1 1)) hx hb hr rfl hlocks E hI (by rw [← h]) d_Mod_count_73
            · replace h := Eq.trans (if_neg c6).symm h
              have nc6 := ksw (z := 5) rfl c6
              refine lv_tableOut (tgt := 74) hx hb d_Mod_count_6 (by omega) (by decide) ?_
              refine lv_iconst (v := (-1)) hx hb d_Mod_count_74 (by decide) ?_
              exact mc_iret (w := (-1)) hx hb hr rfl hlocks E hI (by rw [← h]) d_Mod_count_75
def f_Mod_reset  (α : mS) : Int32 × mS := ((α.1 16), (mSi (mSi (mSi (mSi (mSi (mSi α 2 0) 26 0) 16 0) 17 0) 18 0) 15 0))
set_option maxHeartbeats 4000000 in
set_option maxRecDepth 100000 in
theorem k_Mod_reset {l : Launch} {g : mG} {α : mS}   : mC l g y_Mod_reset b_Mod_reset 2 (some .int) (1) (1) [.ref (mad g 0)] α (mQr (some (some (f_Mod_reset α).1), (f_Mod_reset α).2)) := by
  generalize h : f_Mod_reset α = x
  unfold f_Mod_reset at h
  refine mc_ofW (by decide) (fun A p e s m args below meth c S hr hlocks hno hargs E hI => ?_)
  have hx := S.1
  have hb := S.2.1
  have hown := S.2.2.2.1
  have hT := S.2.2.2.2
  subst hargs
  have hl := lv_entry ([.ref (mad g 0)]) (n := 2) (Nat.le_of_ble_eq_true rfl)
  rw [lg_entry_eq]
  generalize (lg_sl ([.ref (mad g 0)]) ++ List.replicate (2 - (lg_sl ([.ref (mad g 0)])).length) Slot.unset).toArray = ls at hl ⊢
  have hl : lv_has ls 2 [(0, .ref (mad g 0))] := hl
  refine lv_aload_n hx hb d_Mod_reset_0 rfl (lv_at hl 0 rfl) ?_
  refine lv_iconst (v := 0) hx hb d_Mod_reset_1 (by decide) ?_
  refine mp_thrown S E hI vt_1270 d_Mod_reset_2 (fun H locs hI => ?_)
  refine lv_aload_n hx hb d_Mod_reset_5 rfl (lv_at hl 0 rfl) ?_
  refine mf_constants S E hI vt_1295 d_Mod_reset_6 ?_
  refine lv_istore_n (lv' := [(1, .int (α.1 16)), (0, .ref (mad g 0))]) hx hb d_Mod_reset_9 rfl hl (by decide) rfl (fun ls hl => ?_)
  refine lv_aload_n hx hb d_Mod_reset_10 rfl (lv_at hl 1 rfl) ?_
  refine lv_iconst (v := 0) hx hb d_Mod_reset_11 (by decide) ?_
  refine mp_accepted S E hI vt_1328 d_Mod_reset_12 (fun H locs hI => ?_)
  refine lv_aload_n hx hb d_Mod_reset_15 rfl (lv_at hl 1 rfl) ?_
  refine lv_iconst (v := 0) hx hb d_Mod_reset_16 (by decide) ?_
  refine mp_constants S E hI vt_1295 d_Mod_reset_17 (fun H locs hI => ?_)
  refine lv_aload_n hx hb d_Mod_reset_20 rfl (lv_at hl 1 rfl) ?_
  refine lv_iconst (v := 0) hx hb d_Mod_reset_21 (by decide) ?_
  refine mp_kept S E hI vt_1310 d_Mod_reset_22 (fun H locs hI => ?_)
  refine lv_aload_n hx hb d_Mod_reset_25 rfl (lv_at hl 1 rfl) ?_
  refine lv_iconst (v := 0) hx hb d_Mod_reset_26 (by decide) ?_
  refine mp_sizes S E hI vt_1311 d_Mod_reset_27 (fun H locs hI => ?_)
  refine lv_aload_n hx hb d_Mod_reset_30 rfl (lv_at hl 1 rfl) ?_
  refine lv_iconst (v := 0) hx hb d_Mod_reset_31 (by decide) ?_
  refine mp_wordsUsed S E hI vt_1294 d_Mod_reset_32 (fun H locs hI => ?_)
  refine lv_iload_n hx hb d_Mod_reset_35 rfl (lv_at hl 0 rfl) ?_
  exact mc_iret (w := (α.1 16)) hx hb hr rfl hlocks E hI (by rw [← h]) d_Mod_reset_36
theorem kw_Mod_519 : kWv "FamilyKernelModel" 519 "FamilyKernelModel" y_Mod_together b_Mod_together 2 none 1 := ⟨vt_1425, vt_1426, vt_1427, vt_1349, vt_1428, by decide, by decide, by decide +kernel⟩
theorem kw_Mod_522 : kWv "FamilyKernelModel" 522 "FamilyKernelModel" y_Mod_alone b_Mod_alone 2 (some .int) 1 := ⟨vt_1429, vt_1430, vt_1431, vt_1349, vt_1432, by decide, by decide, by decide +kernel⟩
def f_Mod_checked (N : Nat)  (α : mS) : Option (kO × mS) := mBv (f_Mod_take N α) fun α1 => (mBi ((G_applied N dp_applied).2.2.2.2.2 0 α1) fun v5 α3 => (mBv (f_Mod_must N 58 α3) fun α6 => (mBi ((G_applied N dp_applied).2.2.2.2.2 0 α6) fun v10 α8 => (mBv (f_Mod_must N 46 α8) fun α11 => (if v5 < 0 ∨ 400000 ≤ (v5 : Int32).toNatClampNeg then none else (if v10 < 0 ∨ 400000 ≤ (v10 : Int32).toNatClampNeg then none else (mBv (f_Mod_together N ((α11.2 6 (v5 : Int32).toNatClampNeg) + (α11.2 6 (v10 : Int32).toNatClampNeg)) α11) fun α15 => (mBi (f_Mod_alone N v5 α15) fun v19 α17 => (mBi (f_Mod_alone N v10 α17) fun v22 α20 => (mBi ((G_check N dp_check).2.2.2 v22 0 α20) fun v25 α23 => (mBv ((G_check N dp_check).1 v19 v22 0 α23) fun α26 => (some (some none, α26)))))))))))))
set_option maxHeartbeats 4000000 in
set_option maxRecDepth 100000 in
theorem k_Mod_checked {l : Launch} {g : mG} {α : mS} (N : Nat)   : ∀ x, f_Mod_checked N α = some x → mC l g y_Mod_checked b_Mod_checked 3 none (1793) (50601) [.ref (mad g 0)] α (mQr x) := by
  intro x h
  unfold f_Mod_checked at h
  refine mc_ofW (by decide) (fun A p e s m args below meth c S hr hlocks hno hargs E hI => ?_)
  have hx := S.1
  have hb := S.2.1
  have hown := S.2.2.2.1
  have hT := S.2.2.2.2
  subst hargs
  have hl := lv_entry ([.ref (mad g 0)]) (n := 3) (Nat.le_of_ble_eq_true rfl)
  rw [lg_entry_eq]
  generalize (lg_sl ([.ref (mad g 0)]) ++ List.replicate (3 - (lg_sl ([.ref (mad g 0)])).length) Slot.unset).toArray = ls at hl ⊢
  have hl : lv_has ls 3 [(0, .ref (mad g 0))] := hl
  refine lv_aload_n hx hb d_Mod_checked_0 rfl (lv_at hl 0 rfl) ?_
  refine mg_cV (As := []) (rest := []) h (k_Mod_take (l := l) (g := g) (α := α) N) S hlocks hno E hI kw_Mod_281 ⟨Nat.le_of_ble_eq_true rfl, Nat.le_of_ble_eq_true rfl⟩ (mv_Mod E hI) rfl hl.1 rfl (Nat.le_of_ble_eq_true rfl) d_Mod_checked_1 (fun α1 H locs e2 h hI => ?_)
  refine lv_aload_n hx hb d_Mod_checked_4 rfl (lv_at hl 0 rfl) ?_
  refine lv_iconst (v := 0) hx hb d_Mod_checked_5 (by decide) ?_
  refine mg_cI (As := [.int 0]) (rest := []) h (((ok_applied (l := l) (g := g) N dp_applied).2.2.2.2.2) 0 α1) S hlocks hno E hI kw_Mod_399 ⟨Nat.le_of_ble_eq_true rfl, Nat.le_of_ble_eq_true rfl⟩ (mv_Mod E hI) rfl hl.1 rfl (Nat.le_of_ble_eq_true rfl) d_Mod_checked_6 (fun v5 α3 H locs e4 h hI => ?_)
  refine lv_istore_n (lv' := [(1, .int v5), (0, .ref (mad g 0))]) hx hb d_Mod_checked_9 rfl hl (by decide) rfl (fun ls hl => ?_)
  refine lv_aload_n hx hb d_Mod_checked_10 rfl (lv_at hl 1 rfl) ?_
  refine lv_bipush (v := 58) hx hb d_Mod_checked_11 (by decide) ?_
  refine mg_cV (As := [.int 58]) (rest := []) h (k_Mod_must (l := l) (g := g) (α := α3) N 58) S hlocks hno E hI kw_Mod_405 ⟨Nat.le_of_ble_eq_true rfl, Nat.le_of_ble_eq_true rfl⟩ (mv_Mod E hI) rfl hl.1 rfl (Nat.le_of_ble_eq_true rfl) d_Mod_checked_13 (fun α6 H locs e7 h hI => ?_)
  refine lv_aload_n hx hb d_Mod_checked_16 rfl (lv_at hl 1 rfl) ?_
  refine lv_iconst (v := 0) hx hb d_Mod_checked_17 (by decide) ?_
  refine mg_cI (As := [.int 0]) (rest := []) h (((ok_applied (l := l) (g := g) N dp_applied).2.2.2.2.2) 0 α6) S hlocks hno E hI kw_Mod_399 ⟨Nat.le_of_ble_eq_true rfl, Nat.le_of_ble_eq_true rfl⟩ (mv_Mod E hI) rfl hl.1 rfl (Nat.le_of_ble_eq_true rfl) d_Mod_checked_18 (fun v10 α8 H locs e9 h hI => ?_)
  refine lv_istore_n (lv' := [(2, .int v10), (1, .int v5), (0, .ref (mad g 0))]) hx hb d_Mod_checked_21 rfl hl (by decide) rfl (fun ls hl => ?_)
  refine lv_aload_n hx hb d_Mod_checked_22 rfl (lv_at hl 2 rfl) ?_
  refine lv_bipush (v := 46) hx hb d_Mod_checked_23 (by decide) ?_
  refine mg_cV (As := [.int 46]) (rest := []) h (k_Mod_must (l := l) (g := g) (α := α8) N 46) S hlocks hno E hI kw_Mod_405 ⟨Nat.le_of_ble_eq_true rfl, Nat.le_of_ble_eq_true rfl⟩ (mv_Mod E hI) rfl hl.1 rfl (Nat.le_of_ble_eq_true rfl) d_Mod_checked_25 (fun α11 H locs e12 h hI => ?_)
  refine lv_aload_n hx hb d_Mod_checked_28 rfl (lv_at hl 2 rfl) ?_
  refine lv_aload_n hx hb d_Mod_checked_29 rfl (lv_at hl 2 rfl) ?_
  refine mf_big S E hI vt_1283 d_Mod_checked_30 ?_
  refine lv_iload_n hx hb d_Mod_checked_33 rfl (lv_at hl 1 rfl) ?_
  by_cases c13 : v5 < 0 ∨ 400000 ≤ (v5 : Int32).toNatClampNeg
  · replace h := Eq.trans (if_pos c13).symm h
    cases h
  · replace h := Eq.trans (if_neg c13).symm h
    refine ml_big S E hI c13 d_Mod_checked_34 ?_
    refine lv_aload_n hx hb d_Mod_checked_35 rfl (lv_at hl 2 rfl) ?_
    refine mf_big S E hI vt_1283 d_Mod_checked_36 ?_
    refine lv_iload_n hx hb d_Mod_checked_39 rfl (lv_at hl 0 rfl) ?_
    by_cases c14 : v10 < 0 ∨ 400000 ≤ (v10 : Int32).toNatClampNeg
    · replace h := Eq.trans (if_pos c14).symm h
      cases h
    · replace h := Eq.trans (if_neg c14).symm h
      refine ml_big S E hI c14 d_Mod_checked_40 ?_
      refine lv_iadd hx hb d_Mod_checked_41 ?_
      refine mg_cV (As := [.int ((α11.2 6 (v5 : Int32).toNatClampNeg) + (α11.2 6 (v10 : Int32).toNatClampNeg))]) (rest := []) h (k_Mod_together (l := l) (g := g) (α := α11) N ((α11.2 6 (v5 : Int32).toNatClampNeg) + (α11.2 6 (v10 : Int32).toNatClampNeg))) S hlocks hno E hI kw_Mod_519 ⟨Nat.le_of_ble_eq_true rfl, Nat.le_of_ble_eq_true rfl⟩ (mv_Mod E hI) rfl hl.1 rfl (Nat.le_of_ble_eq_true rfl) d_Mod_checked_42 (fun α15 H locs e16 h hI => ?_)
      refine lv_aload_n hx hb d_Mod_checked_45 rfl (lv_at hl 2 rfl) ?_
      refine lv_iload_n hx hb d_Mod_checked_46 rfl (lv_at hl 1 rfl) ?_
      refine mg_cI (As := [.int v5]) (rest := []) h (k_Mod_alone (l := l) (g := g) (α := α15) N v5) S hlocks hno E hI kw_Mod_522 ⟨Nat.le_of_ble_eq_true rfl, Nat.le_of_ble_eq_true rfl⟩ (mv_Mod E hI) rfl hl.1 rfl (Nat.le_of_ble_eq_true rfl) d_Mod_checked_47 (fun v19 α17 H locs e18 h hI => ?_)
      refine lv_istore_n (lv' := [(1, .int v19), (2, .int v10), (0, .ref (mad g 0))]) hx hb d_Mod_checked_50 rfl hl (by decide) rfl (fun ls hl => ?_)
      refine lv_aload_n hx hb d_Mod_checked_51 rfl (lv_at hl 2 rfl) ?_
      refine lv_iload_n hx hb d_Mod_checked_52 rfl (lv_at hl 1 rfl) ?_
      refine mg_cI (As := [.int v10]) (rest := []) h (k_Mod_alone (l := l) (g := g) (α := α17) N v10) S hlocks hno E hI kw_Mod_522 ⟨Nat.le_of_ble_eq_true rfl, Nat.le_of_ble_eq_true rfl⟩ (mv_Mod E hI) rfl hl.1 rfl (Nat.le_of_ble_eq_true rfl) d_Mod_checked_53 (fun v22 α20 H locs e21 h hI => ?_)
      refine lv_istore_n (lv' := [(2, .int v22), (1, .int v19), (0, .ref (mad g 0))]) hx hb d_Mod_checked_56 rfl hl (by decide) rfl (fun ls hl => ?_)
      refine lv_aload_n hx hb d_Mod_checked_57 rfl (lv_at hl 2 rfl) ?_
      refine lv_iload_n hx hb d_Mod_checked_58 rfl (lv_at hl 0 rfl) ?_
      refine lv_iconst (v := 0) hx hb d_Mod_checked_59 (by decide) ?_
      refine mg_cI (As := [.int v22, .int 0]) (rest := []) h (((ok_check (l := l) (g := g) N dp_check).2.2.2) v22 0 α20) S hlocks hno E hI kw_Mod_477 ⟨Nat.le_of_ble_eq_true rfl, Nat.le_of_ble_eq_true rfl⟩ (mv_Mod E hI) rfl hl.1 rfl (Nat.le_of_ble_eq_true rfl) d_Mod_checked_60 (fun v25 α23 H locs e24 h hI => ?_)
      refine lv_pop hx hb d_Mod_checked_63 rfl ?_
      refine lv_aload_n hx hb d_Mod_checked_64 rfl (lv_at hl 2 rfl) ?_
      refine lv_iload_n hx hb d_Mod_checked_65 rfl (lv_at hl 1 rfl) ?_
      refine lv_iload_n hx hb d_Mod_checked_66 rfl (lv_at hl 0 rfl) ?_
      refine lv_iconst (v := 0) hx hb d_Mod_checked_67 (by decide) ?_
      refine mg_cV (As := [.int v19, .int v22, .int 0]) (rest := []) h (((ok_check (l := l) (g := g) N dp_check).1) v19 v22 0 α23) S hlocks hno E hI kw_Mod_485 ⟨Nat.le_of_ble_eq_true rfl, Nat.le_of_ble_eq_true rfl⟩ (mv_Mod E hI) rfl hl.1 rfl (Nat.le_of_ble_eq_true rfl) d_Mod_checked_68 (fun α26 H locs e27 h hI => ?_)
      exact mc_vret hx hb hr hlocks E hI h d_Mod_checked_71
def f_Mod_newName_96 (N : Nat)  : Nat → Int32 → mS → Option (kO × mS)
  | 0, _, _ => none
  | n + 1, x1_96, β96 => if (β96.1 8) ≤ x1_96 then (mBv (f_Mod_take N β96) fun α18 => (some (some none, α18))) else (if x1_96 < 0 ∨ 65536 ≤ (x1_96 : Int32).toNatClampNeg then none else (if (β96.1 15) < 0 ∨ 9400 ≤ ((β96.1 15) : Int32).toNatClampNeg then none else (f_Mod_newName_96 N n (x1_96 + 1) (mSA (mSi β96 15 ((β96.1 15) + 1)) 9 (upd ((mSi β96 15 ((β96.1 15) + 1)).2 9) ((β96.1 15) : Int32).toNatClampNeg (vp_nar .byte ((mSi β96 15 ((β96.1 15) + 1)).2 0 (x1_96 : Int32).toNatClampNeg)))))))
def f_Mod_newName (N : Nat)  (α : mS) : Option (kO × mS) := mBi (f_Mod_peek N α) fun v3 α1 => (if v3 = 1 then (mBi (f_Mod_reserved N α1) fun v9 α7 => (if v9 = 0 then (((f_Mod_constant_1 N (α7.1 16) α7)).bind fun v11 => (if v11 < 0 then (if (α7.1 16) = 300 then (some (none, α7)) else (if (α7.1 16) < 0 ∨ 301 ≤ ((α7.1 16) : Int32).toNatClampNeg then none else (if (α7.1 16) < 0 ∨ 301 ≤ ((α7.1 16) : Int32).toNatClampNeg then none else (f_Mod_newName_96 N N (α7.1 7) (mSA (mSA α7 10 (upd (α7.2 10) ((α7.1 16) : Int32).toNatClampNeg (α7.1 15))) 11 (upd ((mSA α7 10 (upd (α7.2 10) ((α7.1 16) : Int32).toNatClampNeg (α7.1 15))).2 11) ((α7.1 16) : Int32).toNatClampNeg ((α7.1 8) - (α7.1 7)))))))) else (some (none, α7)))) else (((f_Mod_cant N α7)).bind fun α22 => (some (none, α22))))) else (((f_Mod_cant N α1)).bind fun α5 => (some (none, α5))))
set_option maxHeartbeats 4000000 in
set_option maxRecDepth 100000 in
theorem k_Mod_newName {l : Launch} {g : mG} {α : mS} (N : Nat)   : ∀ x, f_Mod_newName N α = some x → mC l g y_Mod_newName b_Mod_newName 2 none (43) (1260) [.ref (mad g 0)] α (mQr x) := by
  intro x h
  unfold f_Mod_newName at h
  refine mc_ofW (by decide) (fun A p e s m args below meth c S hr hlocks hno hargs E hI => ?_)
  have hx := S.1
  have hb := S.2.1
  have hown := S.2.2.2.1
  have hT := S.2.2.2.2
  subst hargs
  have hl := lv_entry ([.ref (mad g 0)]) (n := 2) (Nat.le_of_ble_eq_true rfl)
  rw [lg_entry_eq]
  generalize (lg_sl ([.ref (mad g 0)]) ++ List.replicate (2 - (lg_sl ([.ref (mad g 0)])).length) Slot.unset).toArray = ls at hl ⊢
  have hl : lv_has ls 2 [(0, .ref (mad g 0))] := hl
  refine lv_aload_n hx hb d_Mod_newName_0 rfl (lv_at hl 0 rfl) ?_
  refine mg_cI (As := []) (rest := []) h (k_Mod_peek (l := l) (g := g) (α := α) N) S hlocks hno E hI kw_Mod_273 ⟨Nat.le_of_ble_eq_true rfl, Nat.le_of_ble_eq_true rfl⟩ (mv_Mod E hI) rfl hl.1 rfl (Nat.le_of_ble_eq_true rfl) d_Mod_newName_1 (fun v3 α1 H locs e2 h hI => ?_)
  refine lv_iconst (v := 1) hx hb d_Mod_newName_4 (by decide) ?_
  refine lv_icmp_ne (tgt := 15) hx hb d_Mod_newName_5 (by decide) (fun c4 => ?_) (fun c4 => ?_)
  · replace h := Eq.trans (if_neg c4).symm h
    refine lv_aload_n hx hb d_Mod_newName_15 rfl (lv_at hl 0 rfl) ?_
    obtain ⟨α5, e6, h⟩ := Option.bind_eq_some_iff.mp h
    refine mg_cant (As := []) (rest := []) ((k_Mod_cant (l := l) (g := g) (α := α1) N) _ e6) S hlocks hno E hI kw_Mod_277 ⟨Nat.le_of_ble_eq_true rfl, Nat.le_of_ble_eq_true rfl⟩ (mv_Mod E hI) rfl hl.1 rfl (Nat.le_of_ble_eq_true rfl) d_Mod_newName_16 (fun q kw pw H locs hN => ?_)
    exact mg_athrow S hlocks hno E hN h d_Mod_newName_19
  · replace h := Eq.trans (if_pos c4).symm h
    refine lv_aload_n hx hb d_Mod_newName_8 rfl (lv_at hl 0 rfl) ?_
    refine mg_cI (As := []) (rest := []) h (k_Mod_reserved (l := l) (g := g) (α := α1) N) S hlocks hno E hI kw_Mod_380 ⟨Nat.le_of_ble_eq_true rfl, Nat.le_of_ble_eq_true rfl⟩ (mv_Mod E hI) rfl hl.1 rfl (Nat.le_of_ble_eq_true rfl) d_Mod_newName_9 (fun v9 α7 H locs e8 h hI => ?_)
    refine lv_if_eq (tgt := 20) hx hb d_Mod_newName_12 (by decide) (fun c10 => ?_) (fun c10 => ?_)
    · replace h := Eq.trans (if_pos c10).symm h
      refine lv_aload_n hx hb d_Mod_newName_20 rfl (lv_at hl 0 rfl) ?_
      refine lv_aload_n hx hb d_Mod_newName_21 rfl (lv_at hl 0 rfl) ?_
      refine mf_constants S E hI vt_1295 d_Mod_newName_22 ?_
      obtain ⟨v11, e12, h⟩ := Option.bind_eq_some_iff.mp h
      refine mg_p (As := [.int (α7.1 16)]) (rest := []) ((k_Mod_constant_1 (l := l) (g := g) (α := α7) N (α7.1 16)) _ e12) S E hI kw_Mod_373 (Or.inl rfl) ⟨Nat.le_of_ble_eq_true rfl, Nat.le_of_ble_eq_true rfl⟩ (mv_Mod E hI) rfl hl.1 rfl (Nat.le_of_ble_eq_true rfl) d_Mod_newName_25 rfl ?_
      refine lv_if_lt (tgt := 44) hx hb d_Mod_newName_28 (by decide) (fun c13 => ?_) (fun c13 => ?_)
      · replace h := Eq.trans (if_pos c13).symm h
        refine lv_aload_n hx hb d_Mod_newName_44 rfl (lv_at hl 0 rfl) ?_
        refine mf_constants S E hI vt_1295 d_Mod_newName_45 ?_
        refine lv_sipush (v := 300) hx hb d_Mod_newName_48 (by decide) ?_
        refine lv_icmp_ne (tgt := 60) hx hb d_Mod_newName_51 (by decide) (fun c14 => ?_) (fun c14 => ?_)
        · replace h := Eq.trans (if_neg c14).symm h
          refine lv_aload_n hx hb d_Mod_newName_60 rfl (lv_at hl 0 rfl) ?_
          refine mf_wordAt S E hI vt_1292 d_Mod_newName_61 ?_
          refine lv_aload_n hx hb d_Mod_newName_64 rfl (lv_at hl 0 rfl) ?_
          refine mf_constants S E hI vt_1295 d_Mod_newName_65 ?_
          refine lv_aload_n hx hb d_Mod_newName_68 rfl (lv_at hl 0 rfl) ?_
          refine mf_wordsUsed S E hI vt_1294 d_Mod_newName_69 ?_
          by_cases c15 : (α7.1 16) < 0 ∨ 301 ≤ ((α7.1 16) : Int32).toNatClampNeg
          · replace h := Eq.trans (if_pos c15).symm h
            cases h
          · replace h := Eq.trans (if_neg c15).symm h
            refine ms_wordAt S E hI c15 d_Mod_newName_72 (fun H locs hI => ?_)
            refine lv_aload_n hx hb d_Mod_newName_73 rfl (lv_at hl 0 rfl) ?_
            refine mf_wordSize S E hI vt_1293 d_Mod_newName_74 ?_
            refine lv_aload_n hx hb d_Mod_newName_77 rfl (lv_at hl 0 rfl) ?_
            refine mf_constants S E hI vt_1295 d_Mod_newName_78 ?_
            refine lv_aload_n hx hb d_Mod_newName_81 rfl (lv_at hl 0 rfl) ?_
            refine mf_tokenEnd S E hI vt_1276 d_Mod_newName_82 ?_
            refine lv_aload_n hx hb d_Mod_newName_85 rfl (lv_at hl 0 rfl) ?_
            refine mf_tokenAt S E hI vt_1275 d_Mod_newName_86 ?_
            refine lv_isub hx hb d_Mod_newName_89 ?_
            by_cases c16 : (α7.1 16) < 0 ∨ 301 ≤ ((α7.1 16) : Int32).toNatClampNeg
            · replace h := Eq.trans (if_pos c16).symm h
              cases h
            · replace h := Eq.trans (if_neg c16).symm h
              refine ms_wordSize S E hI c16 d_Mod_newName_90 (fun H locs hI => ?_)
              refine lv_aload_n hx hb d_Mod_newName_91 rfl (lv_at hl 0 rfl) ?_
              refine mf_tokenAt S E hI vt_1275 d_Mod_newName_92 ?_
              refine lv_istore_n (lv' := [(1, .int (α7.1 7)), (0, .ref (mad g 0))]) hx hb d_Mod_newName_95 rfl hl (by decide) rfl (fun ls hl => ?_)
              have L96 : ∀ (n96 : Nat) (x1_96 : Int32) (β96 : mS) (H : Heap) (locs : List Loc) (ls : Array Slot), f_Mod_newName_96 N n96 x1_96 β96 = some x → mI g A s β96 H locs → lv_has ls 2 [(1, .int x1_96), (0, .ref (mad g 0))] → W p l e (mR (43) (1260)) s m ([.ref (mad g 0)]).toArray below meth c H locs 0 0 (vEQ below (mQ g A (mQr x)) ([.ref (mad g 0)]).toArray s A) (F0 m 96 ls []) := by
                intro n96
                induction n96 with
                | zero => intro x1_96 β96 H locs ls h hI hl; rw [f_Mod_newName_96] at h; cases h
                | succ n96 ih96 =>
                  intro x1_96 β96 H locs ls h hI hl
                  rw [f_Mod_newName_96] at h
                  refine lv_iload_n hx hb d_Mod_newName_96 rfl (lv_at hl 0 rfl) ?_
                  refine lv_aload_n hx hb d_Mod_newName_97 rfl (lv_at hl 1 rfl) ?_
                  refine mf_tokenEnd S E hI vt_1276 d_Mod_newName_98 ?_
                  refine lv_icmp_ge (tgt := 132) hx hb d_Mod_newName_101 (by decide) (fun c17 => ?_) (fun c17 => ?_)
                  · replace h := Eq.trans (if_pos c17).symm h
                    refine lv_aload_n hx hb d_Mod_newName_132 rfl (lv_at hl 1 rfl) ?_
                    refine mg_cV (As := []) (rest := []) h (k_Mod_take (l := l) (g := g) (α := β96) N) S hlocks hno E hI kw_Mod_281 ⟨Nat.le_of_ble_eq_true rfl, Nat.le_of_ble_eq_true rfl⟩ (mv_Mod E hI) rfl hl.1 rfl (Nat.le_of_ble_eq_true rfl) d_Mod_newName_133 (fun α18 H locs e19 h hI => ?_)
                    exact mc_vret hx hb hr hlocks E hI h d_Mod_newName_136
                  · replace h := Eq.trans (if_neg c17).symm h
                    refine lv_aload_n hx hb d_Mod_newName_104 rfl (lv_at hl 1 rfl) ?_
                    refine mf_words S E hI vt_1291 d_Mod_newName_105 ?_
                    refine lv_aload_n hx hb d_Mod_newName_108 rfl (lv_at hl 1 rfl) ?_
                    refine lv_dup hx hb d_Mod_newName_109 rfl ?_
                    refine mf_wordsUsed S E hI vt_1294 d_Mod_newName_110 ?_
                    refine lv_dup_x1 hx hb d_Mod_newName_113 rfl rfl ?_
                    refine lv_iconst (v := 1) hx hb d_Mod_newName_114 (by decide) ?_
                    refine lv_iadd hx hb d_Mod_newName_115 ?_
                    refine mp_wordsUsed S E hI vt_1294 d_Mod_newName_116 (fun H locs hI => ?_)
                    refine lv_aload_n hx hb d_Mod_newName_119 rfl (lv_at hl 1 rfl) ?_
                    refine mf_tape S E hI vt_1266 d_Mod_newName_120 ?_
                    refine lv_iload_n hx hb d_Mod_newName_123 rfl (lv_at hl 0 rfl) ?_
                    by_cases c20 : x1_96 < 0 ∨ 65536 ≤ (x1_96 : Int32).toNatClampNeg
                    · replace h := Eq.trans (if_pos c20).symm h
                      cases h
                    · replace h := Eq.trans (if_neg c20).symm h
                      refine ml_tape S E hI c20 d_Mod_newName_124 ?_
                      by_cases c21 : (β96.1 15) < 0 ∨ 9400 ≤ ((β96.1 15) : Int32).toNatClampNeg
                      · replace h := Eq.trans (if_pos c21).symm h
                        cases h
                      · replace h := Eq.trans (if_neg c21).symm h
                        refine ms_words S E hI c21 d_Mod_newName_125 (fun H locs hI => ?_)
                        refine lv_iinc (v := (x1_96 + 1)) (lv' := [(1, .int (x1_96 + 1)), (0, .ref (mad g 0))]) hx hb d_Mod_newName_126 hl (k := 0) rfl rfl (by decide) rfl (fun ls hl => ?_)
                        refine lv_goto (tgt := 96) hx hb d_Mod_newName_129 (by decide) ?_
                        exact ih96 (x1_96 + 1) _ _ _ _ h hI (lv_sub hl [0, 1] rfl)
              exact L96 N (α7.1 7) _ _ _ _ h hI (lv_sub hl [0, 1] rfl)
        · replace h := Eq.trans (if_pos c14).symm h
          refine lv_bipush (v := 10) hx hb d_Mod_newName_54 (by decide) ?_
          refine mg_fails S E hI kw_Mod_323 hl.1 ⟨Nat.le_of_ble_eq_true rfl, Nat.le_of_ble_eq_true rfl⟩ (Nat.le_of_ble_eq_true rfl) d_Mod_newName_56 (fun q H locs hN => ?_)
          exact mg_athrow S hlocks hno E hN h d_Mod_newName_59
      · replace h := Eq.trans (if_neg c13).symm h
        refine mg_new S E hI vt_1457 d_Mod_newName_31 (fun q H hN => ?_)
        have hI := hN.i
        refine lv_dup hx hb d_Mod_newName_34 rfl ?_
        refine lv_iconst (v := 2) hx hb d_Mod_newName_35 (by decide) ?_
        refine lv_aload_n hx hb d_Mod_newName_36 rfl (lv_at hl 0 rfl) ?_
        refine mf_tokenAt S E hI vt_1275 d_Mod_newName_37 ?_
        refine mg_init S E hN vt_1460 hl.1 ⟨Nat.le_of_ble_eq_true rfl, Nat.le_of_ble_eq_true rfl⟩ (Nat.le_of_ble_eq_true rfl) d_Mod_newName_40 (fun H locs hN => ?_)
        exact mg_athrow S hlocks hno E hN h d_Mod_newName_43
    · replace h := Eq.trans (if_neg c10).symm h
      refine lv_aload_n hx hb d_Mod_newName_15 rfl (lv_at hl 0 rfl) ?_
      obtain ⟨α22, e23, h⟩ := Option.bind_eq_some_iff.mp h
      refine mg_cant (As := []) (rest := []) ((k_Mod_cant (l := l) (g := g) (α := α7) N) _ e23) S hlocks hno E hI kw_Mod_277 ⟨Nat.le_of_ble_eq_true rfl, Nat.le_of_ble_eq_true rfl⟩ (mv_Mod E hI) rfl hl.1 rfl (Nat.le_of_ble_eq_true rfl) d_Mod_newName_16 (fun q kw pw H locs hN => ?_)
      exact mg_athrow S hlocks hno E hN h d_Mod_newName_19
def f_Mod_keep (N : Nat) (a1 : Int32) (α : mS) : Option (kO × mS) := mBi (f_Mod_mapped N 5 a1 0 0 0 (mSi α 10 (α.1 17))) fun v3 α1 => (some (some (some v3), (mSi (mSi α1 17 (α1.1 10)) 10 (α.1 10))))
set_option maxHeartbeats 4000000 in
set_option maxRecDepth 100000 in
theorem k_Mod_keep {l : Launch} {g : mG} {α : mS} (N : Nat) (a1 : Int32)  : ∀ x, f_Mod_keep N a1 α = some x → mC l g y_Mod_keep b_Mod_keep 4 (some .int) (848) (23782) [.ref (mad g 0), .int a1] α (mQr x) := by
  intro x h
  unfold f_Mod_keep at h
  refine mc_ofW (by decide) (fun A p e s m args below meth c S hr hlocks hno hargs E hI => ?_)
  have hx := S.1
  have hb := S.2.1
  have hown := S.2.2.2.1
  have hT := S.2.2.2.2
  subst hargs
  have hl := lv_entry ([.ref (mad g 0), .int a1]) (n := 4) (Nat.le_of_ble_eq_true rfl)
  rw [lg_entry_eq]
  generalize (lg_sl ([.ref (mad g 0), .int a1]) ++ List.replicate (4 - (lg_sl ([.ref (mad g 0), .int a1])).length) Slot.unset).toArray = ls at hl ⊢
  have hl : lv_has ls 4 [(0, .ref (mad g 0)), (1, .int a1)] := hl
  refine lv_aload_n hx hb d_Mod_keep_0 rfl (lv_at hl 0 rfl) ?_
  refine mf_top S E hI vt_1285 d_Mod_keep_1 ?_
  refine lv_istore_n (lv' := [(2, .int (α.1 10)), (0, .ref (mad g 0)), (1, .int a1)]) hx hb d_Mod_keep_4 rfl hl (by decide) rfl (fun ls hl => ?_)
  refine lv_aload_n hx hb d_Mod_keep_5 rfl (lv_at hl 1 rfl) ?_
  refine lv_aload_n hx hb d_Mod_keep_6 rfl (lv_at hl 1 rfl) ?_
  refine mf_kept S E hI vt_1310 d_Mod_keep_7 ?_
  refine mp_top S E hI vt_1285 d_Mod_keep_10 (fun H locs hI => ?_)
  refine lv_aload_n hx hb d_Mod_keep_13 rfl (lv_at hl 1 rfl) ?_
  refine lv_iconst (v := 5) hx hb d_Mod_keep_14 (by decide) ?_
  refine lv_iload_n hx hb d_Mod_keep_15 rfl (lv_at hl 2 rfl) ?_
  refine lv_iconst (v := 0) hx hb d_Mod_keep_16 (by decide) ?_
  refine lv_iconst (v := 0) hx hb d_Mod_keep_17 (by decide) ?_
  refine lv_iconst (v := 0) hx hb d_Mod_keep_18 (by decide) ?_
  refine mg_cI (As := [.int 5, .int a1, .int 0, .int 0, .int 0]) (rest := []) h (k_Mod_mapped (l := l) (g := g) (α := (mSi α 10 (α.1 17))) N 5 a1 0 0 0) S hlocks hno E hI kw_Mod_359 ⟨Nat.le_of_ble_eq_true rfl, Nat.le_of_ble_eq_true rfl⟩ (mv_Mod E hI) rfl hl.1 rfl (Nat.le_of_ble_eq_true rfl) d_Mod_keep_19 (fun v3 α1 H locs e2 h hI => ?_)
  refine lv_istore_n (lv' := [(3, .int v3), (2, .int (α.1 10)), (0, .ref (mad g 0)), (1, .int a1)]) hx hb d_Mod_keep_22 rfl hl (by decide) rfl (fun ls hl => ?_)
  refine lv_aload_n hx hb d_Mod_keep_23 rfl (lv_at hl 2 rfl) ?_
  refine lv_aload_n hx hb d_Mod_keep_24 rfl (lv_at hl 2 rfl) ?_
  refine mf_top S E hI vt_1285 d_Mod_keep_25 ?_
  refine mp_kept S E hI vt_1310 d_Mod_keep_28 (fun H locs hI => ?_)
  refine lv_aload_n hx hb d_Mod_keep_31 rfl (lv_at hl 2 rfl) ?_
  refine lv_iload_n hx hb d_Mod_keep_32 rfl (lv_at hl 1 rfl) ?_
  refine mp_top S E hI vt_1285 d_Mod_keep_33 (fun H locs hI => ?_)
  refine lv_iload_n hx hb d_Mod_keep_36 rfl (lv_at hl 0 rfl) ?_
  exact mc_iret (w := v3) hx hb hr rfl hlocks E hI h d_Mod_keep_37
theorem kw_Mod_516 : kWv "FamilyKernelModel" 516 "FamilyKernelModel" y_Mod_newName b_Mod_newName 2 none 0 := ⟨vt_1413, vt_1414, vt_1415, vt_1349, vt_1416, by decide, by decide, by decide +kernel⟩
theorem kw_Mod_525 : kWv "FamilyKernelModel" 525 "FamilyKernelModel" y_Mod_room b_Mod_room 2 none 1 := ⟨vt_1441, vt_1442, vt_1443, vt_1349, vt_1444, by decide, by decide, by decide +kernel⟩
theorem kw_Mod_528 : kWv "FamilyKernelModel" 528 "FamilyKernelModel" y_Mod_keep b_Mod_keep 4 (some .int) 1 := ⟨vt_1445, vt_1446, vt_1447, vt_1349, vt_1448, by decide, by decide, by decide +kernel⟩
def f_Mod_stated_j181 (N : Nat)  (y4 : Int32) (t0 : Int32) (t1 : Int32) (γ : mS) : Option (kO × mS) := if t1 < 0 ∨ 301 ≤ (t1 : Int32).toNatClampNeg then none else (if y4 < 0 ∨ 301 ≤ (y4 : Int32).toNatClampNeg then none else (if y4 < 0 ∨ 301 ≤ (y4 : Int32).toNatClampNeg then none else (if y4 < 0 ∨ 301 ≤ (y4 : Int32).toNatClampNeg then none else (if y4 < 0 ∨ 301 ≤ (y4 : Int32).toNatClampNeg then none else (if y4 < 0 ∨ 301 ≤ (y4 : Int32).toNatClampNeg then none else (some (some none, (mSA (mSA (mSA (mSA (mSA (mSA γ 14 (upd (γ.2 14) (t1 : Int32).toNatClampNeg t0)) 15 (upd ((mSA γ 14 (upd (γ.2 14) (t1 : Int32).toNatClampNeg t0)).2 15) (y4 : Int32).toNatClampNeg 0)) 16 (upd ((mSA (mSA γ 14 (upd (γ.2 14) (t1 : Int32).toNatClampNeg t0)) 15 (upd ((mSA γ 14 (upd (γ.2 14) (t1 : Int32).toNatClampNeg t0)).2 15) (y4 : Int32).toNatClampNeg 0)).2 16) (y4 : Int32).toNatClampNeg 0)) 17 (upd ((mSA (mSA (mSA γ 14 (upd (γ.2 14) (t1 : Int32).toNatClampNeg t0)) 15 (upd ((mSA γ 14 (upd (γ.2 14) (t1 : Int32).toNatClampNeg t0)).2 15) (y4 : Int32).toNatClampNeg 0)) 16 (upd ((mSA (mSA γ 14 (upd (γ.2 14) (t1 : Int32).toNatClampNeg t0)) 15 (upd ((mSA γ 14 (upd (γ.2 14) (t1 : Int32).toNatClampNeg t0)).2 15) (y4 : Int32).toNatClampNeg 0)).2 16) (y4 : Int32).toNatClampNeg 0)).2 17) (y4 : Int32).toNatClampNeg 0)) 18 (upd ((mSA (mSA (mSA (mSA γ 14 (upd (γ.2 14) (t1 : Int32).toNatClampNeg t0)) 15 (upd ((mSA γ 14 (upd (γ.2 14) (t1 : Int32).toNatClampNeg t0)).2 15) (y4 : Int32).toNatClampNeg 0)) 16 (upd ((mSA (mSA γ 14 (upd (γ.2 14) (t1 : Int32).toNatClampNeg t0)) 15 (upd ((mSA γ 14 (upd (γ.2 14) (t1 : Int32).toNatClampNeg t0)).2 15) (y4 : Int32).toNatClampNeg 0)).2 16) (y4 : Int32).toNatClampNeg 0)) 17 (upd ((mSA (mSA (mSA γ 14 (upd (γ.2 14) (t1 : Int32).toNatClampNeg t0)) 15 (upd ((mSA γ 14 (upd (γ.2 14) (t1 : Int32).toNatClampNeg t0)).2 15) (y4 : Int32).toNatClampNeg 0)) 16 (upd ((mSA (mSA γ 14 (upd (γ.2 14) (t1 : Int32).toNatClampNeg t0)) 15 (upd ((mSA γ 14 (upd (γ.2 14) (t1 : Int32).toNatClampNeg t0)).2 15) (y4 : Int32).toNatClampNeg 0)).2 16) (y4 : Int32).toNatClampNeg 0)).2 17) (y4 : Int32).toNatClampNeg 0)).2 18) (y4 : Int32).toNatClampNeg 0)) 19 (upd ((mSA (mSA (mSA (mSA (mSA γ 14 (upd (γ.2 14) (t1 : Int32).toNatClampNeg t0)) 15 (upd ((mSA γ 14 (upd (γ.2 14) (t1 : Int32).toNatClampNeg t0)).2 15) (y4 : Int32).toNatClampNeg 0)) 16 (upd ((mSA (mSA γ 14 (upd (γ.2 14) (t1 : Int32).toNatClampNeg t0)) 15 (upd ((mSA γ 14 (upd (γ.2 14) (t1 : Int32).toNatClampNeg t0)).2 15) (y4 : Int32).toNatClampNeg 0)).2 16) (y4 : Int32).toNatClampNeg 0)) 17 (upd ((mSA (mSA (mSA γ 14 (upd (γ.2 14) (t1 : Int32).toNatClampNeg t0)) 15 (upd ((mSA γ 14 (upd (γ.2 14) (t1 : Int32).toNatClampNeg t0)).2 15) (y4 : Int32).toNatClampNeg 0)) 16 (upd ((mSA (mSA γ 14 (upd (γ.2 14) (t1 : Int32).toNatClampNeg t0)) 15 (upd ((mSA γ 14 (upd (γ.2 14) (t1 : Int32).toNatClampNeg t0)).2 15) (y4 : Int32).toNatClampNeg 0)).2 16) (y4 : Int32).toNatClampNeg 0)).2 17) (y4 : Int32).toNatClampNeg 0)) 18 (upd ((mSA (mSA (mSA (mSA γ 14 (upd (γ.2 14) (t1 : Int32).toNatClampNeg t0)) 15 (upd ((mSA γ 14 (upd (γ.2 14) (t1 : Int32).toNatClampNeg t0)).2 15) (y4 : Int32).toNatClampNeg 0)) 16 (upd ((mSA (mSA γ 14 (upd (γ.2 14) (t1 : Int32).toNatClampNeg t0)) 15 (upd ((mSA γ 14 (upd (γ.2 14) (t1 : Int32).toNatClampNeg t0)).2 15) (y4 : Int32).toNatClampNeg 0)).2 16) (y4 : Int32).toNatClampNeg 0)) 17 (upd ((mSA (mSA (mSA γ 14 (upd (γ.2 14) (t1 : Int32).toNatClampNeg t0)) 15 (upd ((mSA γ 14 (upd (γ.2 14) (t1 : Int32).toNatClampNeg t0)).2 15) (y4 : Int32).toNatClampNeg 0)) 16 (upd ((mSA (mSA γ 14 (upd (γ.2 14) (t1 : Int32).toNatClampNeg t0)) 15 (upd ((mSA γ 14 (upd (γ.2 14) (t1 : Int32).toNatClampNeg t0)).2 15) (y4 : Int32).toNatClampNeg 0)).2 16) (y4 : Int32).toNatClampNeg 0)).2 17) (y4 : Int32).toNatClampNeg 0)).2 18) (y4 : Int32).toNatClampNeg 0)).2 19) (y4 : Int32).toNatClampNeg 0)))))))))
def f_Mod_stated_j125 (N : Nat)  (y2 : Int32) (y3 : Int32) (y1 : Int32) (t0 : Int32) (t1 : Int32) (γ : mS) : Option (kO × mS) := mBv (f_Mod_room N (t1 + t0) γ) fun α29 => (if (α29.1 16) < 0 ∨ 301 ≤ ((α29.1 16) : Int32).toNatClampNeg then none else (mBi (f_Mod_keep N y2 (mSA (mSi α29 16 ((α29.1 16) + 1)) 12 (upd ((mSi α29 16 ((α29.1 16) + 1)).2 12) ((α29.1 16) : Int32).toNatClampNeg y1))) fun v34 α32 => (if (α29.1 16) < 0 ∨ 301 ≤ ((α29.1 16) : Int32).toNatClampNeg then none else (if 0 ≤ y3 then (mBi (f_Mod_keep N y3 (mSA α32 13 (upd (α32.2 13) ((α29.1 16) : Int32).toNatClampNeg v34))) fun v39 α37 => (f_Mod_stated_j181 N (α29.1 16) v39 (α29.1 16) α37)) else (f_Mod_stated_j181 N (α29.1 16) (-1) (α29.1 16) (mSA α32 13 (upd (α32.2 13) ((α29.1 16) : Int32).toNatClampNeg v34)))))))
def f_Mod_stated_j104 (N : Nat)  (y2 : Int32) (y3 : Int32) (y1 : Int32) (γ : mS) : Option (kO × mS) := if y2 < 0 ∨ 400000 ≤ (y2 : Int32).toNatClampNeg then none else (if 0 ≤ y3 then (if y3 < 0 ∨ 400000 ≤ (y3 : Int32).toNatClampNeg then none else (f_Mod_stated_j125 N y2 y3 y1 (γ.2 6 (y3 : Int32).toNatClampNeg) (γ.2 6 (y2 : Int32).toNatClampNeg) γ)) else (f_Mod_stated_j125 N y2 y3 y1 0 (γ.2 6 (y2 : Int32).toNatClampNeg) γ))
def f_Mod_stated_j86 (N : Nat)  (y2 : Int32) (y3 : Int32) (y1 : Int32) (γ : mS) : Option (kO × mS) := mBi ((G_check N dp_check).2.2.2 y2 0 γ) fun v24 α22 => (if y3 < 0 then (f_Mod_stated_j104 N y2 y3 y1 α22) else (mBv ((G_check N dp_check).1 y3 y2 0 α22) fun α46 => (f_Mod_stated_j104 N y2 y3 y1 α46)))
def f_Mod_stated_j66 (N : Nat)  (y3 : Int32) (y2 : Int32) (y1 : Int32) (t0 : Int32) (t1 : Int32) (γ : mS) : Option (kO × mS) := mBv (f_Mod_together N (t1 + t0) γ) fun α16 => (mBi (f_Mod_alone N y2 α16) fun v20 α18 => (if y3 < 0 then (f_Mod_stated_j86 N v20 y3 y1 α18) else (mBi (f_Mod_alone N y3 α18) fun v50 α48 => (f_Mod_stated_j86 N v20 v50 y1 α48))))
def f_Mod_stated_j39 (N : Nat)  (y3 : Int32) (y2 : Int32) (y1 : Int32) (γ : mS) : Option (kO × mS) := mBv (f_Mod_must N 46 γ) fun α11 => (if y2 < 0 ∨ 400000 ≤ (y2 : Int32).toNatClampNeg then none else (if 0 ≤ y3 then (if y3 < 0 ∨ 400000 ≤ (y3 : Int32).toNatClampNeg then none else (f_Mod_stated_j66 N y3 y2 y1 (α11.2 6 (y3 : Int32).toNatClampNeg) (α11.2 6 (y2 : Int32).toNatClampNeg) α11)) else (f_Mod_stated_j66 N y3 y2 y1 0 (α11.2 6 (y2 : Int32).toNatClampNeg) α11)))
def f_Mod_stated (N : Nat) (a1 : Int32) (α : mS) : Option (kO × mS) := mBv (f_Mod_take N α) fun α1 => (mBv (f_Mod_newName N α1) fun α3 => (mBv (f_Mod_must N 58 α3) fun α5 => (mBi ((G_applied N dp_applied).2.2.2.2.2 0 α5) fun v9 α7 => (if a1 = 0 then (f_Mod_stated_j39 N (-1) v9 a1 α7) else (mBv (f_Mod_must N 300 α7) fun α51 => (mBi ((G_applied N dp_applied).2.2.2.2.2 0 α51) fun v55 α53 => (f_Mod_stated_j39 N v55 v9 a1 α53)))))))
set_option maxHeartbeats 4000000 in
set_option maxRecDepth 100000 in
theorem k_Mod_stated {l : Launch} {g : mG} {α : mS} (N : Nat) (a1 : Int32)  : ∀ x, f_Mod_stated N a1 α = some x → mC l g y_Mod_stated b_Mod_stated 5 none (1793) (50601) [.ref (mad g 0), .int a1] α (mQr x) := by
  intro x h
  unfold f_Mod_stated at h
  refine mc_ofW (by decide) (fun A p e s m args below meth c S hr hlocks hno hargs E hI => ?_)
  have hx := S.1
  have hb := S.2.1
  have hown := S.2.2.2.1
  have hT := S.2.2.2.2
  subst hargs
  have hl := lv_entry ([.ref (mad g 0), .int a1]) (n := 5) (Nat.le_of_ble_eq_true rfl)
  rw [lg_entry_eq]
  generalize (lg_sl ([.ref (mad g 0), .int a1]) ++ List.replicate (5 - (lg_sl ([.ref (mad g 0), .int a1])).length) Slot.unset).toArray = ls at hl ⊢
  have hl : lv_has ls 5 [(0, .ref (mad g 0)), (1, .int a1)] := hl
  have J181 : ∀ (y4 : Int32) (t0 : Int32) (t1 : Int32) (γ : mS) (H : Heap) (locs : List Loc) (ls : Array Slot), f_Mod_stated_j181 N y4 t0 t1 γ = some x → mI g A s γ H locs → lv_has ls 5 [(4, .int y4), (0, .ref (mad g 0))] → W p l e (mR (1793) (50601)) s m ([.ref (mad g 0), .int a1]).toArray below meth c H locs 0 0 (vEQ below (mQ g A (mQr x)) ([.ref (mad g 0), .int a1]).toArray s A) (F0 m 181 ls [.int t0, .int t1, .ref (mad g 15)]) := by
    intro y4 t0 t1 γ H locs ls h hI hl
    unfold f_Mod_stated_j181 at h
    by_cases c40 : t1 < 0 ∨ 301 ≤ (t1 : Int32).toNatClampNeg
    · replace h := Eq.trans (if_pos c40).symm h
      cases h
    · replace h := Eq.trans (if_neg c40).symm h
      refine ms_valueOf S E hI c40 d_Mod_stated_181 (fun H locs hI => ?_)
      refine lv_aload_n hx hb d_Mod_stated_182 rfl (lv_at hl 1 rfl) ?_
      refine mf_parameters S E hI vt_1299 d_Mod_stated_183 ?_
      refine lv_iload hx hb d_Mod_stated_186 (lv_at hl 0 rfl) ?_
      refine lv_iconst (v := 0) hx hb d_Mod_stated_188 (by decide) ?_
      by_cases c41 : y4 < 0 ∨ 301 ≤ (y4 : Int32).toNatClampNeg
      · replace h := Eq.trans (if_pos c41).symm h
        cases h
      · replace h := Eq.trans (if_neg c41).symm h
        refine ms_parameters S E hI c41 d_Mod_stated_189 (fun H locs hI => ?_)
        refine lv_aload_n hx hb d_Mod_stated_190 rfl (lv_at hl 1 rfl) ?_
        refine mf_indices S E hI vt_1300 d_Mod_stated_191 ?_
        refine lv_iload hx hb d_Mod_stated_194 (lv_at hl 0 rfl) ?_
        refine lv_iconst (v := 0) hx hb d_Mod_stated_196 (by decide) ?_
        by_cases c42 : y4 < 0 ∨ 301 ≤ (y4 : Int32).toNatClampNeg
        · replace h := Eq.trans (if_pos c42).symm h
          cases h
        · replace h := Eq.trans (if_neg c42).symm h
          refine ms_indices S E hI c42 d_Mod_stated_197 (fun H locs hI => ?_)
          refine lv_aload_n hx hb d_Mod_stated_198 rfl (lv_at hl 1 rfl) ?_
          refine mf_constructors S E hI vt_1301 d_Mod_stated_199 ?_
          refine lv_iload hx hb d_Mod_stated_202 (lv_at hl 0 rfl) ?_
          refine lv_iconst (v := 0) hx hb d_Mod_stated_204 (by decide) ?_
          by_cases c43 : y4 < 0 ∨ 301 ≤ (y4 : Int32).toNatClampNeg
          · replace h := Eq.trans (if_pos c43).symm h
            cases h
          · replace h := Eq.trans (if_neg c43).symm h
            refine ms_constructors S E hI c43 d_Mod_stated_205 (fun H locs hI => ?_)
            refine lv_aload_n hx hb d_Mod_stated_206 rfl (lv_at hl 1 rfl) ?_
            refine mf_arguments S E hI vt_1302 d_Mod_stated_207 ?_
            refine lv_iload hx hb d_Mod_stated_210 (lv_at hl 0 rfl) ?_
            refine lv_iconst (v := 0) hx hb d_Mod_stated_212 (by decide) ?_
            by_cases c44 : y4 < 0 ∨ 301 ≤ (y4 : Int32).toNatClampNeg
            · replace h := Eq.trans (if_pos c44).symm h
              cases h
            · replace h := Eq.trans (if_neg c44).symm h
              refine ms_arguments S E hI c44 d_Mod_stated_213 (fun H locs hI => ?_)
              refine lv_aload_n hx hb d_Mod_stated_214 rfl (lv_at hl 1 rfl) ?_
              refine mf_recursive S E hI vt_1303 d_Mod_stated_215 ?_
              refine lv_iload hx hb d_Mod_stated_218 (lv_at hl 0 rfl) ?_
              refine lv_iconst (v := 0) hx hb d_Mod_stated_220 (by decide) ?_
              by_cases c45 : y4 < 0 ∨ 301 ≤ (y4 : Int32).toNatClampNeg
              · replace h := Eq.trans (if_pos c45).symm h
                cases h
              · replace h := Eq.trans (if_neg c45).symm h
                refine ms_recursive S E hI c45 d_Mod_stated_221 (fun H locs hI => ?_)
                exact mc_vret hx hb hr hlocks E hI h d_Mod_stated_222
  have J125 : ∀ (y2 : Int32) (y3 : Int32) (y1 : Int32) (t0 : Int32) (t1 : Int32) (γ : mS) (H : Heap) (locs : List Loc) (ls : Array Slot), f_Mod_stated_j125 N y2 y3 y1 t0 t1 γ = some x → mI g A s γ H locs → lv_has ls 5 [(2, .int y2), (3, .int y3), (0, .ref (mad g 0)), (1, .int y1)] → W p l e (mR (1793) (50601)) s m ([.ref (mad g 0), .int a1]).toArray below meth c H locs 0 0 (vEQ below (mQ g A (mQr x)) ([.ref (mad g 0), .int a1]).toArray s A) (F0 m 125 ls [.int t0, .int t1, .ref (mad g 0)]) := by
    intro y2 y3 y1 t0 t1 γ H locs ls h hI hl
    unfold f_Mod_stated_j125 at h
    refine lv_iadd hx hb d_Mod_stated_125 ?_
    refine mg_cV (As := [.int (t1 + t0)]) (rest := []) h (k_Mod_room (l := l) (g := g) (α := γ) N (t1 + t0)) S hlocks hno E hI kw_Mod_525 ⟨Nat.le_of_ble_eq_true rfl, Nat.le_of_ble_eq_true rfl⟩ (mv_Mod E hI) rfl hl.1 rfl (Nat.le_of_ble_eq_true rfl) d_Mod_stated_126 (fun α29 H locs e30 h hI => ?_)
    refine lv_aload_n hx hb d_Mod_stated_129 rfl (lv_at hl 2 rfl) ?_
    refine lv_dup hx hb d_Mod_stated_130 rfl ?_
    refine mf_constants S E hI vt_1295 d_Mod_stated_131 ?_
    refine lv_dup_x1 hx hb d_Mod_stated_134 rfl rfl ?_
    refine lv_iconst (v := 1) hx hb d_Mod_stated_135 (by decide) ?_
    refine lv_iadd hx hb d_Mod_stated_136 ?_
    refine mp_constants S E hI vt_1295 d_Mod_stated_137 (fun H locs hI => ?_)
    refine lv_istore (lv' := [(4, .int (α29.1 16)), (2, .int y2), (3, .int y3), (0, .ref (mad g 0)), (1, .int y1)]) hx hb d_Mod_stated_140 hl (by decide) rfl (fun ls hl => ?_)
    refine lv_aload_n hx hb d_Mod_stated_142 rfl (lv_at hl 3 rfl) ?_
    refine mf_sortOf S E hI vt_1296 d_Mod_stated_143 ?_
    refine lv_iload hx hb d_Mod_stated_146 (lv_at hl 0 rfl) ?_
    refine lv_iload_n hx hb d_Mod_stated_148 rfl (lv_at hl 4 rfl) ?_
    by_cases c31 : (α29.1 16) < 0 ∨ 301 ≤ ((α29.1 16) : Int32).toNatClampNeg
    · replace h := Eq.trans (if_pos c31).symm h
      cases h
    · replace h := Eq.trans (if_neg c31).symm h
      refine ms_sortOf S E hI c31 d_Mod_stated_149 (fun H locs hI => ?_)
      refine lv_aload_n hx hb d_Mod_stated_150 rfl (lv_at hl 3 rfl) ?_
      refine mf_typeOf S E hI vt_1297 d_Mod_stated_151 ?_
      refine lv_iload hx hb d_Mod_stated_154 (lv_at hl 0 rfl) ?_
      refine lv_aload_n hx hb d_Mod_stated_156 rfl (lv_at hl 3 rfl) ?_
      refine lv_iload_n hx hb d_Mod_stated_157 rfl (lv_at hl 1 rfl) ?_
      refine mg_cI (As := [.int y2]) (rest := [.int (α29.1 16), .ref (mad g 14)]) h (k_Mod_keep (l := l) (g := g) (α := (mSA (mSi α29 16 ((α29.1 16) + 1)) 12 (upd ((mSi α29 16 ((α29.1 16) + 1)).2 12) ((α29.1 16) : Int32).toNatClampNeg y1))) N y2) S hlocks hno E hI kw_Mod_528 ⟨Nat.le_of_ble_eq_true rfl, Nat.le_of_ble_eq_true rfl⟩ (mv_Mod E hI) rfl hl.1 rfl (Nat.le_of_ble_eq_true rfl) d_Mod_stated_158 (fun v34 α32 H locs e33 h hI => ?_)
      by_cases c35 : (α29.1 16) < 0 ∨ 301 ≤ ((α29.1 16) : Int32).toNatClampNeg
      · replace h := Eq.trans (if_pos c35).symm h
        cases h
      · replace h := Eq.trans (if_neg c35).symm h
        refine ms_typeOf S E hI c35 d_Mod_stated_161 (fun H locs hI => ?_)
        refine lv_aload_n hx hb d_Mod_stated_162 rfl (lv_at hl 3 rfl) ?_
        refine mf_valueOf S E hI vt_1298 d_Mod_stated_163 ?_
        refine lv_iload hx hb d_Mod_stated_166 (lv_at hl 0 rfl) ?_
        refine lv_iload_n hx hb d_Mod_stated_168 rfl (lv_at hl 2 rfl) ?_
        refine lv_if_ge (tgt := 176) hx hb d_Mod_stated_169 (by decide) (fun c36 => ?_) (fun c36 => ?_)
        · replace h := Eq.trans (if_pos c36).symm h
          refine lv_aload_n hx hb d_Mod_stated_176 rfl (lv_at hl 3 rfl) ?_
          refine lv_iload_n hx hb d_Mod_stated_177 rfl (lv_at hl 2 rfl) ?_
          refine mg_cI (As := [.int y3]) (rest := [.int (α29.1 16), .ref (mad g 15)]) h (k_Mod_keep (l := l) (g := g) (α := (mSA α32 13 (upd (α32.2 13) ((α29.1 16) : Int32).toNatClampNeg v34))) N y3) S hlocks hno E hI kw_Mod_528 ⟨Nat.le_of_ble_eq_true rfl, Nat.le_of_ble_eq_true rfl⟩ (mv_Mod E hI) rfl hl.1 rfl (Nat.le_of_ble_eq_true rfl) d_Mod_stated_178 (fun v39 α37 H locs e38 h hI => ?_)
          exact J181 (α29.1 16) v39 (α29.1 16) _ _ _ _ h hI (lv_sub hl [0, 3] rfl)
        · replace h := Eq.trans (if_neg c36).symm h
          refine lv_iconst (v := (-1)) hx hb d_Mod_stated_172 (by decide) ?_
          refine lv_goto (tgt := 181) hx hb d_Mod_stated_173 (by decide) ?_
          exact J181 (α29.1 16) (-1) (α29.1 16) _ _ _ _ h hI (lv_sub hl [0, 3] rfl)
  have J104 : ∀ (y2 : Int32) (y3 : Int32) (y1 : Int32) (γ : mS) (H : Heap) (locs : List Loc) (ls : Array Slot), f_Mod_stated_j104 N y2 y3 y1 γ = some x → mI g A s γ H locs → lv_has ls 5 [(2, .int y2), (3, .int y3), (0, .ref (mad g 0)), (1, .int y1)] → W p l e (mR (1793) (50601)) s m ([.ref (mad g 0), .int a1]).toArray below meth c H locs 0 0 (vEQ below (mQ g A (mQr x)) ([.ref (mad g 0), .int a1]).toArray s A) (F0 m 104 ls []) := by
    intro y2 y3 y1 γ H locs ls h hI hl
    unfold f_Mod_stated_j104 at h
    refine lv_aload_n hx hb d_Mod_stated_104 rfl (lv_at hl 2 rfl) ?_
    refine lv_aload_n hx hb d_Mod_stated_105 rfl (lv_at hl 2 rfl) ?_
    refine mf_big S E hI vt_1283 d_Mod_stated_106 ?_
    refine lv_iload_n hx hb d_Mod_stated_109 rfl (lv_at hl 0 rfl) ?_
    by_cases c26 : y2 < 0 ∨ 400000 ≤ (y2 : Int32).toNatClampNeg
    · replace h := Eq.trans (if_pos c26).symm h
      cases h
    · replace h := Eq.trans (if_neg c26).symm h
      refine ml_big S E hI c26 d_Mod_stated_110 ?_
      refine lv_iload_n hx hb d_Mod_stated_111 rfl (lv_at hl 1 rfl) ?_
      refine lv_if_ge (tgt := 119) hx hb d_Mod_stated_112 (by decide) (fun c27 => ?_) (fun c27 => ?_)
      · replace h := Eq.trans (if_pos c27).symm h
        refine lv_aload_n hx hb d_Mod_stated_119 rfl (lv_at hl 2 rfl) ?_
        refine mf_big S E hI vt_1283 d_Mod_stated_120 ?_
        refine lv_iload_n hx hb d_Mod_stated_123 rfl (lv_at hl 1 rfl) ?_
        by_cases c28 : y3 < 0 ∨ 400000 ≤ (y3 : Int32).toNatClampNeg
        · replace h := Eq.trans (if_pos c28).symm h
          cases h
        · replace h := Eq.trans (if_neg c28).symm h
          refine ml_big S E hI c28 d_Mod_stated_124 ?_
          exact J125 y2 y3 y1 (γ.2 6 (y3 : Int32).toNatClampNeg) (γ.2 6 (y2 : Int32).toNatClampNeg) _ _ _ _ h hI (lv_sub hl [0, 1, 2, 3] rfl)
      · replace h := Eq.trans (if_neg c27).symm h
        refine lv_iconst (v := 0) hx hb d_Mod_stated_115 (by decide) ?_
        refine lv_goto (tgt := 125) hx hb d_Mod_stated_116 (by decide) ?_
        exact J125 y2 y3 y1 0 (γ.2 6 (y2 : Int32).toNatClampNeg) _ _ _ _ h hI (lv_sub hl [0, 1, 2, 3] rfl)
  have J86 : ∀ (y2 : Int32) (y3 : Int32) (y1 : Int32) (γ : mS) (H : Heap) (locs : List Loc) (ls : Array Slot), f_Mod_stated_j86 N y2 y3 y1 γ = some x → mI g A s γ H locs → lv_has ls 5 [(2, .int y2), (3, .int y3), (0, .ref (mad g 0)), (1, .int y1)] → W p l e (mR (1793) (50601)) s m ([.ref (mad g 0), .int a1]).toArray below meth c H locs 0 0 (vEQ below (mQ g A (mQr x)) ([.ref (mad g 0), .int a1]).toArray s A) (F0 m 86 ls []) := by
    intro y2 y3 y1 γ H locs ls h hI hl
    unfold f_Mod_stated_j86 at h
    refine lv_aload_n hx hb d_Mod_stated_86 rfl (lv_at hl 2 rfl) ?_
    refine lv_iload_n hx hb d_Mod_stated_87 rfl (lv_at hl 0 rfl) ?_
    refine lv_iconst (v := 0) hx hb d_Mod_stated_88 (by decide) ?_
    refine mg_cI (As := [.int y2, .int 0]) (rest := []) h (((ok_check (l := l) (g := g) N dp_check).2.2.2) y2 0 γ) S hlocks hno E hI kw_Mod_477 ⟨Nat.le_of_ble_eq_true rfl, Nat.le_of_ble_eq_true rfl⟩ (mv_Mod E hI) rfl hl.1 rfl (Nat.le_of_ble_eq_true rfl) d_Mod_stated_89 (fun v24 α22 H locs e23 h hI => ?_)
    refine lv_pop hx hb d_Mod_stated_92 rfl ?_
    refine lv_iload_n hx hb d_Mod_stated_93 rfl (lv_at hl 1 rfl) ?_
    refine lv_if_lt (tgt := 104) hx hb d_Mod_stated_94 (by decide) (fun c25 => ?_) (fun c25 => ?_)
    · replace h := Eq.trans (if_pos c25).symm h
      exact J104 y2 y3 y1 _ _ _ _ h hI (lv_sub hl [0, 1, 2, 3] rfl)
    · replace h := Eq.trans (if_neg c25).symm h
      refine lv_aload_n hx hb d_Mod_stated_97 rfl (lv_at hl 2 rfl) ?_
      refine lv_iload_n hx hb d_Mod_stated_98 rfl (lv_at hl 1 rfl) ?_
      refine lv_iload_n hx hb d_Mod_stated_99 rfl (lv_at hl 0 rfl) ?_
      refine lv_iconst (v := 0) hx hb d_Mod_stated_100 (by decide) ?_
      refine mg_cV (As := [.int y3, .int y2, .int 0]) (rest := []) h (((ok_check (l := l) (g := g) N dp_check).1) y3 y2 0 α22) S hlocks hno E hI kw_Mod_485 ⟨Nat.le_of_ble_eq_true rfl, Nat.le_of_ble_eq_true rfl⟩ (mv_Mod E hI) rfl hl.1 rfl (Nat.le_of_ble_eq_true rfl) d_Mod_stated_101 (fun α46 H locs e47 h hI => ?_)
      exact J104 y2 y3 y1 _ _ _ _ h hI (lv_sub hl [0, 1, 2, 3] rfl)
  have J66 : ∀ (y3 : Int32) (y2 : Int32) (y1 : Int32) (t0 : Int32) (t1 : Int32) (γ : mS) (H : Heap) (locs : List Loc) (ls : Array Slot), f_Mod_stated_j66 N y3 y2 y1 t0 t1 γ = some x → mI g A s γ H locs → lv_has ls 5 [(3, .int y3), (2, .int y2), (0, .ref (mad g 0)), (1, .int y1)] → W p l e (mR (1793) (50601)) s m ([.ref (mad g 0), .int a1]).toArray below meth c H locs 0 0 (vEQ below (mQ g A (mQr x)) ([.ref (mad g 0), .int a1]).toArray s A) (F0 m 66 ls [.int t0, .int t1, .ref (mad g 0)]) := by
    intro y3 y2 y1 t0 t1 γ H locs ls h hI hl
    unfold f_Mod_stated_j66 at h
    refine lv_iadd hx hb d_Mod_stated_66 ?_
    refine mg_cV (As := [.int (t1 + t0)]) (rest := []) h (k_Mod_together (l := l) (g := g) (α := γ) N (t1 + t0)) S hlocks hno E hI kw_Mod_519 ⟨Nat.le_of_ble_eq_true rfl, Nat.le_of_ble_eq_true rfl⟩ (mv_Mod E hI) rfl hl.1 rfl (Nat.le_of_ble_eq_true rfl) d_Mod_stated_67 (fun α16 H locs e17 h hI => ?_)
    refine lv_aload_n hx hb d_Mod_stated_70 rfl (lv_at hl 2 rfl) ?_
    refine lv_iload_n hx hb d_Mod_stated_71 rfl (lv_at hl 1 rfl) ?_
    refine mg_cI (As := [.int y2]) (rest := []) h (k_Mod_alone (l := l) (g := g) (α := α16) N y2) S hlocks hno E hI kw_Mod_522 ⟨Nat.le_of_ble_eq_true rfl, Nat.le_of_ble_eq_true rfl⟩ (mv_Mod E hI) rfl hl.1 rfl (Nat.le_of_ble_eq_true rfl) d_Mod_stated_72 (fun v20 α18 H locs e19 h hI => ?_)
    refine lv_istore_n (lv' := [(2, .int v20), (3, .int y3), (0, .ref (mad g 0)), (1, .int y1)]) hx hb d_Mod_stated_75 rfl hl (by decide) rfl (fun ls hl => ?_)
    refine lv_iload_n hx hb d_Mod_stated_76 rfl (lv_at hl 1 rfl) ?_
    refine lv_if_lt (tgt := 86) hx hb d_Mod_stated_77 (by decide) (fun c21 => ?_) (fun c21 => ?_)
    · replace h := Eq.trans (if_pos c21).symm h
      exact J86 v20 y3 y1 _ _ _ _ h hI (lv_sub hl [0, 1, 2, 3] rfl)
    · replace h := Eq.trans (if_neg c21).symm h
      refine lv_aload_n hx hb d_Mod_stated_80 rfl (lv_at hl 2 rfl) ?_
      refine lv_iload_n hx hb d_Mod_stated_81 rfl (lv_at hl 1 rfl) ?_
      refine mg_cI (As := [.int y3]) (rest := []) h (k_Mod_alone (l := l) (g := g) (α := α18) N y3) S hlocks hno E hI kw_Mod_522 ⟨Nat.le_of_ble_eq_true rfl, Nat.le_of_ble_eq_true rfl⟩ (mv_Mod E hI) rfl hl.1 rfl (Nat.le_of_ble_eq_true rfl) d_Mod_stated_82 (fun v50 α48 H locs e49 h hI => ?_)
      refine lv_istore_n (lv' := [(3, .int v50), (2, .int v20), (0, .ref (mad g 0)), (1, .int y1)]) hx hb d_Mod_stated_85 rfl hl (by decide) rfl (fun ls hl => ?_)
      exact J86 v20 v50 y1 _ _ _ _ h hI (lv_sub hl [1, 0, 2, 3] rfl)
  have J39 : ∀ (y3 : Int32) (y2 : Int32) (y1 : Int32) (γ : mS) (H : Heap) (locs : List Loc) (ls : Array Slot), f_Mod_stated_j39 N y3 y2 y1 γ = some x → mI g A s γ H locs → lv_has ls 5 [(3, .int y3), (2, .int y2), (0, .ref (mad g 0)), (1, .int y1)] → W p l e (mR (1793) (50601)) s m ([.ref (mad g 0), .int a1]).toArray below meth c H locs 0 0 (vEQ below (mQ g A (mQr x)) ([.ref (mad g 0), .int a1]).toArray s A) (F0 m 39 ls []) := by
    intro y3 y2 y1 γ H locs ls h hI hl
    unfold f_Mod_stated_j39 at h
    refine lv_aload_n hx hb d_Mod_stated_39 rfl (lv_at hl 2 rfl) ?_
    refine lv_bipush (v := 46) hx hb d_Mod_stated_40 (by decide) ?_
    refine mg_cV (As := [.int 46]) (rest := []) h (k_Mod_must (l := l) (g := g) (α := γ) N 46) S hlocks hno E hI kw_Mod_405 ⟨Nat.le_of_ble_eq_true rfl, Nat.le_of_ble_eq_true rfl⟩ (mv_Mod E hI) rfl hl.1 rfl (Nat.le_of_ble_eq_true rfl) d_Mod_stated_42 (fun α11 H locs e12 h hI => ?_)
    refine lv_aload_n hx hb d_Mod_stated_45 rfl (lv_at hl 2 rfl) ?_
    refine lv_aload_n hx hb d_Mod_stated_46 rfl (lv_at hl 2 rfl) ?_
    refine mf_big S E hI vt_1283 d_Mod_stated_47 ?_
    refine lv_iload_n hx hb d_Mod_stated_50 rfl (lv_at hl 1 rfl) ?_
    by_cases c13 : y2 < 0 ∨ 400000 ≤ (y2 : Int32).toNatClampNeg
    · replace h := Eq.trans (if_pos c13).symm h
      cases h
    · replace h := Eq.trans (if_neg c13).symm h
      refine ml_big S E hI c13 d_Mod_stated_51 ?_
      refine lv_iload_n hx hb d_Mod_stated_52 rfl (lv_at hl 0 rfl) ?_
      refine lv_if_ge (tgt := 60) hx hb d_Mod_stated_53 (by decide) (fun c14 => ?_) (fun c14 => ?_)
      · replace h := Eq.trans (if_pos c14).symm h
        refine lv_aload_n hx hb d_Mod_stated_60 rfl (lv_at hl 2 rfl) ?_
        refine mf_big S E hI vt_1283 d_Mod_stated_61 ?_
        refine lv_iload_n hx hb d_Mod_stated_64 rfl (lv_at hl 0 rfl) ?_
        by_cases c15 : y3 < 0 ∨ 400000 ≤ (y3 : Int32).toNatClampNeg
        · replace h := Eq.trans (if_pos c15).symm h
          cases h
        · replace h := Eq.trans (if_neg c15).symm h
          refine ml_big S E hI c15 d_Mod_stated_65 ?_
          exact J66 y3 y2 y1 (α11.2 6 (y3 : Int32).toNatClampNeg) (α11.2 6 (y2 : Int32).toNatClampNeg) _ _ _ _ h hI (lv_sub hl [0, 1, 2, 3] rfl)
      · replace h := Eq.trans (if_neg c14).symm h
        refine lv_iconst (v := 0) hx hb d_Mod_stated_56 (by decide) ?_
        refine lv_goto (tgt := 66) hx hb d_Mod_stated_57 (by decide) ?_
        exact J66 y3 y2 y1 0 (α11.2 6 (y2 : Int32).toNatClampNeg) _ _ _ _ h hI (lv_sub hl [0, 1, 2, 3] rfl)
  refine lv_aload_n hx hb d_Mod_stated_0 rfl (lv_at hl 0 rfl) ?_
  refine mg_cV (As := []) (rest := []) h (k_Mod_take (l := l) (g := g) (α := α) N) S hlocks hno E hI kw_Mod_281 ⟨Nat.le_of_ble_eq_true rfl, Nat.le_of_ble_eq_true rfl⟩ (mv_Mod E hI) rfl hl.1 rfl (Nat.le_of_ble_eq_true rfl) d_Mod_stated_1 (fun α1 H locs e2 h hI => ?_)
  refine lv_aload_n hx hb d_Mod_stated_4 rfl (lv_at hl 0 rfl) ?_
  refine mg_cV (As := []) (rest := []) h (k_Mod_newName (l := l) (g := g) (α := α1) N) S hlocks hno E hI kw_Mod_516 ⟨Nat.le_of_ble_eq_true rfl, Nat.le_of_ble_eq_true rfl⟩ (mv_Mod E hI) rfl hl.1 rfl (Nat.le_of_ble_eq_true rfl) d_Mod_stated_5 (fun α3 H locs e4 h hI => ?_)
  refine lv_aload_n hx hb d_Mod_stated_8 rfl (lv_at hl 0 rfl) ?_
  refine lv_bipush (v := 58) hx hb d_Mod_stated_9 (by decide) ?_
  refine mg_cV (As := [.int 58]) (rest := []) h (k_Mod_must (l := l) (g := g) (α := α3) N 58) S hlocks hno E hI kw_Mod_405 ⟨Nat.le_of_ble_eq_true rfl, Nat.le_of_ble_eq_true rfl⟩ (mv_Mod E hI) rfl hl.1 rfl (Nat.le_of_ble_eq_true rfl) d_Mod_stated_11 (fun α5 H locs e6 h hI => ?_)
  refine lv_aload_n hx hb d_Mod_stated_14 rfl (lv_at hl 0 rfl) ?_
  refine lv_iconst (v := 0) hx hb d_Mod_stated_15 (by decide) ?_
  refine mg_cI (As := [.int 0]) (rest := []) h (((ok_applied (l := l) (g := g) N dp_applied).2.2.2.2.2) 0 α5) S hlocks hno E hI kw_Mod_399 ⟨Nat.le_of_ble_eq_true rfl, Nat.le_of_ble_eq_true rfl⟩ (mv_Mod E hI) rfl hl.1 rfl (Nat.le_of_ble_eq_true rfl) d_Mod_stated_16 (fun v9 α7 H locs e8 h hI => ?_)
  refine lv_istore_n (lv' := [(2, .int v9), (0, .ref (mad g 0)), (1, .int a1)]) hx hb d_Mod_stated_19 rfl hl (by decide) rfl (fun ls hl => ?_)
  refine lv_iconst (v := (-1)) hx hb d_Mod_stated_20 (by decide) ?_
  refine lv_istore_n (lv' := [(3, .int (-1)), (2, .int v9), (0, .ref (mad g 0)), (1, .int a1)]) hx hb d_Mod_stated_21 rfl hl (by decide) rfl (fun ls hl => ?_)
  refine lv_iload_n hx hb d_Mod_stated_22 rfl (lv_at hl 3 rfl) ?_
  refine lv_if_eq (tgt := 39) hx hb d_Mod_stated_23 (by decide) (fun c10 => ?_) (fun c10 => ?_)
  · replace h := Eq.trans (if_pos c10).symm h
    exact J39 (-1) v9 a1 _ _ _ _ h hI (lv_sub hl [0, 1, 2, 3] rfl)
  · replace h := Eq.trans (if_neg c10).symm h
    refine lv_aload_n hx hb d_Mod_stated_26 rfl (lv_at hl 2 rfl) ?_
    refine lv_sipush (v := 300) hx hb d_Mod_stated_27 (by decide) ?_
    refine mg_cV (As := [.int 300]) (rest := []) h (k_Mod_must (l := l) (g := g) (α := α7) N 300) S hlocks hno E hI kw_Mod_405 ⟨Nat.le_of_ble_eq_true rfl, Nat.le_of_ble_eq_true rfl⟩ (mv_Mod E hI) rfl hl.1 rfl (Nat.le_of_ble_eq_true rfl) d_Mod_stated_30 (fun α51 H locs e52 h hI => ?_)
    refine lv_aload_n hx hb d_Mod_stated_33 rfl (lv_at hl 2 rfl) ?_
    refine lv_iconst (v := 0) hx hb d_Mod_stated_34 (by decide) ?_
    refine mg_cI (As := [.int 0]) (rest := []) h (((ok_applied (l := l) (g := g) N dp_applied).2.2.2.2.2) 0 α51) S hlocks hno E hI kw_Mod_399 ⟨Nat.le_of_ble_eq_true rfl, Nat.le_of_ble_eq_true rfl⟩ (mv_Mod E hI) rfl hl.1 rfl (Nat.le_of_ble_eq_true rfl) d_Mod_stated_35 (fun v55 α53 H locs e54 h hI => ?_)
    refine lv_istore_n (lv' := [(3, .int v55), (2, .int v9), (0, .ref (mad g 0)), (1, .int a1)]) hx hb d_Mod_stated_38 rfl hl (by decide) rfl (fun ls hl => ?_)
    exact J39 v55 v9 a1 _ _ _ _ h hI (lv_sub hl [0, 1, 2, 3] rfl)
def f_Mod_telescope_7 (N : Nat)  : Nat → Int32 → Int32 → mS → Option (kO × mS)
  | 0, _, _, _ => none
  | n + 1, x4_7, x3_7, β7 => if x4_7 < 0 then (some (some (some x3_7), β7)) else (if x4_7 < 0 ∨ 3400 ≤ (x4_7 : Int32).toNatClampNeg then none else (mBi (f_Mod_node N 6 (β7.2 27 (x4_7 : Int32).toNatClampNeg) x3_7 0 β7) fun v5 α3 => (mBi (f_Mod_fits N v5 α3) fun v8 α6 => (f_Mod_telescope_7 N n (x4_7 + (-1)) v8 α6))))
def f_Mod_telescope (N : Nat) (a1 : Int32) (a2 : Int32) (α : mS) : Option (kO × mS) := f_Mod_telescope_7 N N (a1 - 1) a2 α
set_option maxHeartbeats 4000000 in
set_option maxRecDepth 100000 in
theorem k_Mod_telescope {l : Launch} {g : mG} {α : mS} (N : Nat) (a1 : Int32) (a2 : Int32)  : ∀ x, f_Mod_telescope N a1 a2 α = some x → mC l g y_Mod_telescope b_Mod_telescope 5 (some .int) (44) (1285) [.ref (mad g 0), .int a1, .int a2] α (mQr x) := by
  intro x h
  unfold f_Mod_telescope at h
  refine mc_ofW (by decide) (fun A p e s m args below meth c S hr hlocks hno hargs E hI => ?_)
  have hx := S.1
  have hb := S.2.1
  have hown := S.2.2.2.1
  have hT := S.2.2.2.2
  subst hargs
  have hl := lv_entry ([.ref (mad g 0), .int a1, .int a2]) (n := 5) (Nat.le_of_ble_eq_true rfl)
  rw [lg_entry_eq]
  generalize (lg_sl ([.ref (mad g 0), .int a1, .int a2]) ++ List.replicate (5 - (lg_sl ([.ref (mad g 0), .int a1, .int a2])).length) Slot.unset).toArray = ls at hl ⊢
  have hl : lv_has ls 5 [(0, .ref (mad g 0)), (1, .int a1), (2, .int a2)] := hl
  refine lv_iload_n hx hb d_Mod_telescope_0 rfl (lv_at hl 2 rfl) ?_
  refine lv_istore_n (lv' := [(3, .int a2), (0, .ref (mad g 0)), (1, .int a1), (2, .int a2)]) hx hb d_Mod_telescope_1 rfl hl (by decide) rfl (fun ls hl => ?_)
  refine lv_iload_n hx hb d_Mod_telescope_2 rfl (lv_at hl 2 rfl) ?_
  refine lv_iconst (v := 1) hx hb d_Mod_telescope_3 (by decide) ?_
  refine lv_isub hx hb d_Mod_telescope_4 ?_
  refine lv_istore (lv' := [(4, .int (a1 - 1)), (3, .int a2), (0, .ref (mad g 0)), (1, .int a1), (2, .int a2)]) hx hb d_Mod_telescope_5 hl (by decide) rfl (fun ls hl => ?_)
  have L7 : ∀ (n7 : Nat) (x4_7 : Int32) (x3_7 : Int32) (β7 : mS) (H : Heap) (locs : List Loc) (ls : Array Slot), f_Mod_telescope_7 N n7 x4_7 x3_7 β7 = some x → mI g A s β7 H locs → lv_has ls 5 [(4, .int x4_7), (3, .int x3_7), (0, .ref (mad g 0))] → W p l e (mR (44) (1285)) s m ([.ref (mad g 0), .int a1, .int a2]).toArray below meth c H locs 0 0 (vEQ below (mQ g A (mQr x)) ([.ref (mad g 0), .int a1, .int a2]).toArray s A) (F0 m 7 ls []) := by
    intro n7
    induction n7 with
    | zero => intro x4_7 x3_7 β7 H locs ls h hI hl; rw [f_Mod_telescope_7] at h; cases h
    | succ n7 ih7 =>
      intro x4_7 x3_7 β7 H locs ls h hI hl
      rw [f_Mod_telescope_7] at h
      refine lv_iload hx hb d_Mod_telescope_7 (lv_at hl 0 rfl) ?_
      refine lv_if_lt (tgt := 38) hx hb d_Mod_telescope_9 (by decide) (fun c1 => ?_) (fun c1 => ?_)
      · replace h := Eq.trans (if_pos c1).symm h
        refine lv_iload_n hx hb d_Mod_telescope_38 rfl (lv_at hl 1 rfl) ?_
        exact mc_iret (w := x3_7) hx hb hr rfl hlocks E hI h d_Mod_telescope_39
      · replace h := Eq.trans (if_neg c1).symm h
        refine lv_aload_n hx hb d_Mod_telescope_12 rfl (lv_at hl 2 rfl) ?_
        refine lv_aload_n hx hb d_Mod_telescope_13 rfl (lv_at hl 2 rfl) ?_
        refine lv_bipush (v := 6) hx hb d_Mod_telescope_14 (by decide) ?_
        refine lv_aload_n hx hb d_Mod_telescope_16 rfl (lv_at hl 2 rfl) ?_
        refine mf_typeStack S E hI vt_1315 d_Mod_telescope_17 ?_
        refine lv_iload hx hb d_Mod_telescope_20 (lv_at hl 0 rfl) ?_
        by_cases c2 : x4_7 < 0 ∨ 3400 ≤ (x4_7 : Int32).toNatClampNeg
        · replace h := Eq.trans (if_pos c2).symm h
          cases h
        · replace h := Eq.trans (if_neg c2).symm h
          refine ml_typeStack S E hI c2 d_Mod_telescope_22 ?_
          refine lv_iload_n hx hb d_Mod_telescope_23 rfl (lv_at hl 1 rfl) ?_
          refine lv_iconst (v := 0) hx hb d_Mod_telescope_24 (by decide) ?_
          refine mg_cI (As := [.int 6, .int (β7.2 27 (x4_7 : Int32).toNatClampNeg), .int x3_7, .int 0]) (rest := [.ref (mad g 0)]) h (k_Mod_node (l := l) (g := g) (α := β7) N 6 (β7.2 27 (x4_7 : Int32).toNatClampNeg) x3_7 0) S hlocks hno E hI kw_Mod_336 ⟨Nat.le_of_ble_eq_true rfl, Nat.le_of_ble_eq_true rfl⟩ (mv_Mod E hI) rfl hl.1 rfl (Nat.le_of_ble_eq_true rfl) d_Mod_telescope_25 (fun v5 α3 H locs e4 h hI => ?_)
          refine mg_cI (As := [.int v5]) (rest := []) h (k_Mod_fits (l := l) (g := g) (α := α3) N v5) S hlocks hno E hI kw_Mod_402 ⟨Nat.le_of_ble_eq_true rfl, Nat.le_of_ble_eq_true rfl⟩ (mv_Mod E hI) rfl hl.1 rfl (Nat.le_of_ble_eq_true rfl) d_Mod_telescope_28 (fun v8 α6 H locs e7 h hI => ?_)
          refine lv_istore_n (lv' := [(3, .int v8), (4, .int x4_7), (0, .ref (mad g 0))]) hx hb d_Mod_telescope_31 rfl hl (by decide) rfl (fun ls hl => ?_)
          refine lv_iinc (v := (x4_7 + (-1))) (lv' := [(4, .int (x4_7 + (-1))), (3, .int v8), (0, .ref (mad g 0))]) hx hb d_Mod_telescope_32 hl (k := 1) rfl rfl (by decide) rfl (fun ls hl => ?_)
          refine lv_goto (tgt := 7) hx hb d_Mod_telescope_35 (by decide) ?_
          exact ih7 (x4_7 + (-1)) v8 _ _ _ _ h hI (lv_sub hl [0, 1, 2] rfl)
  exact L7 N (a1 - 1) a2 _ _ _ _ h hI (lv_sub hl [0, 1, 2] rfl)
