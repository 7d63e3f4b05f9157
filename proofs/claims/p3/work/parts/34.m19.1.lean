def f_Mod_isFamily_104 (N : Nat)  (α : mS) : Nat → Int32 → Int32 → Int32 → Int32 → Int32 → Option Int32
  | 0, _, _, _, _, _ => none
  | n + 1, x6_104, x1_104, x2_104, x3_104, x4_104 => if (x3_104 + x4_104) ≤ x6_104 then (some 1) else (((f_Mod_nth N x1_104 (x3_104 + x4_104) x6_104 α)).bind fun v12 => ((((G_has N dp_has) v12 x2_104 α)).bind fun v14 => (if v14 = 0 then (f_Mod_isFamily_104 N α n (x6_104 + 1) x1_104 x2_104 x3_104 x4_104) else (some 0))))
def f_Mod_isFamily_46 (N : Nat)  (α : mS) : Nat → Int32 → Int32 → Int32 → Int32 → Int32 → Option Int32
  | 0, _, _, _, _, _ => none
  | n + 1, x6_46, x1_46, x2_46, x3_46, x4_46 => if x3_46 ≤ x6_46 then (f_Mod_isFamily_104 N α N x3_46 x1_46 x2_46 x3_46 x4_46) else (((f_Mod_nth N x1_46 (x3_46 + x4_46) x6_46 α)).bind fun v17 => (if v17 < 0 ∨ 400000 ≤ (v17 : Int32).toNatClampNeg then none else (if (α.2 2 (v17 : Int32).toNatClampNeg) = 3 then (if v17 < 0 ∨ 400000 ≤ (v17 : Int32).toNatClampNeg then none else (if x6_46 < 0 ∨ 5000 ≤ (x6_46 : Int32).toNatClampNeg then none else (if (α.2 3 (v17 : Int32).toNatClampNeg) = (α.2 33 (x6_46 : Int32).toNatClampNeg) then (f_Mod_isFamily_46 N α n (x6_46 + 1) x1_46 x2_46 x3_46 x4_46) else (some 0)))) else (some 0))))
def f_Mod_isFamily (N : Nat) (a1 : Int32) (a2 : Int32) (a3 : Int32) (a4 : Int32) (α : mS) : Option Int32 := ((f_Mod_head N a1 α)).bind fun v1 => (if v1 < 0 ∨ 400000 ≤ (v1 : Int32).toNatClampNeg then none else (if (α.2 2 (v1 : Int32).toNatClampNeg) = 1 then (if v1 < 0 ∨ 400000 ≤ (v1 : Int32).toNatClampNeg then none else (if (α.2 3 (v1 : Int32).toNatClampNeg) = a2 then (((f_Mod_behind N a1 α)).bind fun v7 => (if v7 = (a3 + a4) then (f_Mod_isFamily_46 N α N 0 a1 a2 a3 a4) else (some 0))) else (some 0))) else (some 0)))
set_option maxHeartbeats 4000000 in
set_option maxRecDepth 100000 in
theorem k_Mod_isFamily {l : Launch} {g : mG} {α : mS} (N : Nat) (a1 : Int32) (a2 : Int32) (a3 : Int32) (a4 : Int32)  : ∀ x, f_Mod_isFamily N a1 a2 a3 a4 α = some x → mV l g y_Mod_isFamily b_Mod_isFamily 8 (some .boolean) (262) (6004) [.ref (mad g 0), .int a1, .int a2, .int a3, .int a4] α x := by
  intro x h
  unfold f_Mod_isFamily at h
  refine mv_ofW (by decide) (fun A p e s m args below meth c S hr hlocks hargs E hI => ?_)
  have hx := S.1
  have hb := S.2.1
  have hown := S.2.2.2.1
  have hT := S.2.2.2.2
  subst hargs
  have hl := lv_entry ([.ref (mad g 0), .int a1, .int a2, .int a3, .int a4]) (n := 8) (Nat.le_of_ble_eq_true rfl)
  rw [lg_entry_eq]
  generalize (lg_sl ([.ref (mad g 0), .int a1, .int a2, .int a3, .int a4]) ++ List.replicate (8 - (lg_sl ([.ref (mad g 0), .int a1, .int a2, .int a3, .int a4])).length) Slot.unset).toArray = ls at hl ⊢
  have hl : lv_has ls 8 [(0, .ref (mad g 0)), (1, .int a1), (2, .int a2), (3, .int a3), (4, .int a4)] := hl
  refine lv_aload_n hx hb d_Mod_isFamily_0 rfl (lv_at hl 0 rfl) ?_
  refine lv_iload_n hx hb d_Mod_isFamily_1 rfl (lv_at hl 1 rfl) ?_
  obtain ⟨v1, e2, h⟩ := Option.bind_eq_some_iff.mp h
  refine mg_p (As := [.int a1]) (rest := []) ((k_Mod_head (l := l) (g := g) (α := α) N a1) _ e2) S E hI kw_Mod_446 (Or.inr rfl) ⟨Nat.le_of_ble_eq_true rfl, Nat.le_of_ble_eq_true rfl⟩ (mv_Mod E hI) rfl hl.1 rfl (Nat.le_of_ble_eq_true rfl) d_Mod_isFamily_2 rfl ?_
  refine lv_istore (lv' := [(5, .int v1), (0, .ref (mad g 0)), (1, .int a1), (2, .int a2), (3, .int a3), (4, .int a4)]) hx hb d_Mod_isFamily_5 hl (by decide) rfl (fun ls hl => ?_)
  refine lv_aload_n hx hb d_Mod_isFamily_7 rfl (lv_at hl 1 rfl) ?_
  refine mf_kind S E hI vt_1279 d_Mod_isFamily_8 ?_
  refine lv_iload hx hb d_Mod_isFamily_11 (lv_at hl 0 rfl) ?_
  by_cases c3 : v1 < 0 ∨ 400000 ≤ (v1 : Int32).toNatClampNeg
  · replace h := Eq.trans (if_pos c3).symm h
    cases h
  · replace h := Eq.trans (if_neg c3).symm h
    refine ml_kind S E hI c3 d_Mod_isFamily_13 ?_
    refine lv_iconst (v := 1) hx hb d_Mod_isFamily_14 (by decide) ?_
    refine lv_icmp_ne (tgt := 41) hx hb d_Mod_isFamily_15 (by decide) (fun c4 => ?_) (fun c4 => ?_)
    · replace h := Eq.trans (if_neg c4).symm h
      refine lv_iconst (v := 0) hx hb d_Mod_isFamily_41 (by decide) ?_
      exact kv_iret (w := 0) hx hb hr (by decide) hlocks (Option.some.inj h) d_Mod_isFamily_42
    · replace h := Eq.trans (if_pos c4).symm h
      refine lv_aload_n hx hb d_Mod_isFamily_18 rfl (lv_at hl 1 rfl) ?_
      refine mf_one S E hI vt_1280 d_Mod_isFamily_19 ?_
      refine lv_iload hx hb d_Mod_isFamily_22 (lv_at hl 0 rfl) ?_
      by_cases c5 : v1 < 0 ∨ 400000 ≤ (v1 : Int32).toNatClampNeg
      · replace h := Eq.trans (if_pos c5).symm h
        cases h
      · replace h := Eq.trans (if_neg c5).symm h
        refine ml_one S E hI c5 d_Mod_isFamily_24 ?_
        refine lv_iload_n hx hb d_Mod_isFamily_25 rfl (lv_at hl 3 rfl) ?_
        refine lv_icmp_ne (tgt := 41) hx hb d_Mod_isFamily_26 (by decide) (fun c6 => ?_) (fun c6 => ?_)
        · replace h := Eq.trans (if_neg c6).symm h
          refine lv_iconst (v := 0) hx hb d_Mod_isFamily_41 (by decide) ?_
          exact kv_iret (w := 0) hx hb hr (by decide) hlocks (Option.some.inj h) d_Mod_isFamily_42
        · replace h := Eq.trans (if_pos c6).symm h
          refine lv_aload_n hx hb d_Mod_isFamily_29 rfl (lv_at hl 1 rfl) ?_
          refine lv_iload_n hx hb d_Mod_isFamily_30 rfl (lv_at hl 2 rfl) ?_
          obtain ⟨v7, e8, h⟩ := Option.bind_eq_some_iff.mp h
          refine mg_p (As := [.int a1]) (rest := []) ((k_Mod_behind (l := l) (g := g) (α := α) N a1) _ e8) S E hI kw_Mod_449 (Or.inr rfl) ⟨Nat.le_of_ble_eq_true rfl, Nat.le_of_ble_eq_true rfl⟩ (mv_Mod E hI) rfl hl.1 rfl (Nat.le_of_ble_eq_true rfl) d_Mod_isFamily_31 rfl ?_
          refine lv_iload_n hx hb d_Mod_isFamily_34 rfl (lv_at hl 4 rfl) ?_
          refine lv_iload hx hb d_Mod_isFamily_35 (lv_at hl 5 rfl) ?_
          refine lv_iadd hx hb d_Mod_isFamily_37 ?_
          refine lv_icmp_eq (tgt := 43) hx hb d_Mod_isFamily_38 (by decide) (fun c9 => ?_) (fun c9 => ?_)
          · replace h := Eq.trans (if_pos c9).symm h
            refine lv_iconst (v := 0) hx hb d_Mod_isFamily_43 (by decide) ?_
            refine lv_istore (lv' := [(6, .int 0), (5, .int v1), (0, .ref (mad g 0)), (1, .int a1), (2, .int a2), (3, .int a3), (4, .int a4)]) hx hb d_Mod_isFamily_44 hl (by decide) rfl (fun ls hl => ?_)
            have L46 : ∀ (n46 : Nat) (x6_46 : Int32) (x1_46 : Int32) (x2_46 : Int32) (x3_46 : Int32) (x4_46 : Int32) (ls : Array Slot), f_Mod_isFamily_46 N α n46 x6_46 x1_46 x2_46 x3_46 x4_46 = some x → lv_has ls 8 [(6, .int x6_46), (0, .ref (mad g 0)), (1, .int x1_46), (2, .int x2_46), (3, .int x3_46), (4, .int x4_46)] → W p l e (mP (262) (6004)) s m ([.ref (mad g 0), .int a1, .int a2, .int a3, .int a4]).toArray below meth c s.heap [] 0 0 (MQ below (QcRead x) ([.ref (mad g 0), .int a1, .int a2, .int a3, .int a4]).toArray s 0 0 (fun _ => False)) (F0 m 46 ls []) := by
              intro n46
              induction n46 with
              | zero => intro x6_46 x1_46 x2_46 x3_46 x4_46 ls h hl; rw [f_Mod_isFamily_46] at h; cases h
              | succ n46 ih46 =>
                intro x6_46 x1_46 x2_46 x3_46 x4_46 ls h hl
                rw [f_Mod_isFamily_46] at h
                refine lv_iload hx hb d_Mod_isFamily_46 (lv_at hl 0 rfl) ?_
                refine lv_iload_n hx hb d_Mod_isFamily_48 rfl (lv_at hl 4 rfl) ?_
                refine lv_icmp_ge (tgt := 101) hx hb d_Mod_isFamily_49 (by decide) (fun c10 => ?_) (fun c10 => ?_)
                · replace h := Eq.trans (if_pos c10).symm h
                  refine lv_iload_n hx hb d_Mod_isFamily_101 rfl (lv_at hl 4 rfl) ?_
                  refine lv_istore (lv' := [(6, .int x3_46), (0, .ref (mad g 0)), (1, .int x1_46), (2, .int x2_46), (3, .int x3_46), (4, .int x4_46)]) hx hb d_Mod_isFamily_102 hl (by decide) rfl (fun ls hl => ?_)
                  have L104 : ∀ (n104 : Nat) (x6_104 : Int32) (x1_104 : Int32) (x2_104 : Int32) (x3_104 : Int32) (x4_104 : Int32) (ls : Array Slot), f_Mod_isFamily_104 N α n104 x6_104 x1_104 x2_104 x3_104 x4_104 = some x → lv_has ls 8 [(6, .int x6_104), (0, .ref (mad g 0)), (1, .int x1_104), (2, .int x2_104), (3, .int x3_104), (4, .int x4_104)] → W p l e (mP (262) (6004)) s m ([.ref (mad g 0), .int a1, .int a2, .int a3, .int a4]).toArray below meth c s.heap [] 0 0 (MQ below (QcRead x) ([.ref (mad g 0), .int a1, .int a2, .int a3, .int a4]).toArray s 0 0 (fun _ => False)) (F0 m 104 ls []) := by
                    intro n104
                    induction n104 with
                    | zero => intro x6_104 x1_104 x2_104 x3_104 x4_104 ls h hl; rw [f_Mod_isFamily_104] at h; cases h
                    | succ n104 ih104 =>
                      intro x6_104 x1_104 x2_104 x3_104 x4_104 ls h hl
                      rw [f_Mod_isFamily_104] at h
                      refine lv_iload hx hb d_Mod_isFamily_104 (lv_at hl 0 rfl) ?_
                      refine lv_iload_n hx hb d_Mod_isFamily_106 rfl (lv_at hl 4 rfl) ?_
                      refine lv_iload hx hb d_Mod_isFamily_107 (lv_at hl 5 rfl) ?_
                      refine lv_iadd hx hb d_Mod_isFamily_109 ?_
                      refine lv_icmp_ge (tgt := 140) hx hb d_Mod_isFamily_110 (by decide) (fun c11 => ?_) (fun c11 => ?_)
                      · replace h := Eq.trans (if_pos c11).symm h
                        refine lv_iconst (v := 1) hx hb d_Mod_isFamily_140 (by decide) ?_
                        exact kv_iret (w := 1) hx hb hr (by decide) hlocks (Option.some.inj h) d_Mod_isFamily_141
                      · replace h := Eq.trans (if_neg c11).symm h
                        refine lv_aload_n hx hb d_Mod_isFamily_113 rfl (lv_at hl 1 rfl) ?_
                        refine lv_aload_n hx hb d_Mod_isFamily_114 rfl (lv_at hl 1 rfl) ?_
                        refine lv_iload_n hx hb d_Mod_isFamily_115 rfl (lv_at hl 2 rfl) ?_
                        refine lv_iload_n hx hb d_Mod_isFamily_116 rfl (lv_at hl 4 rfl) ?_
                        refine lv_iload hx hb d_Mod_isFamily_117 (lv_at hl 5 rfl) ?_
                        refine lv_iadd hx hb d_Mod_isFamily_119 ?_
                        refine lv_iload hx hb d_Mod_isFamily_120 (lv_at hl 0 rfl) ?_
                        obtain ⟨v12, e13, h⟩ := Option.bind_eq_some_iff.mp h
                        refine mg_p (As := [.int x1_104, .int (x3_104 + x4_104), .int x6_104]) (rest := [.ref (mad g 0)]) ((k_Mod_nth (l := l) (g := g) (α := α) N x1_104 (x3_104 + x4_104) x6_104) _ e13) S E hI kw_Mod_440 (Or.inr rfl) ⟨Nat.le_of_ble_eq_true rfl, Nat.le_of_ble_eq_true rfl⟩ (mv_Mod E hI) rfl hl.1 rfl (Nat.le_of_ble_eq_true rfl) d_Mod_isFamily_122 rfl ?_
                        refine lv_iload_n hx hb d_Mod_isFamily_125 rfl (lv_at hl 3 rfl) ?_
                        obtain ⟨v14, e15, h⟩ := Option.bind_eq_some_iff.mp h
                        refine mg_p (As := [.int v12, .int x2_104]) (rest := []) ((((ok_has (l := l) (g := g) N dp_has)) v12 x2_104 α) _ e15) S E hI kw_Mod_367 (Or.inr rfl) ⟨Nat.le_of_ble_eq_true rfl, Nat.le_of_ble_eq_true rfl⟩ (mv_Mod E hI) rfl hl.1 rfl (Nat.le_of_ble_eq_true rfl) d_Mod_isFamily_126 rfl ?_
                        refine lv_if_eq (tgt := 134) hx hb d_Mod_isFamily_129 (by decide) (fun c16 => ?_) (fun c16 => ?_)
                        · replace h := Eq.trans (if_pos c16).symm h
                          refine lv_iinc (v := (x6_104 + 1)) (lv' := [(6, .int (x6_104 + 1)), (0, .ref (mad g 0)), (1, .int x1_104), (2, .int x2_104), (3, .int x3_104), (4, .int x4_104)]) hx hb d_Mod_isFamily_134 hl (k := 0) rfl rfl (by decide) rfl (fun ls hl => ?_)
                          refine lv_goto (tgt := 104) hx hb d_Mod_isFamily_137 (by decide) ?_
                          exact ih104 (x6_104 + 1) x1_104 x2_104 x3_104 x4_104 _ h (lv_sub hl [0, 1, 2, 3, 4, 5] rfl)
                        · replace h := Eq.trans (if_neg c16).symm h
                          refine lv_iconst (v := 0) hx hb d_Mod_isFamily_132 (by decide) ?_
                          exact kv_iret (w := 0) hx hb hr (by decide) hlocks (Option.some.inj h) d_Mod_isFamily_133
                  exact L104 N x3_46 x1_46 x2_46 x3_46 x4_46 _ h (lv_sub hl [0, 1, 2, 3, 4, 5] rfl)
                · replace h := Eq.trans (if_neg c10).symm h
                  refine lv_aload_n hx hb d_Mod_isFamily_52 rfl (lv_at hl 1 rfl) ?_
                  refine lv_iload_n hx hb d_Mod_isFamily_53 rfl (lv_at hl 2 rfl) ?_
                  refine lv_iload_n hx hb d_Mod_isFamily_54 rfl (lv_at hl 4 rfl) ?_
                  refine lv_iload hx hb d_Mod_isFamily_55 (lv_at hl 5 rfl) ?_
                  refine lv_iadd hx hb d_Mod_isFamily_57 ?_
                  refine lv_iload hx hb d_Mod_isFamily_58 (lv_at hl 0 rfl) ?_
                  obtain ⟨v17, e18, h⟩ := Option.bind_eq_some_iff.mp h
                  refine mg_p (As := [.int x1_46, .int (x3_46 + x4_46), .int x6_46]) (rest := []) ((k_Mod_nth (l := l) (g := g) (α := α) N x1_46 (x3_46 + x4_46) x6_46) _ e18) S E hI kw_Mod_440 (Or.inr rfl) ⟨Nat.le_of_ble_eq_true rfl, Nat.le_of_ble_eq_true rfl⟩ (mv_Mod E hI) rfl hl.1 rfl (Nat.le_of_ble_eq_true rfl) d_Mod_isFamily_60 rfl ?_
                  refine lv_istore (lv' := [(7, .int v17), (6, .int x6_46), (0, .ref (mad g 0)), (1, .int x1_46), (2, .int x2_46), (3, .int x3_46), (4, .int x4_46)]) hx hb d_Mod_isFamily_63 hl (by decide) rfl (fun ls hl => ?_)
                  refine lv_aload_n hx hb d_Mod_isFamily_65 rfl (lv_at hl 2 rfl) ?_
                  refine mf_kind S E hI vt_1279 d_Mod_isFamily_66 ?_
                  refine lv_iload hx hb d_Mod_isFamily_69 (lv_at hl 0 rfl) ?_
                  by_cases c19 : v17 < 0 ∨ 400000 ≤ (v17 : Int32).toNatClampNeg
                  · replace h := Eq.trans (if_pos c19).symm h
                    cases h
                  · replace h := Eq.trans (if_neg c19).symm h
                    refine ml_kind S E hI c19 d_Mod_isFamily_71 ?_
                    refine lv_iconst (v := 3) hx hb d_Mod_isFamily_72 (by decide) ?_
                    refine lv_icmp_ne (tgt := 93) hx hb d_Mod_isFamily_73 (by decide) (fun c20 => ?_) (fun c20 => ?_)
                    · replace h := Eq.trans (if_neg c20).symm h
                      refine lv_iconst (v := 0) hx hb d_Mod_isFamily_93 (by decide) ?_
                      exact kv_iret (w := 0) hx hb hr (by decide) hlocks (Option.some.inj h) d_Mod_isFamily_94
                    · replace h := Eq.trans (if_pos c20).symm h
                      refine lv_aload_n hx hb d_Mod_isFamily_76 rfl (lv_at hl 2 rfl) ?_
                      refine mf_one S E hI vt_1280 d_Mod_isFamily_77 ?_
                      refine lv_iload hx hb d_Mod_isFamily_80 (lv_at hl 0 rfl) ?_
                      by_cases c21 : v17 < 0 ∨ 400000 ≤ (v17 : Int32).toNatClampNeg
                      · replace h := Eq.trans (if_pos c21).symm h
                        cases h
                      · replace h := Eq.trans (if_neg c21).symm h
                        refine ml_one S E hI c21 d_Mod_isFamily_82 ?_
                        refine lv_aload_n hx hb d_Mod_isFamily_83 rfl (lv_at hl 2 rfl) ?_
                        refine mf_are S E hI vt_1331 d_Mod_isFamily_84 ?_
                        refine lv_iload hx hb d_Mod_isFamily_87 (lv_at hl 1 rfl) ?_
                        by_cases c22 : x6_46 < 0 ∨ 5000 ≤ (x6_46 : Int32).toNatClampNeg
                        · replace h := Eq.trans (if_pos c22).symm h
                          cases h
                        · replace h := Eq.trans (if_neg c22).symm h
                          refine ml_are S E hI c22 d_Mod_isFamily_89 ?_
                          refine lv_icmp_eq (tgt := 95) hx hb d_Mod_isFamily_90 (by decide) (fun c23 => ?_) (fun c23 => ?_)
                          · replace h := Eq.trans (if_pos c23).symm h
                            refine lv_iinc (v := (x6_46 + 1)) (lv' := [(6, .int (x6_46 + 1)), (7, .int v17), (0, .ref (mad g 0)), (1, .int x1_46), (2, .int x2_46), (3, .int x3_46), (4, .int x4_46)]) hx hb d_Mod_isFamily_95 hl (k := 1) rfl rfl (by decide) rfl (fun ls hl => ?_)
                            refine lv_goto (tgt := 46) hx hb d_Mod_isFamily_98 (by decide) ?_
                            exact ih46 (x6_46 + 1) x1_46 x2_46 x3_46 x4_46 _ h (lv_sub hl [0, 2, 3, 4, 5, 6] rfl)
                          · replace h := Eq.trans (if_neg c23).symm h
                            refine lv_iconst (v := 0) hx hb d_Mod_isFamily_93 (by decide) ?_
                            exact kv_iret (w := 0) hx hb hr (by decide) hlocks (Option.some.inj h) d_Mod_isFamily_94
            exact L46 N 0 a1 a2 a3 a4 _ h (lv_sub hl [0, 2, 3, 4, 5, 6] rfl)
          · replace h := Eq.trans (if_neg c9).symm h
            refine lv_iconst (v := 0) hx hb d_Mod_isFamily_41 (by decide) ?_
            exact kv_iret (w := 0) hx hb hr (by decide) hlocks (Option.some.inj h) d_Mod_isFamily_42
def f_Mod_telescope_7 (N : Nat)  : Nat → Int32 → Int32 → mS → Option (kO × mS)
  | 0, _, _, _ => none
  | n + 1, x4_7, x3_7, β7 => if x4_7 < 0 then (some (some (some x3_7), β7)) else (if x4_7 < 0 ∨ 3400 ≤ (x4_7 : Int32).toNatClampNeg then none else (mBi (f_Mod_node N 6 (β7.2 27 (x4_7 : Int32).toNatClampNeg) x3_7 0 β7) fun v5 α3 => (mBi (f_Mod_fits N v5 α3) fun v8 α6 => (f_Mod_telescope_7 N n (x4_7 + (-1)) v8 α6))))
def f_Mod_telescope (N : Nat) (a1 : Int32) (a2 : Int32) (α : mS) : Option (kO × mS) := f_Mod_telescope_7 N N (a1 - 1) a2 α
set_option maxHeartbeats 4000000 in
set_option maxRecDepth 100000 in
theorem k_Mod_telescope {l : Launch} {g : mG} {α : mS} (N : Nat) (a1 : Int32) (a2 : Int32)  : ∀ x, f_Mod_telescope N a1 a2 α = some x → mC l g y_Mod_telescope b_Mod_telescope 5 (some .int) (44) (1285) [.ref (mad g 0), .int a1, .int a2] α (mQr x) := by
  intro x h
  unfold f_Mod_telescope at h
  refine mc_ofW (by decide) (fun A p e s m args below meth c S hr hlocks hno hargs E hI => ?_)
  have hx := S.1
  have hb := S.2.1
  have hown := S.2.2.2.1
  have hT := S.2.2.2.2
  subst hargs
  have hl := lv_entry ([.ref (mad g 0), .int a1, .int a2]) (n := 5) (Nat.le_of_ble_eq_true rfl)
  rw [lg_entry_eq]
  generalize (lg_sl ([.ref (mad g 0), .int a1, .int a2]) ++ List.replicate (5 - (lg_sl ([.ref (mad g 0), .int a1, .int a2])).length) Slot.unset).toArray = ls at hl ⊢
  have hl : lv_has ls 5 [(0, .ref (mad g 0)), (1, .int a1), (2, .int a2)] := hl
  refine lv_iload_n hx hb d_Mod_telescope_0 rfl (lv_at hl 2 rfl) ?_
  refine lv_istore_n (lv' := [(3, .int a2), (0, .ref (mad g 0)), (1, .int a1), (2, .int a2)]) hx hb d_Mod_telescope_1 rfl hl (by decide) rfl (fun ls hl => ?_)
  refine lv_iload_n hx hb d_Mod_telescope_2 rfl (lv_at hl 2 rfl) ?_
  refine lv_iconst (v := 1) hx hb d_Mod_telescope_3 (by decide) ?_
  refine lv_isub hx hb d_Mod_telescope_4 ?_
  refine lv_istore (lv' := [(4, .int (a1 - 1)), (3, .int a2), (0, .ref (mad g 0)), (1, .int a1), (2, .int a2)]) hx hb d_Mod_telescope_5 hl (by decide) rfl (fun ls hl => ?_)
  have L7 : ∀ (n7 : Nat) (x4_7 : Int32) (x3_7 : Int32) (β7 : mS) (H : Heap) (locs : List Loc) (ls : Array Slot), f_Mod_telescope_7 N n7 x4_7 x3_7 β7 = some x → mI g A s β7 H locs → lv_has ls 5 [(4, .int x4_7), (3, .int x3_7), (0, .ref (mad g 0))] → W p l e (mR (44) (1285)) s m ([.ref (mad g 0), .int a1, .int a2]).toArray below meth c H locs 0 0 (vEQ below (mQ g A (mQr x)) ([.ref (mad g 0), .int a1, .int a2]).toArray s A) (F0 m 7 ls []) := by
    intro n7
    induction n7 with
    | zero => intro x4_7 x3_7 β7 H locs ls h hI hl; rw [f_Mod_telescope_7] at h; cases h
    | succ n7 ih7 =>
      intro x4_7 x3_7 β7 H locs ls h hI hl
      rw [f_Mod_telescope_7] at h
      refine lv_iload hx hb d_Mod_telescope_7 (lv_at hl 0 rfl) ?_
      refine lv_if_lt (tgt := 38) hx hb d_Mod_telescope_9 (by decide) (fun c1 => ?_) (fun c1 => ?_)
      · replace h := Eq.trans (if_pos c1).symm h
        refine lv_iload_n hx hb d_Mod_telescope_38 rfl (lv_at hl 1 rfl) ?_
        exact mc_iret (w := x3_7) hx hb hr rfl hlocks E hI h d_Mod_telescope_39
      · replace h := Eq.trans (if_neg c1).symm h
        refine lv_aload_n hx hb d_Mod_telescope_12 rfl (lv_at hl 2 rfl) ?_
        refine lv_aload_n hx hb d_Mod_telescope_13 rfl (lv_at hl 2 rfl) ?_
        refine lv_bipush (v := 6) hx hb d_Mod_telescope_14 (by decide) ?_
        refine lv_aload_n hx hb d_Mod_telescope_16 rfl (lv_at hl 2 rfl) ?_
        refine mf_typeStack S E hI vt_1315 d_Mod_telescope_17 ?_
        refine lv_iload hx hb d_Mod_telescope_20 (lv_at hl 0 rfl) ?_
        by_cases c2 : x4_7 < 0 ∨ 3400 ≤ (x4_7 : Int32).toNatClampNeg
        · replace h := Eq.trans (if_pos c2).symm h
          cases h
        · replace h := Eq.trans (if_neg c2).symm h
          refine ml_typeStack S E hI c2 d_Mod_telescope_22 ?_
          refine lv_iload_n hx hb d_Mod_telescope_23 rfl (lv_at hl 1 rfl) ?_
          refine lv_iconst (v := 0) hx hb d_Mod_telescope_24 (by decide) ?_
          refine mg_cI (As := [.int 6, .int (β7.2 27 (x4_7 : Int32).toNatClampNeg), .int x3_7, .int 0]) (rest := [.ref (mad g 0)]) h (k_Mod_node (l := l) (g := g) (α := β7) N 6 (β7.2 27 (x4_7 : Int32).toNatClampNeg) x3_7 0) S hlocks hno E hI kw_Mod_336 ⟨Nat.le_of_ble_eq_true rfl, Nat.le_of_ble_eq_true rfl⟩ (mv_Mod E hI) rfl hl.1 rfl (Nat.le_of_ble_eq_true rfl) d_Mod_telescope_25 (fun v5 α3 H locs e4 h hI => ?_)
          refine mg_cI (As := [.int v5]) (rest := []) h (k_Mod_fits (l := l) (g := g) (α := α3) N v5) S hlocks hno E hI kw_Mod_402 ⟨Nat.le_of_ble_eq_true rfl, Nat.le_of_ble_eq_true rfl⟩ (mv_Mod E hI) rfl hl.1 rfl (Nat.le_of_ble_eq_true rfl) d_Mod_telescope_28 (fun v8 α6 H locs e7 h hI => ?_)
          refine lv_istore_n (lv' := [(3, .int v8), (4, .int x4_7), (0, .ref (mad g 0))]) hx hb d_Mod_telescope_31 rfl hl (by decide) rfl (fun ls hl => ?_)
          refine lv_iinc (v := (x4_7 + (-1))) (lv' := [(4, .int (x4_7 + (-1))), (3, .int v8), (0, .ref (mad g 0))]) hx hb d_Mod_telescope_32 hl (k := 1) rfl rfl (by decide) rfl (fun ls hl => ?_)
          refine lv_goto (tgt := 7) hx hb d_Mod_telescope_35 (by decide) ?_
          exact ih7 (x4_7 + (-1)) v8 _ _ _ _ h hI (lv_sub hl [0, 1, 2] rfl)
  exact L7 N (a1 - 1) a2 _ _ _ _ h hI (lv_sub hl [0, 1, 2] rfl)
theorem kw_Mod_547 : kWv "FamilyKernelModel" 547 "FamilyKernelModel" y_Mod_isFamily b_Mod_isFamily 8 (some .boolean) 4 := ⟨vt_1664, vt_1665, vt_1666, vt_1349, vt_1667, by decide, by decide, by decide +kernel⟩
theorem kw_Mod_534 : kWv "FamilyKernelModel" 534 "FamilyKernelModel" y_Mod_telescope b_Mod_telescope 5 (some .int) 2 := ⟨vt_1644, vt_1645, vt_1646, vt_1349, vt_1647, by decide, by decide, by decide +kernel⟩
def f_Mod_constructor_j245 (N : Nat)  (k44 : Int32 → Int32 → Int32 → Int32 → Int32 → Int32 → Int32 → mS → Option (kO × mS)) (y12 : Int32) (y8 : Int32) (y1 : Int32) (y2 : Int32) (y3 : Int32) (y4 : Int32) (y5 : Int32) (y6 : Int32) (t0 : Int32) (t1 : Int32) (γ : mS) : Option (kO × mS) := if t1 < 0 ∨ 4000 ≤ (t1 : Int32).toNatClampNeg then none else (if y8 < 0 ∨ 400000 ≤ (y8 : Int32).toNatClampNeg then none else (mBi (f_Mod_open N ((mSA γ 40 (upd (γ.2 40) (t1 : Int32).toNatClampNeg (vp_nar .boolean t0))).2 4 (y8 : Int32).toNatClampNeg) y12 (mSA γ 40 (upd (γ.2 40) (t1 : Int32).toNatClampNeg (vp_nar .boolean t0)))) fun v53 α51 => (if y3 < 0 ∨ 301 ≤ (y3 : Int32).toNatClampNeg then none else (if v53 < 0 ∨ 400000 ≤ (v53 : Int32).toNatClampNeg then none else (if y3 < 0 ∨ 301 ≤ (y3 : Int32).toNatClampNeg then none else (k44 v53 y1 y2 y3 y4 y5 y6 (mSA α51 43 (upd (α51.2 43) (y3 : Int32).toNatClampNeg ((α51.2 43 (y3 : Int32).toNatClampNeg) + (α51.2 6 (v53 : Int32).toNatClampNeg))))))))))
def f_Mod_constructor_j185 (N : Nat)  (k44 : Int32 → Int32 → Int32 → Int32 → Int32 → Int32 → Int32 → mS → Option (kO × mS)) (y11 : Int32) (y10 : Int32) (y9 : Int32) (y8 : Int32) (y1 : Int32) (y2 : Int32) (y3 : Int32) (y4 : Int32) (y5 : Int32) (y6 : Int32) (γ : mS) : Option (kO × mS) := mBi (f_Mod_fresh N y9 γ) fun v44 α42 => (if v44 < 0 ∨ 400000 ≤ (v44 : Int32).toNatClampNeg then none else (if (α42.1 29) < 0 ∨ 4000 ≤ ((α42.1 29) : Int32).toNatClampNeg then none else (if (α42.1 29) < 0 ∨ 4000 ≤ ((α42.1 29) : Int32).toNatClampNeg then none else (if y10 = 0 then (f_Mod_constructor_j245 N k44 v44 y8 y1 y2 y3 y4 y5 y6 1 (α42.1 29) (mSi (mSA (mSA α42 38 (upd (α42.2 38) ((α42.1 29) : Int32).toNatClampNeg (α42.2 3 (v44 : Int32).toNatClampNeg))) 39 (upd ((mSA α42 38 (upd (α42.2 38) ((α42.1 29) : Int32).toNatClampNeg (α42.2 3 (v44 : Int32).toNatClampNeg))).2 39) ((α42.1 29) : Int32).toNatClampNeg (vp_nar .boolean y11))) 29 ((α42.1 29) + 1))) else (f_Mod_constructor_j245 N k44 v44 y8 y1 y2 y3 y4 y5 y6 0 (α42.1 29) (mSi (mSA (mSA α42 38 (upd (α42.2 38) ((α42.1 29) : Int32).toNatClampNeg (α42.2 3 (v44 : Int32).toNatClampNeg))) 39 (upd ((mSA α42 38 (upd (α42.2 38) ((α42.1 29) : Int32).toNatClampNeg (α42.2 3 (v44 : Int32).toNatClampNeg))).2 39) ((α42.1 29) : Int32).toNatClampNeg (vp_nar .boolean y11))) 29 ((α42.1 29) + 1)))))))
def f_Mod_constructor_110 (N : Nat)  (k44 : Int32 → Int32 → Int32 → Int32 → Int32 → Int32 → Int32 → mS → Option (kO × mS)) : Nat → Int32 → Int32 → Int32 → Int32 → Int32 → Int32 → Int32 → Int32 → Int32 → Int32 → Int32 → mS → Option (kO × mS)
  | 0, _, _, _, _, _, _, _, _, _, _, _, _ => none
  | n + 1, x12_110, x11_110, x10_110, x9_110, x8_110, x1_110, x2_110, x3_110, x4_110, x5_110, x6_110, β110 => if x12_110 < 0 ∨ 400000 ≤ (x12_110 : Int32).toNatClampNeg then none else (if (β110.2 2 (x12_110 : Int32).toNatClampNeg) = 6 then (if x12_110 < 0 ∨ 400000 ≤ (x12_110 : Int32).toNatClampNeg then none else ((((G_has N dp_has) (β110.2 3 (x12_110 : Int32).toNatClampNeg) x1_110 β110)).bind fun v80 => (if v80 = 0 then (if x12_110 < 0 ∨ 400000 ≤ (x12_110 : Int32).toNatClampNeg then none else (f_Mod_constructor_110 N k44 n (β110.2 4 (x12_110 : Int32).toNatClampNeg) x11_110 x10_110 x9_110 x8_110 x1_110 x2_110 x3_110 x4_110 x5_110 x6_110 β110)) else (some (none, (mTh β110 8 (-1))))))) else (((f_Mod_isFamily N x12_110 x1_110 x5_110 x6_110 β110)).bind fun v59 => (if v59 = 0 then (some (none, (mTh β110 8 (-1)))) else (if x2_110 < 0 ∨ 301 ≤ (x2_110 : Int32).toNatClampNeg then none else (if x2_110 < 0 ∨ 301 ≤ (x2_110 : Int32).toNatClampNeg then none else (f_Mod_constructor_j185 N k44 x11_110 x10_110 x9_110 x8_110 x1_110 x2_110 x3_110 x4_110 x5_110 x6_110 (mSA β110 19 (upd (β110.2 19) (x2_110 : Int32).toNatClampNeg ((β110.2 19 (x2_110 : Int32).toNatClampNeg) + 1)))))))))
def f_Mod_constructor_j92 (N : Nat)  (k44 : Int32 → Int32 → Int32 → Int32 → Int32 → Int32 → Int32 → mS → Option (kO × mS)) (y10 : Int32) (y9 : Int32) (y8 : Int32) (y1 : Int32) (y2 : Int32) (y3 : Int32) (y4 : Int32) (y5 : Int32) (y6 : Int32) (γ : mS) : Option (kO × mS) := (((G_has N dp_has) y9 y1 γ)).bind fun v39 => (if v39 = 0 then (f_Mod_constructor_j185 N k44 v39 y10 y9 y8 y1 y2 y3 y4 y5 y6 γ) else (f_Mod_constructor_110 N k44 N y9 v39 y10 y9 y8 y1 y2 y3 y4 y5 y6 γ))
def f_Mod_constructor_44 (N : Nat)  : Nat → Int32 → Int32 → Int32 → Int32 → Int32 → Int32 → Int32 → mS → Option (kO × mS)
  | 0, _, _, _, _, _, _, _, _ => none
  | n + 1, x8_44, x1_44, x2_44, x3_44, x4_44, x5_44, x6_44, β44 => if x8_44 < 0 ∨ 400000 ≤ (x8_44 : Int32).toNatClampNeg then none else (if (β44.2 2 (x8_44 : Int32).toNatClampNeg) = 6 then (if x8_44 < 0 ∨ 400000 ≤ (x8_44 : Int32).toNatClampNeg then none else (mBi ((G_check N dp_check).2.2.2 (β44.2 3 (x8_44 : Int32).toNatClampNeg) 0 β44) fun v37 α35 => (if x4_44 = 0 then (f_Mod_constructor_j92 N (f_Mod_constructor_44 N n) v37 (β44.2 3 (x8_44 : Int32).toNatClampNeg) x8_44 x1_44 x2_44 x3_44 x4_44 x5_44 x6_44 α35) else (if v37 ≤ x4_44 then (f_Mod_constructor_j92 N (f_Mod_constructor_44 N n) v37 (β44.2 3 (x8_44 : Int32).toNatClampNeg) x8_44 x1_44 x2_44 x3_44 x4_44 x5_44 x6_44 α35) else (some (none, (mTh α35 7 (-1)))))))) else (((f_Mod_isFamily N x8_44 x1_44 x5_44 x6_44 β44)).bind fun v10 => (if v10 = 0 then (some (none, (mTh β44 8 (-1)))) else (if x3_44 < 0 ∨ 301 ≤ (x3_44 : Int32).toNatClampNeg then none else (if x3_44 < 0 ∨ 301 ≤ (x3_44 : Int32).toNatClampNeg then none else (mBi (f_Mod_telescope N x5_44 ((mSA β44 37 (upd (β44.2 37) (x3_44 : Int32).toNatClampNeg x8_44)).2 34 (x3_44 : Int32).toNatClampNeg) (mSA β44 37 (upd (β44.2 37) (x3_44 : Int32).toNatClampNeg x8_44))) fun v17 α15 => (mBi (f_Mod_whole N v17 0 0 α15) fun v20 α18 => (if x3_44 < 0 ∨ 301 ≤ (x3_44 : Int32).toNatClampNeg then none else (if x3_44 < 0 ∨ 301 ≤ (x3_44 : Int32).toNatClampNeg then none else (mBi ((G_check N dp_check).2.2.2 ((mSA α18 35 (upd (α18.2 35) (x3_44 : Int32).toNatClampNeg v20)).2 35 (x3_44 : Int32).toNatClampNeg) 0 (mSA α18 35 (upd (α18.2 35) (x3_44 : Int32).toNatClampNeg v20))) fun v25 α23 => (if x2_44 < 0 ∨ 301 ≤ (x2_44 : Int32).toNatClampNeg then none else (if x2_44 < 0 ∨ 301 ≤ (x2_44 : Int32).toNatClampNeg then none else (if x3_44 < 0 ∨ 301 ≤ (x3_44 : Int32).toNatClampNeg then none else (if x2_44 < 0 ∨ 301 ≤ (x2_44 : Int32).toNatClampNeg then none else (if x2_44 < 0 ∨ 301 ≤ (x2_44 : Int32).toNatClampNeg then none else (if x2_44 < 0 ∨ 301 ≤ (x2_44 : Int32).toNatClampNeg then none else (if x2_44 < 0 ∨ 301 ≤ (x2_44 : Int32).toNatClampNeg then none else (if x2_44 < 0 ∨ 301 ≤ (x2_44 : Int32).toNatClampNeg then none else (some (some none, (mSA (mSA (mSA (mSA (mSA (mSA (mSA (mSi α23 10 (α18.1 10)) 12 (upd ((mSi α23 10 (α18.1 10)).2 12) (x2_44 : Int32).toNatClampNeg 4)) 23 (upd ((mSA (mSi α23 10 (α18.1 10)) 12 (upd ((mSi α23 10 (α18.1 10)).2 12) (x2_44 : Int32).toNatClampNeg 4)).2 23) (x2_44 : Int32).toNatClampNeg x1_44)) 18 (upd ((mSA (mSA (mSi α23 10 (α18.1 10)) 12 (upd ((mSi α23 10 (α18.1 10)).2 12) (x2_44 : Int32).toNatClampNeg 4)) 23 (upd ((mSA (mSi α23 10 (α18.1 10)) 12 (upd ((mSi α23 10 (α18.1 10)).2 12) (x2_44 : Int32).toNatClampNeg 4)).2 23) (x2_44 : Int32).toNatClampNeg x1_44)).2 18) (x2_44 : Int32).toNatClampNeg ((α23.1 29) - ((mSA (mSA (mSi α23 10 (α18.1 10)) 12 (upd ((mSi α23 10 (α18.1 10)).2 12) (x2_44 : Int32).toNatClampNeg 4)) 23 (upd ((mSA (mSi α23 10 (α18.1 10)) 12 (upd ((mSi α23 10 (α18.1 10)).2 12) (x2_44 : Int32).toNatClampNeg 4)).2 23) (x2_44 : Int32).toNatClampNeg x1_44)).2 36 (x3_44 : Int32).toNatClampNeg)))) 15 (upd ((mSA (mSA (mSA (mSi α23 10 (α18.1 10)) 12 (upd ((mSi α23 10 (α18.1 10)).2 12) (x2_44 : Int32).toNatClampNeg 4)) 23 (upd ((mSA (mSi α23 10 (α18.1 10)) 12 (upd ((mSi α23 10 (α18.1 10)).2 12) (x2_44 : Int32).toNatClampNeg 4)).2 23) (x2_44 : Int32).toNatClampNeg x1_44)) 18 (upd ((mSA (mSA (mSi α23 10 (α18.1 10)) 12 (upd ((mSi α23 10 (α18.1 10)).2 12) (x2_44 : Int32).toNatClampNeg 4)) 23 (upd ((mSA (mSi α23 10 (α18.1 10)) 12 (upd ((mSi α23 10 (α18.1 10)).2 12) (x2_44 : Int32).toNatClampNeg 4)).2 23) (x2_44 : Int32).toNatClampNeg x1_44)).2 18) (x2_44 : Int32).toNatClampNeg ((α23.1 29) - ((mSA (mSA (mSi α23 10 (α18.1 10)) 12 (upd ((mSi α23 10 (α18.1 10)).2 12) (x2_44 : Int32).toNatClampNeg 4)) 23 (upd ((mSA (mSi α23 10 (α18.1 10)) 12 (upd ((mSi α23 10 (α18.1 10)).2 12) (x2_44 : Int32).toNatClampNeg 4)).2 23) (x2_44 : Int32).toNatClampNeg x1_44)).2 36 (x3_44 : Int32).toNatClampNeg)))).2 15) (x2_44 : Int32).toNatClampNeg x5_44)) 16 (upd ((mSA (mSA (mSA (mSA (mSi α23 10 (α18.1 10)) 12 (upd ((mSi α23 10 (α18.1 10)).2 12) (x2_44 : Int32).toNatClampNeg 4)) 23 (upd ((mSA (mSi α23 10 (α18.1 10)) 12 (upd ((mSi α23 10 (α18.1 10)).2 12) (x2_44 : Int32).toNatClampNeg 4)).2 23) (x2_44 : Int32).toNatClampNeg x1_44)) 18 (upd ((mSA (mSA (mSi α23 10 (α18.1 10)) 12 (upd ((mSi α23 10 (α18.1 10)).2 12) (x2_44 : Int32).toNatClampNeg 4)) 23 (upd ((mSA (mSi α23 10 (α18.1 10)) 12 (upd ((mSi α23 10 (α18.1 10)).2 12) (x2_44 : Int32).toNatClampNeg 4)).2 23) (x2_44 : Int32).toNatClampNeg x1_44)).2 18) (x2_44 : Int32).toNatClampNeg ((α23.1 29) - ((mSA (mSA (mSi α23 10 (α18.1 10)) 12 (upd ((mSi α23 10 (α18.1 10)).2 12) (x2_44 : Int32).toNatClampNeg 4)) 23 (upd ((mSA (mSi α23 10 (α18.1 10)) 12 (upd ((mSi α23 10 (α18.1 10)).2 12) (x2_44 : Int32).toNatClampNeg 4)).2 23) (x2_44 : Int32).toNatClampNeg x1_44)).2 36 (x3_44 : Int32).toNatClampNeg)))) 15 (upd ((mSA (mSA (mSA (mSi α23 10 (α18.1 10)) 12 (upd ((mSi α23 10 (α18.1 10)).2 12) (x2_44 : Int32).toNatClampNeg 4)) 23 (upd ((mSA (mSi α23 10 (α18.1 10)) 12 (upd ((mSi α23 10 (α18.1 10)).2 12) (x2_44 : Int32).toNatClampNeg 4)).2 23) (x2_44 : Int32).toNatClampNeg x1_44)) 18 (upd ((mSA (mSA (mSi α23 10 (α18.1 10)) 12 (upd ((mSi α23 10 (α18.1 10)).2 12) (x2_44 : Int32).toNatClampNeg 4)) 23 (upd ((mSA (mSi α23 10 (α18.1 10)) 12 (upd ((mSi α23 10 (α18.1 10)).2 12) (x2_44 : Int32).toNatClampNeg 4)).2 23) (x2_44 : Int32).toNatClampNeg x1_44)).2 18) (x2_44 : Int32).toNatClampNeg ((α23.1 29) - ((mSA (mSA (mSi α23 10 (α18.1 10)) 12 (upd ((mSi α23 10 (α18.1 10)).2 12) (x2_44 : Int32).toNatClampNeg 4)) 23 (upd ((mSA (mSi α23 10 (α18.1 10)) 12 (upd ((mSi α23 10 (α18.1 10)).2 12) (x2_44 : Int32).toNatClampNeg 4)).2 23) (x2_44 : Int32).toNatClampNeg x1_44)).2 36 (x3_44 : Int32).toNatClampNeg)))).2 15) (x2_44 : Int32).toNatClampNeg x5_44)).2 16) (x2_44 : Int32).toNatClampNeg 0)) 17 (upd ((mSA (mSA (mSA (mSA (mSA (mSi α23 10 (α18.1 10)) 12 (upd ((mSi α23 10 (α18.1 10)).2 12) (x2_44 : Int32).toNatClampNeg 4)) 23 (upd ((mSA (mSi α23 10 (α18.1 10)) 12 (upd ((mSi α23 10 (α18.1 10)).2 12) (x2_44 : Int32).toNatClampNeg 4)).2 23) (x2_44 : Int32).toNatClampNeg x1_44)) 18 (upd ((mSA (mSA (mSi α23 10 (α18.1 10)) 12 (upd ((mSi α23 10 (α18.1 10)).2 12) (x2_44 : Int32).toNatClampNeg 4)) 23 (upd ((mSA (mSi α23 10 (α18.1 10)) 12 (upd ((mSi α23 10 (α18.1 10)).2 12) (x2_44 : Int32).toNatClampNeg 4)).2 23) (x2_44 : Int32).toNatClampNeg x1_44)).2 18) (x2_44 : Int32).toNatClampNeg ((α23.1 29) - ((mSA (mSA (mSi α23 10 (α18.1 10)) 12 (upd ((mSi α23 10 (α18.1 10)).2 12) (x2_44 : Int32).toNatClampNeg 4)) 23 (upd ((mSA (mSi α23 10 (α18.1 10)) 12 (upd ((mSi α23 10 (α18.1 10)).2 12) (x2_44 : Int32).toNatClampNeg 4)).2 23) (x2_44 : Int32).toNatClampNeg x1_44)).2 36 (x3_44 : Int32).toNatClampNeg)))) 15 (upd ((mSA (mSA (mSA (mSi α23 10 (α18.1 10)) 12 (upd ((mSi α23 10 (α18.1 10)).2 12) (x2_44 : Int32).toNatClampNeg 4)) 23 (upd ((mSA (mSi α23 10 (α18.1 10)) 12 (upd ((mSi α23 10 (α18.1 10)).2 12) (x2_44 : Int32).toNatClampNeg 4)).2 23) (x2_44 : Int32).toNatClampNeg x1_44)) 18 (upd ((mSA (mSA (mSi α23 10 (α18.1 10)) 12 (upd ((mSi α23 10 (α18.1 10)).2 12) (x2_44 : Int32).toNatClampNeg 4)) 23 (upd ((mSA (mSi α23 10 (α18.1 10)) 12 (upd ((mSi α23 10 (α18.1 10)).2 12) (x2_44 : Int32).toNatClampNeg 4)).2 23) (x2_44 : Int32).toNatClampNeg x1_44)).2 18) (x2_44 : Int32).toNatClampNeg ((α23.1 29) - ((mSA (mSA (mSi α23 10 (α18.1 10)) 12 (upd ((mSi α23 10 (α18.1 10)).2 12) (x2_44 : Int32).toNatClampNeg 4)) 23 (upd ((mSA (mSi α23 10 (α18.1 10)) 12 (upd ((mSi α23 10 (α18.1 10)).2 12) (x2_44 : Int32).toNatClampNeg 4)).2 23) (x2_44 : Int32).toNatClampNeg x1_44)).2 36 (x3_44 : Int32).toNatClampNeg)))).2 15) (x2_44 : Int32).toNatClampNeg x5_44)) 16 (upd ((mSA (mSA (mSA (mSA (mSi α23 10 (α18.1 10)) 12 (upd ((mSi α23 10 (α18.1 10)).2 12) (x2_44 : Int32).toNatClampNeg 4)) 23 (upd ((mSA (mSi α23 10 (α18.1 10)) 12 (upd ((mSi α23 10 (α18.1 10)).2 12) (x2_44 : Int32).toNatClampNeg 4)).2 23) (x2_44 : Int32).toNatClampNeg x1_44)) 18 (upd ((mSA (mSA (mSi α23 10 (α18.1 10)) 12 (upd ((mSi α23 10 (α18.1 10)).2 12) (x2_44 : Int32).toNatClampNeg 4)) 23 (upd ((mSA (mSi α23 10 (α18.1 10)) 12 (upd ((mSi α23 10 (α18.1 10)).2 12) (x2_44 : Int32).toNatClampNeg 4)).2 23) (x2_44 : Int32).toNatClampNeg x1_44)).2 18) (x2_44 : Int32).toNatClampNeg ((α23.1 29) - ((mSA (mSA (mSi α23 10 (α18.1 10)) 12 (upd ((mSi α23 10 (α18.1 10)).2 12) (x2_44 : Int32).toNatClampNeg 4)) 23 (upd ((mSA (mSi α23 10 (α18.1 10)) 12 (upd ((mSi α23 10 (α18.1 10)).2 12) (x2_44 : Int32).toNatClampNeg 4)).2 23) (x2_44 : Int32).toNatClampNeg x1_44)).2 36 (x3_44 : Int32).toNatClampNeg)))) 15 (upd ((mSA (mSA (mSA (mSi α23 10 (α18.1 10)) 12 (upd ((mSi α23 10 (α18.1 10)).2 12) (x2_44 : Int32).toNatClampNeg 4)) 23 (upd ((mSA (mSi α23 10 (α18.1 10)) 12 (upd ((mSi α23 10 (α18.1 10)).2 12) (x2_44 : Int32).toNatClampNeg 4)).2 23) (x2_44 : Int32).toNatClampNeg x1_44)) 18 (upd ((mSA (mSA (mSi α23 10 (α18.1 10)) 12 (upd ((mSi α23 10 (α18.1 10)).2 12) (x2_44 : Int32).toNatClampNeg 4)) 23 (upd ((mSA (mSi α23 10 (α18.1 10)) 12 (upd ((mSi α23 10 (α18.1 10)).2 12) (x2_44 : Int32).toNatClampNeg 4)).2 23) (x2_44 : Int32).toNatClampNeg x1_44)).2 18) (x2_44 : Int32).toNatClampNeg ((α23.1 29) - ((mSA (mSA (mSi α23 10 (α18.1 10)) 12 (upd ((mSi α23 10 (α18.1 10)).2 12) (x2_44 : Int32).toNatClampNeg 4)) 23 (upd ((mSA (mSi α23 10 (α18.1 10)) 12 (upd ((mSi α23 10 (α18.1 10)).2 12) (x2_44 : Int32).toNatClampNeg 4)).2 23) (x2_44 : Int32).toNatClampNeg x1_44)).2 36 (x3_44 : Int32).toNatClampNeg)))).2 15) (x2_44 : Int32).toNatClampNeg x5_44)).2 16) (x2_44 : Int32).toNatClampNeg 0)).2 17) (x2_44 : Int32).toNatClampNeg 0)) 14 (upd ((mSA (mSA (mSA (mSA (mSA (mSA (mSi α23 10 (α18.1 10)) 12 (upd ((mSi α23 10 (α18.1 10)).2 12) (x2_44 : Int32).toNatClampNeg 4)) 23 (upd ((mSA (mSi α23 10 (α18.1 10)) 12 (upd ((mSi α23 10 (α18.1 10)).2 12) (x2_44 : Int32).toNatClampNeg 4)).2 23) (x2_44 : Int32).toNatClampNeg x1_44)) 18 (upd ((mSA (mSA (mSi α23 10 (α18.1 10)) 12 (upd ((mSi α23 10 (α18.1 10)).2 12) (x2_44 : Int32).toNatClampNeg 4)) 23 (upd ((mSA (mSi α23 10 (α18.1 10)) 12 (upd ((mSi α23 10 (α18.1 10)).2 12) (x2_44 : Int32).toNatClampNeg 4)).2 23) (x2_44 : Int32).toNatClampNeg x1_44)).2 18) (x2_44 : Int32).toNatClampNeg ((α23.1 29) - ((mSA (mSA (mSi α23 10 (α18.1 10)) 12 (upd ((mSi α23 10 (α18.1 10)).2 12) (x2_44 : Int32).toNatClampNeg 4)) 23 (upd ((mSA (mSi α23 10 (α18.1 10)) 12 (upd ((mSi α23 10 (α18.1 10)).2 12) (x2_44 : Int32).toNatClampNeg 4)).2 23) (x2_44 : Int32).toNatClampNeg x1_44)).2 36 (x3_44 : Int32).toNatClampNeg)))) 15 (upd ((mSA (mSA (mSA (mSi α23 10 (α18.1 10)) 12 (upd ((mSi α23 10 (α18.1 10)).2 12) (x2_44 : Int32).toNatClampNeg 4)) 23 (upd ((mSA (mSi α23 10 (α18.1 10)) 12 (upd ((mSi α23 10 (α18.1 10)).2 12) (x2_44 : Int32).toNatClampNeg 4)).2 23) (x2_44 : Int32).toNatClampNeg x1_44)) 18 (upd ((mSA (mSA (mSi α23 10 (α18.1 10)) 12 (upd ((mSi α23 10 (α18.1 10)).2 12) (x2_44 : Int32).toNatClampNeg 4)) 23 (upd ((mSA (mSi α23 10 (α18.1 10)) 12 (upd ((mSi α23 10 (α18.1 10)).2 12) (x2_44 : Int32).toNatClampNeg 4)).2 23) (x2_44 : Int32).toNatClampNeg x1_44)).2 18) (x2_44 : Int32).toNatClampNeg ((α23.1 29) - ((mSA (mSA (mSi α23 10 (α18.1 10)) 12 (upd ((mSi α23 10 (α18.1 10)).2 12) (x2_44 : Int32).toNatClampNeg 4)) 23 (upd ((mSA (mSi α23 10 (α18.1 10)) 12 (upd ((mSi α23 10 (α18.1 10)).2 12) (x2_44 : Int32).toNatClampNeg 4)).2 23) (x2_44 : Int32).toNatClampNeg x1_44)).2 36 (x3_44 : Int32).toNatClampNeg)))).2 15) (x2_44 : Int32).toNatClampNeg x5_44)) 16 (upd ((mSA (mSA (mSA (mSA (mSi α23 10 (α18.1 10)) 12 (upd ((mSi α23 10 (α18.1 10)).2 12) (x2_44 : Int32).toNatClampNeg 4)) 23 (upd ((mSA (mSi α23 10 (α18.1 10)) 12 (upd ((mSi α23 10 (α18.1 10)).2 12) (x2_44 : Int32).toNatClampNeg 4)).2 23) (x2_44 : Int32).toNatClampNeg x1_44)) 18 (upd ((mSA (mSA (mSi α23 10 (α18.1 10)) 12 (upd ((mSi α23 10 (α18.1 10)).2 12) (x2_44 : Int32).toNatClampNeg 4)) 23 (upd ((mSA (mSi α23 10 (α18.1 10)) 12 (upd ((mSi α23 10 (α18.1 10)).2 12) (x2_44 : Int32).toNatClampNeg 4)).2 23) (x2_44 : Int32).toNatClampNeg x1_44)).2 18) (x2_44 : Int32).toNatClampNeg ((α23.1 29) - ((mSA (mSA (mSi α23 10 (α18.1 10)) 12 (upd ((mSi α23 10 (α18.1 10)).2 12) (x2_44 : Int32).toNatClampNeg 4)) 23 (upd ((mSA (mSi α23 10 (α18.1 10)) 12 (upd ((mSi α23 10 (α18.1 10)).2 12) (x2_44 : Int32).toNatClampNeg 4)).2 23) (x2_44 : Int32).toNatClampNeg x1_44)).2 36 (x3_44 : Int32).toNatClampNeg)))) 15 (upd ((mSA (mSA (mSA (mSi α23 10 (α18.1 10)) 12 (upd ((mSi α23 10 (α18.1 10)).2 12) (x2_44 : Int32).toNatClampNeg 4)) 23 (upd ((mSA (mSi α23 10 (α18.1 10)) 12 (upd ((mSi α23 10 (α18.1 10)).2 12) (x2_44 : Int32).toNatClampNeg 4)).2 23) (x2_44 : Int32).toNatClampNeg x1_44)) 18 (upd ((mSA (mSA (mSi α23 10 (α18.1 10)) 12 (upd ((mSi α23 10 (α18.1 10)).2 12) (x2_44 : Int32).toNatClampNeg 4)) 23 (upd ((mSA (mSi α23 10 (α18.1 10)) 12 (upd ((mSi α23 10 (α18.1 10)).2 12) (x2_44 : Int32).toNatClampNeg 4)).2 23) (x2_44 : Int32).toNatClampNeg x1_44)).2 18) (x2_44 : Int32).toNatClampNeg ((α23.1 29) - ((mSA (mSA (mSi α23 10 (α18.1 10)) 12 (upd ((mSi α23 10 (α18.1 10)).2 12) (x2_44 : Int32).toNatClampNeg 4)) 23 (upd ((mSA (mSi α23 10 (α18.1 10)) 12 (upd ((mSi α23 10 (α18.1 10)).2 12) (x2_44 : Int32).toNatClampNeg 4)).2 23) (x2_44 : Int32).toNatClampNeg x1_44)).2 36 (x3_44 : Int32).toNatClampNeg)))).2 15) (x2_44 : Int32).toNatClampNeg x5_44)).2 16) (x2_44 : Int32).toNatClampNeg 0)) 17 (upd ((mSA (mSA (mSA (mSA (mSA (mSi α23 10 (α18.1 10)) 12 (upd ((mSi α23 10 (α18.1 10)).2 12) (x2_44 : Int32).toNatClampNeg 4)) 23 (upd ((mSA (mSi α23 10 (α18.1 10)) 12 (upd ((mSi α23 10 (α18.1 10)).2 12) (x2_44 : Int32).toNatClampNeg 4)).2 23) (x2_44 : Int32).toNatClampNeg x1_44)) 18 (upd ((mSA (mSA (mSi α23 10 (α18.1 10)) 12 (upd ((mSi α23 10 (α18.1 10)).2 12) (x2_44 : Int32).toNatClampNeg 4)) 23 (upd ((mSA (mSi α23 10 (α18.1 10)) 12 (upd ((mSi α23 10 (α18.1 10)).2 12) (x2_44 : Int32).toNatClampNeg 4)).2 23) (x2_44 : Int32).toNatClampNeg x1_44)).2 18) (x2_44 : Int32).toNatClampNeg ((α23.1 29) - ((mSA (mSA (mSi α23 10 (α18.1 10)) 12 (upd ((mSi α23 10 (α18.1 10)).2 12) (x2_44 : Int32).toNatClampNeg 4)) 23 (upd ((mSA (mSi α23 10 (α18.1 10)) 12 (upd ((mSi α23 10 (α18.1 10)).2 12) (x2_44 : Int32).toNatClampNeg 4)).2 23) (x2_44 : Int32).toNatClampNeg x1_44)).2 36 (x3_44 : Int32).toNatClampNeg)))) 15 (upd ((mSA (mSA (mSA (mSi α23 10 (α18.1 10)) 12 (upd ((mSi α23 10 (α18.1 10)).2 12) (x2_44 : Int32).toNatClampNeg 4)) 23 (upd ((mSA (mSi α23 10 (α18.1 10)) 12 (upd ((mSi α23 10 (α18.1 10)).2 12) (x2_44 : Int32).toNatClampNeg 4)).2 23) (x2_44 : Int32).toNatClampNeg x1_44)) 18 (upd ((mSA (mSA (mSi α23 10 (α18.1 10)) 12 (upd ((mSi α23 10 (α18.1 10)).2 12) (x2_44 : Int32).toNatClampNeg 4)) 23 (upd ((mSA (mSi α23 10 (α18.1 10)) 12 (upd ((mSi α23 10 (α18.1 10)).2 12) (x2_44 : Int32).toNatClampNeg 4)).2 23) (x2_44 : Int32).toNatClampNeg x1_44)).2 18) (x2_44 : Int32).toNatClampNeg ((α23.1 29) - ((mSA (mSA (mSi α23 10 (α18.1 10)) 12 (upd ((mSi α23 10 (α18.1 10)).2 12) (x2_44 : Int32).toNatClampNeg 4)) 23 (upd ((mSA (mSi α23 10 (α18.1 10)) 12 (upd ((mSi α23 10 (α18.1 10)).2 12) (x2_44 : Int32).toNatClampNeg 4)).2 23) (x2_44 : Int32).toNatClampNeg x1_44)).2 36 (x3_44 : Int32).toNatClampNeg)))).2 15) (x2_44 : Int32).toNatClampNeg x5_44)) 16 (upd ((mSA (mSA (mSA (mSA (mSi α23 10 (α18.1 10)) 12 (upd ((mSi α23 10 (α18.1 10)).2 12) (x2_44 : Int32).toNatClampNeg 4)) 23 (upd ((mSA (mSi α23 10 (α18.1 10)) 12 (upd ((mSi α23 10 (α18.1 10)).2 12) (x2_44 : Int32).toNatClampNeg 4)).2 23) (x2_44 : Int32).toNatClampNeg x1_44)) 18 (upd ((mSA (mSA (mSi α23 10 (α18.1 10)) 12 (upd ((mSi α23 10 (α18.1 10)).2 12) (x2_44 : Int32).toNatClampNeg 4)) 23 (upd ((mSA (mSi α23 10 (α18.1 10)) 12 (upd ((mSi α23 10 (α18.1 10)).2 12) (x2_44 : Int32).toNatClampNeg 4)).2 23) (x2_44 : Int32).toNatClampNeg x1_44)).2 18) (x2_44 : Int32).toNatClampNeg ((α23.1 29) - ((mSA (mSA (mSi α23 10 (α18.1 10)) 12 (upd ((mSi α23 10 (α18.1 10)).2 12) (x2_44 : Int32).toNatClampNeg 4)) 23 (upd ((mSA (mSi α23 10 (α18.1 10)) 12 (upd ((mSi α23 10 (α18.1 10)).2 12) (x2_44 : Int32).toNatClampNeg 4)).2 23) (x2_44 : Int32).toNatClampNeg x1_44)).2 36 (x3_44 : Int32).toNatClampNeg)))) 15 (upd ((mSA (mSA (mSA (mSi α23 10 (α18.1 10)) 12 (upd ((mSi α23 10 (α18.1 10)).2 12) (x2_44 : Int32).toNatClampNeg 4)) 23 (upd ((mSA (mSi α23 10 (α18.1 10)) 12 (upd ((mSi α23 10 (α18.1 10)).2 12) (x2_44 : Int32).toNatClampNeg 4)).2 23) (x2_44 : Int32).toNatClampNeg x1_44)) 18 (upd ((mSA (mSA (mSi α23 10 (α18.1 10)) 12 (upd ((mSi α23 10 (α18.1 10)).2 12) (x2_44 : Int32).toNatClampNeg 4)) 23 (upd ((mSA (mSi α23 10 (α18.1 10)) 12 (upd ((mSi α23 10 (α18.1 10)).2 12) (x2_44 : Int32).toNatClampNeg 4)).2 23) (x2_44 : Int32).toNatClampNeg x1_44)).2 18) (x2_44 : Int32).toNatClampNeg ((α23.1 29) - ((mSA (mSA (mSi α23 10 (α18.1 10)) 12 (upd ((mSi α23 10 (α18.1 10)).2 12) (x2_44 : Int32).toNatClampNeg 4)) 23 (upd ((mSA (mSi α23 10 (α18.1 10)) 12 (upd ((mSi α23 10 (α18.1 10)).2 12) (x2_44 : Int32).toNatClampNeg 4)).2 23) (x2_44 : Int32).toNatClampNeg x1_44)).2 36 (x3_44 : Int32).toNatClampNeg)))).2 15) (x2_44 : Int32).toNatClampNeg x5_44)).2 16) (x2_44 : Int32).toNatClampNeg 0)).2 17) (x2_44 : Int32).toNatClampNeg 0)).2 14) (x2_44 : Int32).toNatClampNeg (-1)))))))))))))))))))))))
def f_Mod_constructor (N : Nat) (a1 : Int32) (a2 : Int32) (a3 : Int32) (a4 : Int32) (a5 : Int32) (a6 : Int32) (α : mS) : Option (kO × mS) := if a3 < 0 ∨ 301 ≤ (a3 : Int32).toNatClampNeg then none else (mBi (f_Mod_whole N (α.2 34 (a3 : Int32).toNatClampNeg) a5 a5 α) fun v4 α2 => (if a3 < 0 ∨ 301 ≤ (a3 : Int32).toNatClampNeg then none else (if a3 < 0 ∨ 301 ≤ (a3 : Int32).toNatClampNeg then none else (if a2 < 0 ∨ 301 ≤ (a2 : Int32).toNatClampNeg then none else (f_Mod_constructor_44 N N v4 a1 a2 a3 a4 a5 a6 (mSA (mSA (mSA α2 36 (upd (α2.2 36) (a3 : Int32).toNatClampNeg (α2.1 29))) 43 (upd ((mSA α2 36 (upd (α2.2 36) (a3 : Int32).toNatClampNeg (α2.1 29))).2 43) (a3 : Int32).toNatClampNeg 0)) 19 (upd ((mSA (mSA α2 36 (upd (α2.2 36) (a3 : Int32).toNatClampNeg (α2.1 29))) 43 (upd ((mSA α2 36 (upd (α2.2 36) (a3 : Int32).toNatClampNeg (α2.1 29))).2 43) (a3 : Int32).toNatClampNeg 0)).2 19) (a2 : Int32).toNatClampNeg 0)))))))
set_option maxHeartbeats 4000000 in
set_option maxRecDepth 100000 in
theorem k_Mod_constructor {l : Launch} {g : mG} {α : mS} (N : Nat) (a1 : Int32) (a2 : Int32) (a3 : Int32) (a4 : Int32) (a5 : Int32) (a6 : Int32)  : ∀ x, f_Mod_constructor N a1 a2 a3 a4 a5 a6 α = some x → mC l g y_Mod_constructor b_Mod_constructor 13 none (1793) (50601) [.ref (mad g 0), .int a1, .int a2, .int a3, .int a4, .int a5, .int a6] α (mQr x) := by
  intro x h
  unfold f_Mod_constructor at h
  refine mc_ofW (by decide) (fun A p e s m args below meth c S hr hlocks hno hargs E hI => ?_)
  have hx := S.1
  have hb := S.2.1
  have hown := S.2.2.2.1
  have hT := S.2.2.2.2
  subst hargs
  have hl := lv_entry ([.ref (mad g 0), .int a1, .int a2, .int a3, .int a4, .int a5, .int a6]) (n := 13) (Nat.le_of_ble_eq_true rfl)
  rw [lg_entry_eq]
  generalize (lg_sl ([.ref (mad g 0), .int a1, .int a2, .int a3, .int a4, .int a5, .int a6]) ++ List.replicate (13 - (lg_sl ([.ref (mad g 0), .int a1, .int a2, .int a3, .int a4, .int a5, .int a6])).length) Slot.unset).toArray = ls at hl ⊢
  have hl : lv_has ls 13 [(0, .ref (mad g 0)), (1, .int a1), (2, .int a2), (3, .int a3), (4, .int a4), (5, .int a5), (6, .int a6)] := hl
  refine lv_aload_n hx hb d_Mod_constructor_0 rfl (lv_at hl 0 rfl) ?_
  refine lv_aload_n hx hb d_Mod_constructor_1 rfl (lv_at hl 0 rfl) ?_
  refine mf_texts S E hI vt_1332 d_Mod_constructor_2 ?_
  refine lv_iload_n hx hb d_Mod_constructor_5 rfl (lv_at hl 3 rfl) ?_
  by_cases c1 : a3 < 0 ∨ 301 ≤ (a3 : Int32).toNatClampNeg
  · replace h := Eq.trans (if_pos c1).symm h
    cases h
  · replace h := Eq.trans (if_neg c1).symm h
    refine ml_texts S E hI c1 d_Mod_constructor_6 ?_
    refine lv_iload hx hb d_Mod_constructor_7 (lv_at hl 5 rfl) ?_
    refine lv_iload hx hb d_Mod_constructor_9 (lv_at hl 5 rfl) ?_
    refine mg_cI (As := [.int (α.2 34 (a3 : Int32).toNatClampNeg), .int a5, .int a5]) (rest := []) h (k_Mod_whole (l := l) (g := g) (α := α) N (α.2 34 (a3 : Int32).toNatClampNeg) a5 a5) S hlocks hno E hI kw_Mod_513 ⟨Nat.le_of_ble_eq_true rfl, Nat.le_of_ble_eq_true rfl⟩ (mv_Mod E hI) rfl hl.1 rfl (Nat.le_of_ble_eq_true rfl) d_Mod_constructor_11 (fun v4 α2 H locs e3 h hI => ?_)
    refine lv_istore (lv' := [(7, .int v4), (0, .ref (mad g 0)), (1, .int a1), (2, .int a2), (3, .int a3), (4, .int a4), (5, .int a5), (6, .int a6)]) hx hb d_Mod_constructor_14 hl (by decide) rfl (fun ls hl => ?_)
    refine lv_aload_n hx hb d_Mod_constructor_16 rfl (lv_at hl 1 rfl) ?_
    refine mf_firstArgument S E hI vt_1334 d_Mod_constructor_17 ?_
    refine lv_iload_n hx hb d_Mod_constructor_20 rfl (lv_at hl 4 rfl) ?_
    refine lv_aload_n hx hb d_Mod_constructor_21 rfl (lv_at hl 1 rfl) ?_
    refine mf_argumentCount S E hI vt_1339 d_Mod_constructor_22 ?_
    by_cases c5 : a3 < 0 ∨ 301 ≤ (a3 : Int32).toNatClampNeg
    · replace h := Eq.trans (if_pos c5).symm h
      cases h
    · replace h := Eq.trans (if_neg c5).symm h
      refine ms_firstArgument S E hI c5 d_Mod_constructor_25 (fun H locs hI => ?_)
      refine lv_aload_n hx hb d_Mod_constructor_26 rfl (lv_at hl 1 rfl) ?_
      refine mf_openCost S E hI vt_1343 d_Mod_constructor_27 ?_
      refine lv_iload_n hx hb d_Mod_constructor_30 rfl (lv_at hl 4 rfl) ?_
      refine lv_iconst (v := 0) hx hb d_Mod_constructor_31 (by decide) ?_
      by_cases c6 : a3 < 0 ∨ 301 ≤ (a3 : Int32).toNatClampNeg
      · replace h := Eq.trans (if_pos c6).symm h
        cases h
      · replace h := Eq.trans (if_neg c6).symm h
        refine ms_openCost S E hI c6 d_Mod_constructor_32 (fun H locs hI => ?_)
        refine lv_aload_n hx hb d_Mod_constructor_33 rfl (lv_at hl 1 rfl) ?_
        refine mf_recursive S E hI vt_1303 d_Mod_constructor_34 ?_
        refine lv_iload_n hx hb d_Mod_constructor_37 rfl (lv_at hl 3 rfl) ?_
        refine lv_iconst (v := 0) hx hb d_Mod_constructor_38 (by decide) ?_
        by_cases c7 : a2 < 0 ∨ 301 ≤ (a2 : Int32).toNatClampNeg
        · replace h := Eq.trans (if_pos c7).symm h
          cases h
        · replace h := Eq.trans (if_neg c7).symm h
          refine ms_recursive S E hI c7 d_Mod_constructor_39 (fun H locs hI => ?_)
          refine lv_iload hx hb d_Mod_constructor_40 (lv_at hl 0 rfl) ?_
          refine lv_istore (lv' := [(8, .int v4), (7, .int v4), (0, .ref (mad g 0)), (1, .int a1), (2, .int a2), (3, .int a3), (4, .int a4), (5, .int a5), (6, .int a6)]) hx hb d_Mod_constructor_42 hl (by decide) rfl (fun ls hl => ?_)
          have L44 : ∀ (n44 : Nat) (x8_44 : Int32) (x1_44 : Int32) (x2_44 : Int32) (x3_44 : Int32) (x4_44 : Int32) (x5_44 : Int32) (x6_44 : Int32) (β44 : mS) (H : Heap) (locs : List Loc) (ls : Array Slot), f_Mod_constructor_44 N n44 x8_44 x1_44 x2_44 x3_44 x4_44 x5_44 x6_44 β44 = some x → mI g A s β44 H locs → lv_has ls 13 [(8, .int x8_44), (0, .ref (mad g 0)), (1, .int x1_44), (2, .int x2_44), (3, .int x3_44), (4, .int x4_44), (5, .int x5_44), (6, .int x6_44)] → W p l e (mR (1793) (50601)) s m ([.ref (mad g 0), .int a1, .int a2, .int a3, .int a4, .int a5, .int a6]).toArray below meth c H locs 0 0 (vEQ below (mQ g A (mQr x)) ([.ref (mad g 0), .int a1, .int a2, .int a3, .int a4, .int a5, .int a6]).toArray s A) (F0 m 44 ls []) := by
            intro n44
            induction n44 with
            | zero => intro x8_44 x1_44 x2_44 x3_44 x4_44 x5_44 x6_44 β44 H locs ls h hI hl; rw [f_Mod_constructor_44] at h; cases h
            | succ n44 ih44 =>
              intro x8_44 x1_44 x2_44 x3_44 x4_44 x5_44 x6_44 β44 H locs ls h hI hl
              rw [f_Mod_constructor_44] at h
              have J245 : ∀ (y12 : Int32) (y8 : Int32) (y1 : Int32) (y2 : Int32) (y3 : Int32) (y4 : Int32) (y5 : Int32) (y6 : Int32) (t0 : Int32) (t1 : Int32) (γ : mS) (H : Heap) (locs : List Loc) (ls : Array Slot), f_Mod_constructor_j245 N (f_Mod_constructor_44 N n44) y12 y8 y1 y2 y3 y4 y5 y6 t0 t1 γ = some x → mI g A s γ H locs → lv_has ls 13 [(12, .int y12), (8, .int y8), (0, .ref (mad g 0)), (1, .int y1), (2, .int y2), (3, .int y3), (4, .int y4), (5, .int y5), (6, .int y6)] → W p l e (mR (1793) (50601)) s m ([.ref (mad g 0), .int a1, .int a2, .int a3, .int a4, .int a5, .int a6]).toArray below meth c H locs 0 0 (vEQ below (mQ g A (mQr x)) ([.ref (mad g 0), .int a1, .int a2, .int a3, .int a4, .int a5, .int a6]).toArray s A) (F0 m 245 ls [.int t0, .int t1, .ref (mad g 41)]) := by
                intro y12 y8 y1 y2 y3 y4 y5 y6 t0 t1 γ H locs ls h hI hl
                unfold f_Mod_constructor_j245 at h
                by_cases c49 : t1 < 0 ∨ 4000 ≤ (t1 : Int32).toNatClampNeg
                · replace h := Eq.trans (if_pos c49).symm h
                  cases h
                · replace h := Eq.trans (if_neg c49).symm h
                  refine ms_isProof S E hI c49 d_Mod_constructor_245 (fun H locs hI => ?_)
                  refine lv_aload_n hx hb d_Mod_constructor_246 rfl (lv_at hl 2 rfl) ?_
                  refine lv_aload_n hx hb d_Mod_constructor_247 rfl (lv_at hl 2 rfl) ?_
                  refine mf_two S E hI vt_1281 d_Mod_constructor_248 ?_
                  refine lv_iload hx hb d_Mod_constructor_251 (lv_at hl 1 rfl) ?_
                  by_cases c50 : y8 < 0 ∨ 400000 ≤ (y8 : Int32).toNatClampNeg
                  · replace h := Eq.trans (if_pos c50).symm h
                    cases h
                  · replace h := Eq.trans (if_neg c50).symm h
                    refine ml_two S E hI c50 d_Mod_constructor_253 ?_
                    refine lv_iload hx hb d_Mod_constructor_254 (lv_at hl 0 rfl) ?_
                    refine mg_cI (As := [.int ((mSA γ 40 (upd (γ.2 40) (t1 : Int32).toNatClampNeg (vp_nar .boolean t0))).2 4 (y8 : Int32).toNatClampNeg), .int y12]) (rest := []) h (k_Mod_open (l := l) (g := g) (α := (mSA γ 40 (upd (γ.2 40) (t1 : Int32).toNatClampNeg (vp_nar .boolean t0)))) N ((mSA γ 40 (upd (γ.2 40) (t1 : Int32).toNatClampNeg (vp_nar .boolean t0))).2 4 (y8 : Int32).toNatClampNeg) y12) S hlocks hno E hI kw_Mod_471 ⟨Nat.le_of_ble_eq_true rfl, Nat.le_of_ble_eq_true rfl⟩ (mv_Mod E hI) rfl hl.1 rfl (Nat.le_of_ble_eq_true rfl) d_Mod_constructor_256 (fun v53 α51 H locs e52 h hI => ?_)
                    refine lv_istore (lv' := [(8, .int v53), (12, .int y12), (0, .ref (mad g 0)), (1, .int y1), (2, .int y2), (3, .int y3), (4, .int y4), (5, .int y5), (6, .int y6)]) hx hb d_Mod_constructor_259 hl (by decide) rfl (fun ls hl => ?_)
                    refine lv_aload_n hx hb d_Mod_constructor_261 rfl (lv_at hl 2 rfl) ?_
                    refine mf_openCost S E hI vt_1343 d_Mod_constructor_262 ?_
                    refine lv_iload_n hx hb d_Mod_constructor_265 rfl (lv_at hl 5 rfl) ?_
                    refine lv_dup2_11 hx hb d_Mod_constructor_266 rfl rfl ?_
                    by_cases c54 : y3 < 0 ∨ 301 ≤ (y3 : Int32).toNatClampNeg
                    · replace h := Eq.trans (if_pos c54).symm h
                      cases h
                    · replace h := Eq.trans (if_neg c54).symm h
                      refine ml_openCost S E hI c54 d_Mod_constructor_267 ?_
                      refine lv_aload_n hx hb d_Mod_constructor_268 rfl (lv_at hl 2 rfl) ?_
                      refine mf_big S E hI vt_1283 d_Mod_constructor_269 ?_
                      refine lv_iload hx hb d_Mod_constructor_272 (lv_at hl 0 rfl) ?_
                      by_cases c55 : v53 < 0 ∨ 400000 ≤ (v53 : Int32).toNatClampNeg
                      · replace h := Eq.trans (if_pos c55).symm h
                        cases h
                      · replace h := Eq.trans (if_neg c55).symm h
                        refine ml_big S E hI c55 d_Mod_constructor_274 ?_
                        refine lv_iadd hx hb d_Mod_constructor_275 ?_
                        by_cases c56 : y3 < 0 ∨ 301 ≤ (y3 : Int32).toNatClampNeg
                        · replace h := Eq.trans (if_pos c56).symm h
                          cases h
                        · replace h := Eq.trans (if_neg c56).symm h
                          refine ms_openCost S E hI c56 d_Mod_constructor_276 (fun H locs hI => ?_)
                          refine lv_goto (tgt := 44) hx hb d_Mod_constructor_277 (by decide) ?_
                          exact ih44 v53 y1 y2 y3 y4 y5 y6 _ _ _ _ h hI (lv_sub hl [0, 2, 3, 4, 5, 6, 7, 8] rfl)
              have J185 : ∀ (y11 : Int32) (y10 : Int32) (y9 : Int32) (y8 : Int32) (y1 : Int32) (y2 : Int32) (y3 : Int32) (y4 : Int32) (y5 : Int32) (y6 : Int32) (γ : mS) (H : Heap) (locs : List Loc) (ls : Array Slot), f_Mod_constructor_j185 N (f_Mod_constructor_44 N n44) y11 y10 y9 y8 y1 y2 y3 y4 y5 y6 γ = some x → mI g A s γ H locs → lv_has ls 13 [(11, .int y11), (10, .int y10), (9, .int y9), (8, .int y8), (0, .ref (mad g 0)), (1, .int y1), (2, .int y2), (3, .int y3), (4, .int y4), (5, .int y5), (6, .int y6)] → W p l e (mR (1793) (50601)) s m ([.ref (mad g 0), .int a1, .int a2, .int a3, .int a4, .int a5, .int a6]).toArray below meth c H locs 0 0 (vEQ below (mQ g A (mQr x)) ([.ref (mad g 0), .int a1, .int a2, .int a3, .int a4, .int a5, .int a6]).toArray s A) (F0 m 185 ls []) := by
                intro y11 y10 y9 y8 y1 y2 y3 y4 y5 y6 γ H locs ls h hI hl
                unfold f_Mod_constructor_j185 at h
                refine lv_aload_n hx hb d_Mod_constructor_185 rfl (lv_at hl 4 rfl) ?_
                refine lv_iload hx hb d_Mod_constructor_186 (lv_at hl 2 rfl) ?_
                refine mg_cI (As := [.int y9]) (rest := []) h (k_Mod_fresh (l := l) (g := g) (α := γ) N y9) S hlocks hno E hI kw_Mod_468 ⟨Nat.le_of_ble_eq_true rfl, Nat.le_of_ble_eq_true rfl⟩ (mv_Mod E hI) rfl hl.1 rfl (Nat.le_of_ble_eq_true rfl) d_Mod_constructor_188 (fun v44 α42 H locs e43 h hI => ?_)
                refine lv_istore (lv' := [(12, .int v44), (11, .int y11), (10, .int y10), (9, .int y9), (8, .int y8), (0, .ref (mad g 0)), (1, .int y1), (2, .int y2), (3, .int y3), (4, .int y4), (5, .int y5), (6, .int y6)]) hx hb d_Mod_constructor_191 hl (by decide) rfl (fun ls hl => ?_)
                refine lv_aload_n hx hb d_Mod_constructor_193 rfl (lv_at hl 5 rfl) ?_
                refine mf_argument S E hI vt_1336 d_Mod_constructor_194 ?_
                refine lv_aload_n hx hb d_Mod_constructor_197 rfl (lv_at hl 5 rfl) ?_
                refine mf_argumentCount S E hI vt_1339 d_Mod_constructor_198 ?_
                refine lv_aload_n hx hb d_Mod_constructor_201 rfl (lv_at hl 5 rfl) ?_
                refine mf_one S E hI vt_1280 d_Mod_constructor_202 ?_
                refine lv_iload hx hb d_Mod_constructor_205 (lv_at hl 0 rfl) ?_
                by_cases c45 : v44 < 0 ∨ 400000 ≤ (v44 : Int32).toNatClampNeg
                · replace h := Eq.trans (if_pos c45).symm h
                  cases h
                · replace h := Eq.trans (if_neg c45).symm h
                  refine ml_one S E hI c45 d_Mod_constructor_207 ?_
                  by_cases c46 : (α42.1 29) < 0 ∨ 4000 ≤ ((α42.1 29) : Int32).toNatClampNeg
                  · replace h := Eq.trans (if_pos c46).symm h
                    cases h
                  · replace h := Eq.trans (if_neg c46).symm h
                    refine ms_argument S E hI c46 d_Mod_constructor_208 (fun H locs hI => ?_)
                    refine lv_aload_n hx hb d_Mod_constructor_209 rfl (lv_at hl 5 rfl) ?_
                    refine mf_isRecursive S E hI vt_1337 d_Mod_constructor_210 ?_
                    refine lv_aload_n hx hb d_Mod_constructor_213 rfl (lv_at hl 5 rfl) ?_
                    refine mf_argumentCount S E hI vt_1339 d_Mod_constructor_214 ?_
                    refine lv_iload hx hb d_Mod_constructor_217 (lv_at hl 1 rfl) ?_
                    by_cases c47 : (α42.1 29) < 0 ∨ 4000 ≤ ((α42.1 29) : Int32).toNatClampNeg
                    · replace h := Eq.trans (if_pos c47).symm h
                      cases h
                    · replace h := Eq.trans (if_neg c47).symm h
                      refine ms_isRecursive S E hI c47 d_Mod_constructor_219 (fun H locs hI => ?_)
                      refine lv_aload_n hx hb d_Mod_constructor_220 rfl (lv_at hl 5 rfl) ?_
                      refine mf_isProof S E hI vt_1338 d_Mod_constructor_221 ?_
                      refine lv_aload_n hx hb d_Mod_constructor_224 rfl (lv_at hl 5 rfl) ?_
                      refine lv_dup hx hb d_Mod_constructor_225 rfl ?_
                      refine mf_argumentCount S E hI vt_1339 d_Mod_constructor_226 ?_
                      refine lv_dup_x1 hx hb d_Mod_constructor_229 rfl rfl ?_
                      refine lv_iconst (v := 1) hx hb d_Mod_constructor_230 (by decide) ?_
                      refine lv_iadd hx hb d_Mod_constructor_231 ?_
                      refine mp_argumentCount S E hI vt_1339 d_Mod_constructor_232 (fun H locs hI => ?_)
                      refine lv_iload hx hb d_Mod_constructor_235 (lv_at hl 2 rfl) ?_
                      refine lv_if_ne (tgt := 244) hx hb d_Mod_constructor_237 (by decide) (fun c48 => ?_) (fun c48 => ?_)
                      · replace h := Eq.trans (if_neg c48).symm h
                        refine lv_iconst (v := 0) hx hb d_Mod_constructor_244 (by decide) ?_
                        exact J245 v44 y8 y1 y2 y3 y4 y5 y6 0 (α42.1 29) _ _ _ _ h hI (lv_sub hl [0, 4, 5, 6, 7, 8, 9, 10, 11] rfl)
                      · replace h := Eq.trans (if_pos c48).symm h
                        refine lv_iconst (v := 1) hx hb d_Mod_constructor_240 (by decide) ?_
                        refine lv_goto (tgt := 245) hx hb d_Mod_constructor_241 (by decide) ?_
                        exact J245 v44 y8 y1 y2 y3 y4 y5 y6 1 (α42.1 29) _ _ _ _ h hI (lv_sub hl [0, 4, 5, 6, 7, 8, 9, 10, 11] rfl)
              have J92 : ∀ (y10 : Int32) (y9 : Int32) (y8 : Int32) (y1 : Int32) (y2 : Int32) (y3 : Int32) (y4 : Int32) (y5 : Int32) (y6 : Int32) (γ : mS) (H : Heap) (locs : List Loc) (ls : Array Slot), f_Mod_constructor_j92 N (f_Mod_constructor_44 N n44) y10 y9 y8 y1 y2 y3 y4 y5 y6 γ = some x → mI g A s γ H locs → lv_has ls 13 [(10, .int y10), (9, .int y9), (8, .int y8), (0, .ref (mad g 0)), (1, .int y1), (2, .int y2), (3, .int y3), (4, .int y4), (5, .int y5), (6, .int y6)] → W p l e (mR (1793) (50601)) s m ([.ref (mad g 0), .int a1, .int a2, .int a3, .int a4, .int a5, .int a6]).toArray below meth c H locs 0 0 (vEQ below (mQ g A (mQr x)) ([.ref (mad g 0), .int a1, .int a2, .int a3, .int a4, .int a5, .int a6]).toArray s A) (F0 m 92 ls []) := by
                intro y10 y9 y8 y1 y2 y3 y4 y5 y6 γ H locs ls h hI hl
                unfold f_Mod_constructor_j92 at h
                refine lv_aload_n hx hb d_Mod_constructor_92 rfl (lv_at hl 3 rfl) ?_
                refine lv_iload hx hb d_Mod_constructor_93 (lv_at hl 1 rfl) ?_
                refine lv_iload_n hx hb d_Mod_constructor_95 rfl (lv_at hl 4 rfl) ?_
                obtain ⟨v39, e40, h⟩ := Option.bind_eq_some_iff.mp h
                refine mg_p (As := [.int y9, .int y1]) (rest := []) ((((ok_has (l := l) (g := g) N dp_has)) y9 y1 γ) _ e40) S E hI kw_Mod_367 (Or.inl rfl) ⟨Nat.le_of_ble_eq_true rfl, Nat.le_of_ble_eq_true rfl⟩ (mv_Mod E hI) rfl hl.1 rfl (Nat.le_of_ble_eq_true rfl) d_Mod_constructor_96 rfl ?_
                refine lv_istore (lv' := [(11, .int v39), (10, .int y10), (9, .int y9), (8, .int y8), (0, .ref (mad g 0)), (1, .int y1), (2, .int y2), (3, .int y3), (4, .int y4), (5, .int y5), (6, .int y6)]) hx hb d_Mod_constructor_99 hl (by decide) rfl (fun ls hl => ?_)
                refine lv_iload hx hb d_Mod_constructor_101 (lv_at hl 0 rfl) ?_
                refine lv_if_eq (tgt := 185) hx hb d_Mod_constructor_103 (by decide) (fun c41 => ?_) (fun c41 => ?_)
                · replace h := Eq.trans (if_pos c41).symm h
                  exact J185 v39 y10 y9 y8 y1 y2 y3 y4 y5 y6 _ _ _ _ h hI (lv_sub hl [0, 1, 2, 3, 4, 5, 6, 7, 8, 9, 10] rfl)
                · replace h := Eq.trans (if_neg c41).symm h
                  refine lv_iload hx hb d_Mod_constructor_106 (lv_at hl 2 rfl) ?_
                  refine lv_istore (lv' := [(12, .int y9), (11, .int v39), (10, .int y10), (9, .int y9), (8, .int y8), (0, .ref (mad g 0)), (1, .int y1), (2, .int y2), (3, .int y3), (4, .int y4), (5, .int y5), (6, .int y6)]) hx hb d_Mod_constructor_108 hl (by decide) rfl (fun ls hl => ?_)
                  have L110 : ∀ (n110 : Nat) (x12_110 : Int32) (x11_110 : Int32) (x10_110 : Int32) (x9_110 : Int32) (x8_110 : Int32) (x1_110 : Int32) (x2_110 : Int32) (x3_110 : Int32) (x4_110 : Int32) (x5_110 : Int32) (x6_110 : Int32) (β110 : mS) (H : Heap) (locs : List Loc) (ls : Array Slot), f_Mod_constructor_110 N (f_Mod_constructor_44 N n44) n110 x12_110 x11_110 x10_110 x9_110 x8_110 x1_110 x2_110 x3_110 x4_110 x5_110 x6_110 β110 = some x → mI g A s β110 H locs → lv_has ls 13 [(12, .int x12_110), (11, .int x11_110), (10, .int x10_110), (9, .int x9_110), (8, .int x8_110), (0, .ref (mad g 0)), (1, .int x1_110), (2, .int x2_110), (3, .int x3_110), (4, .int x4_110), (5, .int x5_110), (6, .int x6_110)] → W p l e (mR (1793) (50601)) s m ([.ref (mad g 0), .int a1, .int a2, .int a3, .int a4, .int a5, .int a6]).toArray below meth c H locs 0 0 (vEQ below (mQ g A (mQr x)) ([.ref (mad g 0), .int a1, .int a2, .int a3, .int a4, .int a5, .int a6]).toArray s A) (F0 m 110 ls []) := by
                    intro n110
                    induction n110 with
                    | zero => intro x12_110 x11_110 x10_110 x9_110 x8_110 x1_110 x2_110 x3_110 x4_110 x5_110 x6_110 β110 H locs ls h hI hl; rw [f_Mod_constructor_110] at h; cases h
                    | succ n110 ih110 =>
                      intro x12_110 x11_110 x10_110 x9_110 x8_110 x1_110 x2_110 x3_110 x4_110 x5_110 x6_110 β110 H locs ls h hI hl
                      rw [f_Mod_constructor_110] at h
                      have J245 : ∀ (y12 : Int32) (y8 : Int32) (y1 : Int32) (y2 : Int32) (y3 : Int32) (y4 : Int32) (y5 : Int32) (y6 : Int32) (t0 : Int32) (t1 : Int32) (γ : mS) (H : Heap) (locs : List Loc) (ls : Array Slot), f_Mod_constructor_j245 N (f_Mod_constructor_44 N n44) y12 y8 y1 y2 y3 y4 y5 y6 t0 t1 γ = some x → mI g A s γ H locs → lv_has ls 13 [(12, .int y12), (8, .int y8), (0, .ref (mad g 0)), (1, .int y1), (2, .int y2), (3, .int y3), (4, .int y4), (5, .int y5), (6, .int y6)] → W p l e (mR (1793) (50601)) s m ([.ref (mad g 0), .int a1, .int a2, .int a3, .int a4, .int a5, .int a6]).toArray below meth c H locs 0 0 (vEQ below (mQ g A (mQr x)) ([.ref (mad g 0), .int a1, .int a2, .int a3, .int a4, .int a5, .int a6]).toArray s A) (F0 m 245 ls [.int t0, .int t1, .ref (mad g 41)]) := by
                        intro y12 y8 y1 y2 y3 y4 y5 y6 t0 t1 γ H locs ls h hI hl
                        unfold f_Mod_constructor_j245 at h
                        by_cases c71 : t1 < 0 ∨ 4000 ≤ (t1 : Int32).toNatClampNeg
                        · replace h := Eq.trans (if_pos c71).symm h
                          cases h
                        · replace h := Eq.trans (if_neg c71).symm h
                          refine ms_isProof S E hI c71 d_Mod_constructor_245 (fun H locs hI => ?_)
                          refine lv_aload_n hx hb d_Mod_constructor_246 rfl (lv_at hl 2 rfl) ?_
                          refine lv_aload_n hx hb d_Mod_constructor_247 rfl (lv_at hl 2 rfl) ?_
                          refine mf_two S E hI vt_1281 d_Mod_constructor_248 ?_
                          refine lv_iload hx hb d_Mod_constructor_251 (lv_at hl 1 rfl) ?_
                          by_cases c72 : y8 < 0 ∨ 400000 ≤ (y8 : Int32).toNatClampNeg
                          · replace h := Eq.trans (if_pos c72).symm h
                            cases h
                          · replace h := Eq.trans (if_neg c72).symm h
                            refine ml_two S E hI c72 d_Mod_constructor_253 ?_
                            refine lv_iload hx hb d_Mod_constructor_254 (lv_at hl 0 rfl) ?_
                            refine mg_cI (As := [.int ((mSA γ 40 (upd (γ.2 40) (t1 : Int32).toNatClampNeg (vp_nar .boolean t0))).2 4 (y8 : Int32).toNatClampNeg), .int y12]) (rest := []) h (k_Mod_open (l := l) (g := g) (α := (mSA γ 40 (upd (γ.2 40) (t1 : Int32).toNatClampNeg (vp_nar .boolean t0)))) N ((mSA γ 40 (upd (γ.2 40) (t1 : Int32).toNatClampNeg (vp_nar .boolean t0))).2 4 (y8 : Int32).toNatClampNeg) y12) S hlocks hno E hI kw_Mod_471 ⟨Nat.le_of_ble_eq_true rfl, Nat.le_of_ble_eq_true rfl⟩ (mv_Mod E hI) rfl hl.1 rfl (Nat.le_of_ble_eq_true rfl) d_Mod_constructor_256 (fun v75 α73 H locs e74 h hI => ?_)
                            refine lv_istore (lv' := [(8, .int v75), (12, .int y12), (0, .ref (mad g 0)), (1, .int y1), (2, .int y2), (3, .int y3), (4, .int y4), (5, .int y5), (6, .int y6)]) hx hb d_Mod_constructor_259 hl (by decide) rfl (fun ls hl => ?_)
                            refine lv_aload_n hx hb d_Mod_constructor_261 rfl (lv_at hl 2 rfl) ?_
                            refine mf_openCost S E hI vt_1343 d_Mod_constructor_262 ?_
                            refine lv_iload_n hx hb d_Mod_constructor_265 rfl (lv_at hl 5 rfl) ?_
                            refine lv_dup2_11 hx hb d_Mod_constructor_266 rfl rfl ?_
                            by_cases c76 : y3 < 0 ∨ 301 ≤ (y3 : Int32).toNatClampNeg
                            · replace h := Eq.trans (if_pos c76).symm h
                              cases h
                            · replace h := Eq.trans (if_neg c76).symm h
                              refine ml_openCost S E hI c76 d_Mod_constructor_267 ?_
                              refine lv_aload_n hx hb d_Mod_constructor_268 rfl (lv_at hl 2 rfl) ?_
                              refine mf_big S E hI vt_1283 d_Mod_constructor_269 ?_
                              refine lv_iload hx hb d_Mod_constructor_272 (lv_at hl 0 rfl) ?_
                              by_cases c77 : v75 < 0 ∨ 400000 ≤ (v75 : Int32).toNatClampNeg
                              · replace h := Eq.trans (if_pos c77).symm h
                                cases h
                              · replace h := Eq.trans (if_neg c77).symm h
                                refine ml_big S E hI c77 d_Mod_constructor_274 ?_
                                refine lv_iadd hx hb d_Mod_constructor_275 ?_
                                by_cases c78 : y3 < 0 ∨ 301 ≤ (y3 : Int32).toNatClampNeg
                                · replace h := Eq.trans (if_pos c78).symm h
                                  cases h
                                · replace h := Eq.trans (if_neg c78).symm h
                                  refine ms_openCost S E hI c78 d_Mod_constructor_276 (fun H locs hI => ?_)
                                  refine lv_goto (tgt := 44) hx hb d_Mod_constructor_277 (by decide) ?_
                                  exact ih44 v75 y1 y2 y3 y4 y5 y6 _ _ _ _ h hI (lv_sub hl [0, 2, 3, 4, 5, 6, 7, 8] rfl)
                      have J185 : ∀ (y11 : Int32) (y10 : Int32) (y9 : Int32) (y8 : Int32) (y1 : Int32) (y2 : Int32) (y3 : Int32) (y4 : Int32) (y5 : Int32) (y6 : Int32) (γ : mS) (H : Heap) (locs : List Loc) (ls : Array Slot), f_Mod_constructor_j185 N (f_Mod_constructor_44 N n44) y11 y10 y9 y8 y1 y2 y3 y4 y5 y6 γ = some x → mI g A s γ H locs → lv_has ls 13 [(11, .int y11), (10, .int y10), (9, .int y9), (8, .int y8), (0, .ref (mad g 0)), (1, .int y1), (2, .int y2), (3, .int y3), (4, .int y4), (5, .int y5), (6, .int y6)] → W p l e (mR (1793) (50601)) s m ([.ref (mad g 0), .int a1, .int a2, .int a3, .int a4, .int a5, .int a6]).toArray below meth c H locs 0 0 (vEQ below (mQ g A (mQr x)) ([.ref (mad g 0), .int a1, .int a2, .int a3, .int a4, .int a5, .int a6]).toArray s A) (F0 m 185 ls []) := by
                        intro y11 y10 y9 y8 y1 y2 y3 y4 y5 y6 γ H locs ls h hI hl
                        unfold f_Mod_constructor_j185 at h
                        refine lv_aload_n hx hb d_Mod_constructor_185 rfl (lv_at hl 4 rfl) ?_
                        refine lv_iload hx hb d_Mod_constructor_186 (lv_at hl 2 rfl) ?_
                        refine mg_cI (As := [.int y9]) (rest := []) h (k_Mod_fresh (l := l) (g := g) (α := γ) N y9) S hlocks hno E hI kw_Mod_468 ⟨Nat.le_of_ble_eq_true rfl, Nat.le_of_ble_eq_true rfl⟩ (mv_Mod E hI) rfl hl.1 rfl (Nat.le_of_ble_eq_true rfl) d_Mod_constructor_188 (fun v66 α64 H locs e65 h hI => ?_)
                        refine lv_istore (lv' := [(12, .int v66), (11, .int y11), (10, .int y10), (9, .int y9), (8, .int y8), (0, .ref (mad g 0)), (1, .int y1), (2, .int y2), (3, .int y3), (4, .int y4), (5, .int y5), (6, .int y6)]) hx hb d_Mod_constructor_191 hl (by decide) rfl (fun ls hl => ?_)
                        refine lv_aload_n hx hb d_Mod_constructor_193 rfl (lv_at hl 5 rfl) ?_
                        refine mf_argument S E hI vt_1336 d_Mod_constructor_194 ?_
                        refine lv_aload_n hx hb d_Mod_constructor_197 rfl (lv_at hl 5 rfl) ?_
                        refine mf_argumentCount S E hI vt_1339 d_Mod_constructor_198 ?_
                        refine lv_aload_n hx hb d_Mod_constructor_201 rfl (lv_at hl 5 rfl) ?_
                        refine mf_one S E hI vt_1280 d_Mod_constructor_202 ?_
                        refine lv_iload hx hb d_Mod_constructor_205 (lv_at hl 0 rfl) ?_
                        by_cases c67 : v66 < 0 ∨ 400000 ≤ (v66 : Int32).toNatClampNeg
                        · replace h := Eq.trans (if_pos c67).symm h
                          cases h
                        · replace h := Eq.trans (if_neg c67).symm h
                          refine ml_one S E hI c67 d_Mod_constructor_207 ?_
                          by_cases c68 : (α64.1 29) < 0 ∨ 4000 ≤ ((α64.1 29) : Int32).toNatClampNeg
                          · replace h := Eq.trans (if_pos c68).symm h
                            cases h
                          · replace h := Eq.trans (if_neg c68).symm h
                            refine ms_argument S E hI c68 d_Mod_constructor_208 (fun H locs hI => ?_)
                            refine lv_aload_n hx hb d_Mod_constructor_209 rfl (lv_at hl 5 rfl) ?_
                            refine mf_isRecursive S E hI vt_1337 d_Mod_constructor_210 ?_
                            refine lv_aload_n hx hb d_Mod_constructor_213 rfl (lv_at hl 5 rfl) ?_
                            refine mf_argumentCount S E hI vt_1339 d_Mod_constructor_214 ?_
                            refine lv_iload hx hb d_Mod_constructor_217 (lv_at hl 1 rfl) ?_
                            by_cases c69 : (α64.1 29) < 0 ∨ 4000 ≤ ((α64.1 29) : Int32).toNatClampNeg
                            · replace h := Eq.trans (if_pos c69).symm h
                              cases h
                            · replace h := Eq.trans (if_neg c69).symm h
                              refine ms_isRecursive S E hI c69 d_Mod_constructor_219 (fun H locs hI => ?_)
                              refine lv_aload_n hx hb d_Mod_constructor_220 rfl (lv_at hl 5 rfl) ?_
                              refine mf_isProof S E hI vt_1338 d_Mod_constructor_221 ?_
                              refine lv_aload_n hx hb d_Mod_constructor_224 rfl (lv_at hl 5 rfl) ?_
                              refine lv_dup hx hb d_Mod_constructor_225 rfl ?_
                              refine mf_argumentCount S E hI vt_1339 d_Mod_constructor_226 ?_
                              refine lv_dup_x1 hx hb d_Mod_constructor_229 rfl rfl ?_
                              refine lv_iconst (v := 1) hx hb d_Mod_constructor_230 (by decide) ?_
                              refine lv_iadd hx hb d_Mod_constructor_231 ?_
                              refine mp_argumentCount S E hI vt_1339 d_Mod_constructor_232 (fun H locs hI => ?_)
                              refine lv_iload hx hb d_Mod_constructor_235 (lv_at hl 2 rfl) ?_
                              refine lv_if_ne (tgt := 244) hx hb d_Mod_constructor_237 (by decide) (fun c70 => ?_) (fun c70 => ?_)
                              · replace h := Eq.trans (if_neg c70).symm h
                                refine lv_iconst (v := 0) hx hb d_Mod_constructor_244 (by decide) ?_
                                exact J245 v66 y8 y1 y2 y3 y4 y5 y6 0 (α64.1 29) _ _ _ _ h hI (lv_sub hl [0, 4, 5, 6, 7, 8, 9, 10, 11] rfl)
                              · replace h := Eq.trans (if_pos c70).symm h
                                refine lv_iconst (v := 1) hx hb d_Mod_constructor_240 (by decide) ?_
                                refine lv_goto (tgt := 245) hx hb d_Mod_constructor_241 (by decide) ?_
                                exact J245 v66 y8 y1 y2 y3 y4 y5 y6 1 (α64.1 29) _ _ _ _ h hI (lv_sub hl [0, 4, 5, 6, 7, 8, 9, 10, 11] rfl)
                      refine lv_aload_n hx hb d_Mod_constructor_110 rfl (lv_at hl 5 rfl) ?_
                      refine mf_kind S E hI vt_1279 d_Mod_constructor_111 ?_
                      refine lv_iload hx hb d_Mod_constructor_114 (lv_at hl 0 rfl) ?_
                      by_cases c57 : x12_110 < 0 ∨ 400000 ≤ (x12_110 : Int32).toNatClampNeg
                      · replace h := Eq.trans (if_pos c57).symm h
                        cases h
                      · replace h := Eq.trans (if_neg c57).symm h
                        refine ml_kind S E hI c57 d_Mod_constructor_116 ?_
                        refine lv_bipush (v := 6) hx hb d_Mod_constructor_117 (by decide) ?_
                        refine lv_icmp_ne (tgt := 155) hx hb d_Mod_constructor_119 (by decide) (fun c58 => ?_) (fun c58 => ?_)
                        · replace h := Eq.trans (if_neg c58).symm h
                          refine lv_aload_n hx hb d_Mod_constructor_155 rfl (lv_at hl 5 rfl) ?_
                          refine lv_iload hx hb d_Mod_constructor_156 (lv_at hl 0 rfl) ?_
                          refine lv_iload_n hx hb d_Mod_constructor_158 rfl (lv_at hl 6 rfl) ?_
                          refine lv_iload hx hb d_Mod_constructor_159 (lv_at hl 10 rfl) ?_
                          refine lv_iload hx hb d_Mod_constructor_161 (lv_at hl 11 rfl) ?_
                          obtain ⟨v59, e60, h⟩ := Option.bind_eq_some_iff.mp h
                          refine mg_p (As := [.int x12_110, .int x1_110, .int x5_110, .int x6_110]) (rest := []) ((k_Mod_isFamily (l := l) (g := g) (α := β110) N x12_110 x1_110 x5_110 x6_110) _ e60) S E hI kw_Mod_547 (Or.inl rfl) ⟨Nat.le_of_ble_eq_true rfl, Nat.le_of_ble_eq_true rfl⟩ (mv_Mod E hI) rfl hl.1 rfl (Nat.le_of_ble_eq_true rfl) d_Mod_constructor_163 rfl ?_
                          refine lv_if_ne (tgt := 175) hx hb d_Mod_constructor_166 (by decide) (fun c61 => ?_) (fun c61 => ?_)
                          · replace h := Eq.trans (if_neg c61).symm h
                            refine lv_aload_n hx hb d_Mod_constructor_175 rfl (lv_at hl 5 rfl) ?_
                            refine mf_recursive S E hI vt_1303 d_Mod_constructor_176 ?_
                            refine lv_iload_n hx hb d_Mod_constructor_179 rfl (lv_at hl 7 rfl) ?_
                            refine lv_dup2_11 hx hb d_Mod_constructor_180 rfl rfl ?_
                            by_cases c62 : x2_110 < 0 ∨ 301 ≤ (x2_110 : Int32).toNatClampNeg
                            · replace h := Eq.trans (if_pos c62).symm h
                              cases h
                            · replace h := Eq.trans (if_neg c62).symm h
                              refine ml_recursive S E hI c62 d_Mod_constructor_181 ?_
                              refine lv_iconst (v := 1) hx hb d_Mod_constructor_182 (by decide) ?_
                              refine lv_iadd hx hb d_Mod_constructor_183 ?_
                              by_cases c63 : x2_110 < 0 ∨ 301 ≤ (x2_110 : Int32).toNatClampNeg
                              · replace h := Eq.trans (if_pos c63).symm h
                                cases h
                              · replace h := Eq.trans (if_neg c63).symm h
                                refine ms_recursive S E hI c63 d_Mod_constructor_184 (fun H locs hI => ?_)
                                exact J185 x11_110 x10_110 x9_110 x8_110 x1_110 x2_110 x3_110 x4_110 x5_110 x6_110 _ _ _ _ h hI (lv_sub hl [1, 2, 3, 4, 5, 6, 7, 8, 9, 10, 11] rfl)
                          · replace h := Eq.trans (if_pos c61).symm h
                            refine lv_bipush (v := 8) hx hb d_Mod_constructor_169 (by decide) ?_
                            refine mg_fails S E hI kw_Mod_323 hl.1 ⟨Nat.le_of_ble_eq_true rfl, Nat.le_of_ble_eq_true rfl⟩ (Nat.le_of_ble_eq_true rfl) d_Mod_constructor_171 (fun q H locs hN => ?_)
                            exact mg_athrow S hlocks hno E hN h d_Mod_constructor_174
                        · replace h := Eq.trans (if_pos c58).symm h
                          refine lv_aload_n hx hb d_Mod_constructor_122 rfl (lv_at hl 5 rfl) ?_
                          refine lv_aload_n hx hb d_Mod_constructor_123 rfl (lv_at hl 5 rfl) ?_
                          refine mf_one S E hI vt_1280 d_Mod_constructor_124 ?_
                          refine lv_iload hx hb d_Mod_constructor_127 (lv_at hl 0 rfl) ?_
                          by_cases c79 : x12_110 < 0 ∨ 400000 ≤ (x12_110 : Int32).toNatClampNeg
                          · replace h := Eq.trans (if_pos c79).symm h
                            cases h
                          · replace h := Eq.trans (if_neg c79).symm h
                            refine ml_one S E hI c79 d_Mod_constructor_129 ?_
                            refine lv_iload_n hx hb d_Mod_constructor_130 rfl (lv_at hl 6 rfl) ?_
                            obtain ⟨v80, e81, h⟩ := Option.bind_eq_some_iff.mp h
                            refine mg_p (As := [.int (β110.2 3 (x12_110 : Int32).toNatClampNeg), .int x1_110]) (rest := []) ((((ok_has (l := l) (g := g) N dp_has)) (β110.2 3 (x12_110 : Int32).toNatClampNeg) x1_110 β110) _ e81) S E hI kw_Mod_367 (Or.inl rfl) ⟨Nat.le_of_ble_eq_true rfl, Nat.le_of_ble_eq_true rfl⟩ (mv_Mod E hI) rfl hl.1 rfl (Nat.le_of_ble_eq_true rfl) d_Mod_constructor_131 rfl ?_
                            refine lv_if_eq (tgt := 143) hx hb d_Mod_constructor_134 (by decide) (fun c82 => ?_) (fun c82 => ?_)
                            · replace h := Eq.trans (if_pos c82).symm h
                              refine lv_aload_n hx hb d_Mod_constructor_143 rfl (lv_at hl 5 rfl) ?_
                              refine mf_two S E hI vt_1281 d_Mod_constructor_144 ?_
                              refine lv_iload hx hb d_Mod_constructor_147 (lv_at hl 0 rfl) ?_
                              by_cases c83 : x12_110 < 0 ∨ 400000 ≤ (x12_110 : Int32).toNatClampNeg
                              · replace h := Eq.trans (if_pos c83).symm h
                                cases h
                              · replace h := Eq.trans (if_neg c83).symm h
                                refine ml_two S E hI c83 d_Mod_constructor_149 ?_
                                refine lv_istore (lv' := [(12, .int (β110.2 4 (x12_110 : Int32).toNatClampNeg)), (11, .int x11_110), (10, .int x10_110), (9, .int x9_110), (8, .int x8_110), (0, .ref (mad g 0)), (1, .int x1_110), (2, .int x2_110), (3, .int x3_110), (4, .int x4_110), (5, .int x5_110), (6, .int x6_110)]) hx hb d_Mod_constructor_150 hl (by decide) rfl (fun ls hl => ?_)
                                refine lv_goto (tgt := 110) hx hb d_Mod_constructor_152 (by decide) ?_
                                exact ih110 (β110.2 4 (x12_110 : Int32).toNatClampNeg) x11_110 x10_110 x9_110 x8_110 x1_110 x2_110 x3_110 x4_110 x5_110 x6_110 _ _ _ _ h hI (lv_sub hl [0, 1, 2, 3, 4, 5, 6, 7, 8, 9, 10, 11] rfl)
                            · replace h := Eq.trans (if_neg c82).symm h
                              refine lv_bipush (v := 8) hx hb d_Mod_constructor_137 (by decide) ?_
                              refine mg_fails S E hI kw_Mod_323 hl.1 ⟨Nat.le_of_ble_eq_true rfl, Nat.le_of_ble_eq_true rfl⟩ (Nat.le_of_ble_eq_true rfl) d_Mod_constructor_139 (fun q H locs hN => ?_)
                              exact mg_athrow S hlocks hno E hN h d_Mod_constructor_142
                  exact L110 N y9 v39 y10 y9 y8 y1 y2 y3 y4 y5 y6 _ _ _ _ h hI (lv_sub hl [0, 1, 2, 3, 4, 5, 6, 7, 8, 9, 10, 11] rfl)
              refine lv_aload_n hx hb d_Mod_constructor_44 rfl (lv_at hl 1 rfl) ?_
              refine mf_kind S E hI vt_1279 d_Mod_constructor_45 ?_
              refine lv_iload hx hb d_Mod_constructor_48 (lv_at hl 0 rfl) ?_
              by_cases c8 : x8_44 < 0 ∨ 400000 ≤ (x8_44 : Int32).toNatClampNeg
              · replace h := Eq.trans (if_pos c8).symm h
                cases h
              · replace h := Eq.trans (if_neg c8).symm h
                refine ml_kind S E hI c8 d_Mod_constructor_50 ?_
                refine lv_bipush (v := 6) hx hb d_Mod_constructor_51 (by decide) ?_
                refine lv_icmp_ne (tgt := 280) hx hb d_Mod_constructor_53 (by decide) (fun c9 => ?_) (fun c9 => ?_)
                · replace h := Eq.trans (if_neg c9).symm h
                  refine lv_aload_n hx hb d_Mod_constructor_280 rfl (lv_at hl 1 rfl) ?_
                  refine lv_iload hx hb d_Mod_constructor_281 (lv_at hl 0 rfl) ?_
                  refine lv_iload_n hx hb d_Mod_constructor_283 rfl (lv_at hl 2 rfl) ?_
                  refine lv_iload hx hb d_Mod_constructor_284 (lv_at hl 6 rfl) ?_
                  refine lv_iload hx hb d_Mod_constructor_286 (lv_at hl 7 rfl) ?_
                  obtain ⟨v10, e11, h⟩ := Option.bind_eq_some_iff.mp h
                  refine mg_p (As := [.int x8_44, .int x1_44, .int x5_44, .int x6_44]) (rest := []) ((k_Mod_isFamily (l := l) (g := g) (α := β44) N x8_44 x1_44 x5_44 x6_44) _ e11) S E hI kw_Mod_547 (Or.inl rfl) ⟨Nat.le_of_ble_eq_true rfl, Nat.le_of_ble_eq_true rfl⟩ (mv_Mod E hI) rfl hl.1 rfl (Nat.le_of_ble_eq_true rfl) d_Mod_constructor_288 rfl ?_
                  refine lv_if_ne (tgt := 300) hx hb d_Mod_constructor_291 (by decide) (fun c12 => ?_) (fun c12 => ?_)
                  · replace h := Eq.trans (if_neg c12).symm h
                    refine lv_aload_n hx hb d_Mod_constructor_300 rfl (lv_at hl 1 rfl) ?_
                    refine mf_endAt S E hI vt_1335 d_Mod_constructor_301 ?_
                    refine lv_iload_n hx hb d_Mod_constructor_304 rfl (lv_at hl 4 rfl) ?_
                    refine lv_iload hx hb d_Mod_constructor_305 (lv_at hl 0 rfl) ?_
                    by_cases c13 : x3_44 < 0 ∨ 301 ≤ (x3_44 : Int32).toNatClampNeg
                    · replace h := Eq.trans (if_pos c13).symm h
                      cases h
                    · replace h := Eq.trans (if_neg c13).symm h
                      refine ms_endAt S E hI c13 d_Mod_constructor_307 (fun H locs hI => ?_)
                      refine lv_aload_n hx hb d_Mod_constructor_308 rfl (lv_at hl 1 rfl) ?_
                      refine mf_wholes S E hI vt_1333 d_Mod_constructor_309 ?_
                      refine lv_iload_n hx hb d_Mod_constructor_312 rfl (lv_at hl 4 rfl) ?_
                      refine lv_aload_n hx hb d_Mod_constructor_313 rfl (lv_at hl 1 rfl) ?_
                      refine lv_aload_n hx hb d_Mod_constructor_314 rfl (lv_at hl 1 rfl) ?_
                      refine lv_iload hx hb d_Mod_constructor_315 (lv_at hl 6 rfl) ?_
                      refine lv_aload_n hx hb d_Mod_constructor_317 rfl (lv_at hl 1 rfl) ?_
                      refine mf_texts S E hI vt_1332 d_Mod_constructor_318 ?_
                      refine lv_iload_n hx hb d_Mod_constructor_321 rfl (lv_at hl 4 rfl) ?_
                      by_cases c14 : x3_44 < 0 ∨ 301 ≤ (x3_44 : Int32).toNatClampNeg
                      · replace h := Eq.trans (if_pos c14).symm h
                        cases h
                      · replace h := Eq.trans (if_neg c14).symm h
                        refine ml_texts S E hI c14 d_Mod_constructor_322 ?_
                        refine mg_cI (As := [.int x5_44, .int ((mSA β44 37 (upd (β44.2 37) (x3_44 : Int32).toNatClampNeg x8_44)).2 34 (x3_44 : Int32).toNatClampNeg)]) (rest := [.ref (mad g 0), .int x3_44, .ref (mad g 36)]) h (k_Mod_telescope (l := l) (g := g) (α := (mSA β44 37 (upd (β44.2 37) (x3_44 : Int32).toNatClampNeg x8_44))) N x5_44 ((mSA β44 37 (upd (β44.2 37) (x3_44 : Int32).toNatClampNeg x8_44)).2 34 (x3_44 : Int32).toNatClampNeg)) S hlocks hno E hI kw_Mod_534 ⟨Nat.le_of_ble_eq_true rfl, Nat.le_of_ble_eq_true rfl⟩ (mv_Mod E hI) rfl hl.1 rfl (Nat.le_of_ble_eq_true rfl) d_Mod_constructor_323 (fun v17 α15 H locs e16 h hI => ?_)
                        refine lv_iconst (v := 0) hx hb d_Mod_constructor_326 (by decide) ?_
                        refine lv_iconst (v := 0) hx hb d_Mod_constructor_327 (by decide) ?_
                        refine mg_cI (As := [.int v17, .int 0, .int 0]) (rest := [.int x3_44, .ref (mad g 36)]) h (k_Mod_whole (l := l) (g := g) (α := α15) N v17 0 0) S hlocks hno E hI kw_Mod_513 ⟨Nat.le_of_ble_eq_true rfl, Nat.le_of_ble_eq_true rfl⟩ (mv_Mod E hI) rfl hl.1 rfl (Nat.le_of_ble_eq_true rfl) d_Mod_constructor_328 (fun v20 α18 H locs e19 h hI => ?_)
                        by_cases c21 : x3_44 < 0 ∨ 301 ≤ (x3_44 : Int32).toNatClampNeg
                        · replace h := Eq.trans (if_pos c21).symm h
                          cases h
                        · replace h := Eq.trans (if_neg c21).symm h
                          refine ms_wholes S E hI c21 d_Mod_constructor_331 (fun H locs hI => ?_)
                          refine lv_aload_n hx hb d_Mod_constructor_332 rfl (lv_at hl 1 rfl) ?_
                          refine mf_top S E hI vt_1285 d_Mod_constructor_333 ?_
                          refine lv_istore (lv' := [(9, .int (α18.1 10)), (8, .int x8_44), (0, .ref (mad g 0)), (1, .int x1_44), (2, .int x2_44), (3, .int x3_44), (4, .int x4_44), (5, .int x5_44), (6, .int x6_44)]) hx hb d_Mod_constructor_336 hl (by decide) rfl (fun ls hl => ?_)
                          refine lv_aload_n hx hb d_Mod_constructor_338 rfl (lv_at hl 2 rfl) ?_
                          refine lv_aload_n hx hb d_Mod_constructor_339 rfl (lv_at hl 2 rfl) ?_
                          refine mf_wholes S E hI vt_1333 d_Mod_constructor_340 ?_
                          refine lv_iload_n hx hb d_Mod_constructor_343 rfl (lv_at hl 5 rfl) ?_
                          by_cases c22 : x3_44 < 0 ∨ 301 ≤ (x3_44 : Int32).toNatClampNeg
                          · replace h := Eq.trans (if_pos c22).symm h
                            cases h
                          · replace h := Eq.trans (if_neg c22).symm h
                            refine ml_wholes S E hI c22 d_Mod_constructor_344 ?_
                            refine lv_iconst (v := 0) hx hb d_Mod_constructor_345 (by decide) ?_
                            refine mg_cI (As := [.int ((mSA α18 35 (upd (α18.2 35) (x3_44 : Int32).toNatClampNeg v20)).2 35 (x3_44 : Int32).toNatClampNeg), .int 0]) (rest := []) h (((ok_check (l := l) (g := g) N dp_check).2.2.2) ((mSA α18 35 (upd (α18.2 35) (x3_44 : Int32).toNatClampNeg v20)).2 35 (x3_44 : Int32).toNatClampNeg) 0 (mSA α18 35 (upd (α18.2 35) (x3_44 : Int32).toNatClampNeg v20))) S hlocks hno E hI kw_Mod_477 ⟨Nat.le_of_ble_eq_true rfl, Nat.le_of_ble_eq_true rfl⟩ (mv_Mod E hI) rfl hl.1 rfl (Nat.le_of_ble_eq_true rfl) d_Mod_constructor_346 (fun v25 α23 H locs e24 h hI => ?_)
                            refine lv_pop hx hb d_Mod_constructor_349 rfl ?_
                            refine lv_aload_n hx hb d_Mod_constructor_350 rfl (lv_at hl 2 rfl) ?_
                            refine lv_iload hx hb d_Mod_constructor_351 (lv_at hl 0 rfl) ?_
                            refine mp_top S E hI vt_1285 d_Mod_constructor_353 (fun H locs hI => ?_)
                            refine lv_aload_n hx hb d_Mod_constructor_356 rfl (lv_at hl 2 rfl) ?_
                            refine mf_sortOf S E hI vt_1296 d_Mod_constructor_357 ?_
                            refine lv_iload_n hx hb d_Mod_constructor_360 rfl (lv_at hl 4 rfl) ?_
                            refine lv_iconst (v := 4) hx hb d_Mod_constructor_361 (by decide) ?_
                            by_cases c26 : x2_44 < 0 ∨ 301 ≤ (x2_44 : Int32).toNatClampNeg
                            · replace h := Eq.trans (if_pos c26).symm h
                              cases h
                            · replace h := Eq.trans (if_neg c26).symm h
                              refine ms_sortOf S E hI c26 d_Mod_constructor_362 (fun H locs hI => ?_)
                              refine lv_aload_n hx hb d_Mod_constructor_363 rfl (lv_at hl 2 rfl) ?_
                              refine mf_family S E hI vt_1307 d_Mod_constructor_364 ?_
                              refine lv_iload_n hx hb d_Mod_constructor_367 rfl (lv_at hl 4 rfl) ?_
                              refine lv_iload_n hx hb d_Mod_constructor_368 rfl (lv_at hl 3 rfl) ?_
                              by_cases c27 : x2_44 < 0 ∨ 301 ≤ (x2_44 : Int32).toNatClampNeg
                              · replace h := Eq.trans (if_pos c27).symm h
                                cases h
                              · replace h := Eq.trans (if_neg c27).symm h
                                refine ms_family S E hI c27 d_Mod_constructor_369 (fun H locs hI => ?_)
                                refine lv_aload_n hx hb d_Mod_constructor_370 rfl (lv_at hl 2 rfl) ?_
                                refine mf_arguments S E hI vt_1302 d_Mod_constructor_371 ?_
                                refine lv_iload_n hx hb d_Mod_constructor_374 rfl (lv_at hl 4 rfl) ?_
                                refine lv_aload_n hx hb d_Mod_constructor_375 rfl (lv_at hl 2 rfl) ?_
                                refine mf_argumentCount S E hI vt_1339 d_Mod_constructor_376 ?_
                                refine lv_aload_n hx hb d_Mod_constructor_379 rfl (lv_at hl 2 rfl) ?_
                                refine mf_firstArgument S E hI vt_1334 d_Mod_constructor_380 ?_
                                refine lv_iload_n hx hb d_Mod_constructor_383 rfl (lv_at hl 5 rfl) ?_
                                by_cases c28 : x3_44 < 0 ∨ 301 ≤ (x3_44 : Int32).toNatClampNeg
                                · replace h := Eq.trans (if_pos c28).symm h
                                  cases h
                                · replace h := Eq.trans (if_neg c28).symm h
                                  refine ml_firstArgument S E hI c28 d_Mod_constructor_384 ?_
                                  refine lv_isub hx hb d_Mod_constructor_385 ?_
                                  by_cases c29 : x2_44 < 0 ∨ 301 ≤ (x2_44 : Int32).toNatClampNeg
                                  · replace h := Eq.trans (if_pos c29).symm h
                                    cases h
                                  · replace h := Eq.trans (if_neg c29).symm h
                                    refine ms_arguments S E hI c29 d_Mod_constructor_386 (fun H locs hI => ?_)
                                    refine lv_aload_n hx hb d_Mod_constructor_387 rfl (lv_at hl 2 rfl) ?_
                                    refine mf_parameters S E hI vt_1299 d_Mod_constructor_388 ?_
                                    refine lv_iload_n hx hb d_Mod_constructor_391 rfl (lv_at hl 4 rfl) ?_
                                    refine lv_iload hx hb d_Mod_constructor_392 (lv_at hl 7 rfl) ?_
                                    by_cases c30 : x2_44 < 0 ∨ 301 ≤ (x2_44 : Int32).toNatClampNeg
                                    · replace h := Eq.trans (if_pos c30).symm h
                                      cases h
                                    · replace h := Eq.trans (if_neg c30).symm h
                                      refine ms_parameters S E hI c30 d_Mod_constructor_394 (fun H locs hI => ?_)
                                      refine lv_aload_n hx hb d_Mod_constructor_395 rfl (lv_at hl 2 rfl) ?_
                                      refine mf_indices S E hI vt_1300 d_Mod_constructor_396 ?_
                                      refine lv_iload_n hx hb d_Mod_constructor_399 rfl (lv_at hl 4 rfl) ?_
                                      refine lv_iconst (v := 0) hx hb d_Mod_constructor_400 (by decide) ?_
                                      by_cases c31 : x2_44 < 0 ∨ 301 ≤ (x2_44 : Int32).toNatClampNeg
                                      · replace h := Eq.trans (if_pos c31).symm h
                                        cases h
                                      · replace h := Eq.trans (if_neg c31).symm h
                                        refine ms_indices S E hI c31 d_Mod_constructor_401 (fun H locs hI => ?_)
                                        refine lv_aload_n hx hb d_Mod_constructor_402 rfl (lv_at hl 2 rfl) ?_
                                        refine mf_constructors S E hI vt_1301 d_Mod_constructor_403 ?_
                                        refine lv_iload_n hx hb d_Mod_constructor_406 rfl (lv_at hl 4 rfl) ?_
                                        refine lv_iconst (v := 0) hx hb d_Mod_constructor_407 (by decide) ?_
                                        by_cases c32 : x2_44 < 0 ∨ 301 ≤ (x2_44 : Int32).toNatClampNeg
                                        · replace h := Eq.trans (if_pos c32).symm h
                                          cases h
                                        · replace h := Eq.trans (if_neg c32).symm h
                                          refine ms_constructors S E hI c32 d_Mod_constructor_408 (fun H locs hI => ?_)
                                          refine lv_aload_n hx hb d_Mod_constructor_409 rfl (lv_at hl 2 rfl) ?_
                                          refine mf_valueOf S E hI vt_1298 d_Mod_constructor_410 ?_
                                          refine lv_iload_n hx hb d_Mod_constructor_413 rfl (lv_at hl 4 rfl) ?_
                                          refine lv_iconst (v := (-1)) hx hb d_Mod_constructor_414 (by decide) ?_
                                          by_cases c33 : x2_44 < 0 ∨ 301 ≤ (x2_44 : Int32).toNatClampNeg
                                          · replace h := Eq.trans (if_pos c33).symm h
                                            cases h
                                          · replace h := Eq.trans (if_neg c33).symm h
                                            refine ms_valueOf S E hI c33 d_Mod_constructor_415 (fun H locs hI => ?_)
                                            exact mc_vret hx hb hr hlocks E hI h d_Mod_constructor_416
                  · replace h := Eq.trans (if_pos c12).symm h
                    refine lv_bipush (v := 8) hx hb d_Mod_constructor_294 (by decide) ?_
                    refine mg_fails S E hI kw_Mod_323 hl.1 ⟨Nat.le_of_ble_eq_true rfl, Nat.le_of_ble_eq_true rfl⟩ (Nat.le_of_ble_eq_true rfl) d_Mod_constructor_296 (fun q H locs hN => ?_)
                    exact mg_athrow S hlocks hno E hN h d_Mod_constructor_299
                · replace h := Eq.trans (if_pos c9).symm h
                  refine lv_aload_n hx hb d_Mod_constructor_56 rfl (lv_at hl 1 rfl) ?_
                  refine mf_one S E hI vt_1280 d_Mod_constructor_57 ?_
                  refine lv_iload hx hb d_Mod_constructor_60 (lv_at hl 0 rfl) ?_
                  by_cases c34 : x8_44 < 0 ∨ 400000 ≤ (x8_44 : Int32).toNatClampNeg
                  · replace h := Eq.trans (if_pos c34).symm h
                    cases h
                  · replace h := Eq.trans (if_neg c34).symm h
                    refine ml_one S E hI c34 d_Mod_constructor_62 ?_
                    refine lv_istore (lv' := [(9, .int (β44.2 3 (x8_44 : Int32).toNatClampNeg)), (8, .int x8_44), (0, .ref (mad g 0)), (1, .int x1_44), (2, .int x2_44), (3, .int x3_44), (4, .int x4_44), (5, .int x5_44), (6, .int x6_44)]) hx hb d_Mod_constructor_63 hl (by decide) rfl (fun ls hl => ?_)
                    refine lv_aload_n hx hb d_Mod_constructor_65 rfl (lv_at hl 2 rfl) ?_
                    refine lv_iload hx hb d_Mod_constructor_66 (lv_at hl 0 rfl) ?_
                    refine lv_iconst (v := 0) hx hb d_Mod_constructor_68 (by decide) ?_
                    refine mg_cI (As := [.int (β44.2 3 (x8_44 : Int32).toNatClampNeg), .int 0]) (rest := []) h (((ok_check (l := l) (g := g) N dp_check).2.2.2) (β44.2 3 (x8_44 : Int32).toNatClampNeg) 0 β44) S hlocks hno E hI kw_Mod_477 ⟨Nat.le_of_ble_eq_true rfl, Nat.le_of_ble_eq_true rfl⟩ (mv_Mod E hI) rfl hl.1 rfl (Nat.le_of_ble_eq_true rfl) d_Mod_constructor_69 (fun v37 α35 H locs e36 h hI => ?_)
                    refine lv_istore (lv' := [(10, .int v37), (9, .int (β44.2 3 (x8_44 : Int32).toNatClampNeg)), (8, .int x8_44), (0, .ref (mad g 0)), (1, .int x1_44), (2, .int x2_44), (3, .int x3_44), (4, .int x4_44), (5, .int x5_44), (6, .int x6_44)]) hx hb d_Mod_constructor_72 hl (by decide) rfl (fun ls hl => ?_)
                    refine lv_iload hx hb d_Mod_constructor_74 (lv_at hl 7 rfl) ?_
                    refine lv_if_eq (tgt := 92) hx hb d_Mod_constructor_76 (by decide) (fun c38 => ?_) (fun c38 => ?_)
                    · replace h := Eq.trans (if_pos c38).symm h
                      exact J92 v37 (β44.2 3 (x8_44 : Int32).toNatClampNeg) x8_44 x1_44 x2_44 x3_44 x4_44 x5_44 x6_44 _ _ _ _ h hI (lv_sub hl [0, 1, 2, 3, 4, 5, 6, 7, 8, 9] rfl)
                    · replace h := Eq.trans (if_neg c38).symm h
                      refine lv_iload hx hb d_Mod_constructor_79 (lv_at hl 0 rfl) ?_
                      refine lv_iload hx hb d_Mod_constructor_81 (lv_at hl 7 rfl) ?_
                      refine lv_icmp_le (tgt := 92) hx hb d_Mod_constructor_83 (by decide) (fun c84 => ?_) (fun c84 => ?_)
                      · replace h := Eq.trans (if_pos c84).symm h
                        exact J92 v37 (β44.2 3 (x8_44 : Int32).toNatClampNeg) x8_44 x1_44 x2_44 x3_44 x4_44 x5_44 x6_44 _ _ _ _ h hI (lv_sub hl [0, 1, 2, 3, 4, 5, 6, 7, 8, 9] rfl)
                      · replace h := Eq.trans (if_neg c84).symm h
                        refine lv_bipush (v := 7) hx hb d_Mod_constructor_86 (by decide) ?_
                        refine mg_fails S E hI kw_Mod_323 hl.1 ⟨Nat.le_of_ble_eq_true rfl, Nat.le_of_ble_eq_true rfl⟩ (Nat.le_of_ble_eq_true rfl) d_Mod_constructor_88 (fun q H locs hN => ?_)
                        exact mg_athrow S hlocks hno E hN h d_Mod_constructor_91
          exact L44 N v4 a1 a2 a3 a4 a5 a6 _ _ _ _ h hI (lv_sub hl [0, 2, 3, 4, 5, 6, 7, 8] rfl)
def f_Mod_count (a1 : Int32) (α : mS) : Int32 × mS := if a1 = 0 then (((α.1 16), (mSi α 2 0))) else (if a1 = 1 then (((α.1 26), (mSi α 2 0))) else (if a1 = 2 then (((α.1 27), (mSi α 2 0))) else (if a1 = 3 then (((α.1 18), (mSi α 2 0))) else (if a1 = 4 then (((α.1 0), (mSi α 2 0))) else (if a1 = 5 then (((α.1 1), (mSi α 2 0))) else (((-1), (mSi α 2 0))))))))
set_option maxHeartbeats 4000000 in
set_option maxRecDepth 100000 in
theorem k_Mod_count {l : Launch} {g : mG} {α : mS} (a1 : Int32)  : mC l g y_Mod_count b_Mod_count 2 (some .int) (1) (1) [.ref (mad g 0), .int a1] α (mQr (some (some (f_Mod_count a1 α).1), (f_Mod_count a1 α).2)) := by
  generalize h : f_Mod_count a1 α = x
  unfold f_Mod_count at h
  refine mc_ofW (by decide) (fun A p e s m args below meth c S hr hlocks hno hargs E hI => ?_)
  have hx := S.1
  have hb := S.2.1
  have hown := S.2.2.2.1
  have hT := S.2.2.2.2
  subst hargs
  have hl := lv_entry ([.ref (mad g 0), .int a1]) (n := 2) (Nat.le_of_ble_eq_true rfl)
  rw [lg_entry_eq]
  generalize (lg_sl ([.ref (mad g 0), .int a1]) ++ List.replicate (2 - (lg_sl ([.ref (mad g 0), .int a1])).length) Slot.unset).toArray = ls at hl ⊢
  have hl : lv_has ls 2 [(0, .ref (mad g 0)), (1, .int a1)] := hl
  refine lv_aload_n hx hb d_Mod_count_0 rfl (lv_at hl 0 rfl) ?_
  refine lv_iconst (v := 0) hx hb d_Mod_count_1 (by decide) ?_
  refine mp_thrown S E hI vt_1270 d_Mod_count_2 (fun H locs hI => ?_)
  refine lv_iload_n hx hb d_Mod_count_5 rfl (lv_at hl 1 rfl) ?_
  by_cases c1 : a1 = 0
  · replace h := Eq.trans (if_pos c1).symm h
    refine lv_tableIn (off := 38) (tgt := 44) hx hb d_Mod_count_6 (by rw [c1]; decide) (by rw [c1]; decide) (by rw [c1]; rfl) (by decide) ?_
    refine lv_aload_n hx hb d_Mod_count_44 rfl (lv_at hl 0 rfl) ?_
    refine mf_constants S E hI vt_1295 d_Mod_count_45 ?_
    exact mc_iret (w := (α.1 16)) hx hb hr rfl hlocks E hI (by rw [← h]) d_Mod_count_48
  · replace h := Eq.trans (if_neg c1).symm h
    have nc1 := ksw (z := 0) rfl c1
    by_cases c2 : a1 = 1
    · replace h := Eq.trans (if_pos c2).symm h
      refine lv_tableIn (off := 43) (tgt := 49) hx hb d_Mod_count_6 (by rw [c2]; decide) (by rw [c2]; decide) (by rw [c2]; rfl) (by decide) ?_
      refine lv_aload_n hx hb d_Mod_count_49 rfl (lv_at hl 0 rfl) ?_
      refine mf_accepted S E hI vt_1328 d_Mod_count_50 ?_
      exact mc_iret (w := (α.1 26)) hx hb hr rfl hlocks E hI (by rw [← h]) d_Mod_count_53
    · replace h := Eq.trans (if_neg c2).symm h
      have nc2 := ksw (z := 1) rfl c2
      by_cases c3 : a1 = 2
      · replace h := Eq.trans (if_pos c3).symm h
        refine lv_tableIn (off := 48) (tgt := 54) hx hb d_Mod_count_6 (by rw [c3]; decide) (by rw [c3]; decide) (by rw [c3]; rfl) (by decide) ?_
        refine lv_aload_n hx hb d_Mod_count_54 rfl (lv_at hl 0 rfl) ?_
        refine mf_lastWork S E hI vt_1329 d_Mod_count_55 ?_
        exact mc_iret (w := (α.1 27)) hx hb hr rfl hlocks E hI (by rw [← h]) d_Mod_count_58
      · replace h := Eq.trans (if_neg c3).symm h
        have nc3 := ksw (z := 2) rfl c3
        by_cases c4 : a1 = 3
        · replace h := Eq.trans (if_pos c4).symm h
          refine lv_tableIn (off := 53) (tgt := 59) hx hb d_Mod_count_6 (by rw [c4]; decide) (by rw [c4]; decide) (by rw [c4]; rfl) (by decide) ?_
          refine lv_aload_n hx hb d_Mod_count_59 rfl (lv_at hl 0 rfl) ?_
          refine mf_sizes S E hI vt_1311 d_Mod_count_60 ?_
          exact mc_iret (w := (α.1 18)) hx hb hr rfl hlocks E hI (by rw [← h]) d_Mod_count_63
        · replace h := Eq.trans (if_neg c4).symm h
          have nc4 := ksw (z := 3) rfl c4
          by_cases c5 : a1 = 4
          · replace h := Eq.trans (if_pos c5).symm h
            refine lv_tableIn (off := 58) (tgt := 64) hx hb d_Mod_count_6 (by rw [c5]; decide) (by rw [c5]; decide) (by rw [c5]; rfl) (by decide) ?_
            refine lv_aload_n hx hb d_Mod_count_64 rfl (lv_at hl 0 rfl) ?_
            refine mf_size S E hI vt_1268 d_Mod_count_65 ?_
            exact mc_iret (w := (α.1 0)) hx hb hr rfl hlocks E hI (by rw [← h]) d_Mod_count_68
          · replace h := Eq.trans (if_neg c5).symm h
            have nc5 := ksw (z := 4) rfl c5
            by_cases c6 : a1 = 5
            · replace h := Eq.trans (if_pos c6).symm h
              refine lv_tableIn (off := 63) (tgt := 69) hx hb d_Mod_count_6 (by rw [c6]; decide) (by rw [c6]; decide) (by rw [c6]; rfl) (by decide) ?_
              refine lv_aload_n hx hb d_Mod_count_69 rfl (lv_at hl 0 rfl) ?_
              refine mf_outSize S E hI vt_1269 d_Mod_count_70 ?_
              exact mc_iret (w := (α.1 1)) hx hb hr rfl hlocks E hI (by rw [← h]) d_Mod_count_73
            · replace h := Eq.trans (if_neg c6).symm h
              have nc6 := ksw (z := 5) rfl c6
              refine lv_tableOut (tgt := 74) hx hb d_Mod_count_6 (by omega) (by decide) ?_
              refine lv_iconst (v := (-1)) hx hb d_Mod_count_74 (by decide) ?_
              exact mc_iret (w := (-1)) hx hb hr rfl hlocks E hI (by rw [← h]) d_Mod_count_75
def f_Mod_newName_96 (N : Nat)  : Nat → Int32 → mS → Option (kO × mS)
  | 0, _, _ => none
  | n + 1, x1_96, β96 => if (β96.1 8) ≤ x1_96 then (mBv (f_Mod_take N β96) fun α18 => (some (some none, α18))) else (if x1_96 < 0 ∨ 65536 ≤ (x1_96 : Int32).toNatClampNeg then none else (if (β96.1 15) < 0 ∨ 9400 ≤ ((β96.1 15) : Int32).toNatClampNeg then none else (f_Mod_newName_96 N n (x1_96 + 1) (mSA (mSi β96 15 ((β96.1 15) + 1)) 9 (upd ((mSi β96 15 ((β96.1 15) + 1)).2 9) ((β96.1 15) : Int32).toNatClampNeg (vp_nar .byte ((mSi β96 15 ((β96.1 15) + 1)).2 0 (x1_96 : Int32).toNatClampNeg)))))))
def f_Mod_newName (N : Nat)  (α : mS) : Option (kO × mS) := mBi (f_Mod_peek N α) fun v3 α1 => (if v3 = 1 then (mBi (f_Mod_reserved N α1) fun v9 α7 => (if v9 = 0 then (((f_Mod_constant_1 N (α7.1 16) α7)).bind fun v11 => (if v11 < 0 then (if (α7.1 16) = 300 then (some (none, (mTh α7 10 (-1)))) else (if (α7.1 16) < 0 ∨ 301 ≤ ((α7.1 16) : Int32).toNatClampNeg then none else (if (α7.1 16) < 0 ∨ 301 ≤ ((α7.1 16) : Int32).toNatClampNeg then none else (f_Mod_newName_96 N N (α7.1 7) (mSA (mSA α7 10 (upd (α7.2 10) ((α7.1 16) : Int32).toNatClampNeg (α7.1 15))) 11 (upd ((mSA α7 10 (upd (α7.2 10) ((α7.1 16) : Int32).toNatClampNeg (α7.1 15))).2 11) ((α7.1 16) : Int32).toNatClampNeg ((α7.1 8) - (α7.1 7)))))))) else (some (none, (mTh α7 2 (α7.1 7)))))) else (((f_Mod_cant N α7)).bind fun α22 => (some (none, (mTh α22 (α22.1 100) (α22.1 101))))))) else (((f_Mod_cant N α1)).bind fun α5 => (some (none, (mTh α5 (α5.1 100) (α5.1 101))))))
set_option maxHeartbeats 4000000 in
set_option maxRecDepth 100000 in
theorem k_Mod_newName {l : Launch} {g : mG} {α : mS} (N : Nat)   : ∀ x, f_Mod_newName N α = some x → mC l g y_Mod_newName b_Mod_newName 2 none (43) (1260) [.ref (mad g 0)] α (mQr x) := by
  intro x h
  unfold f_Mod_newName at h
  refine mc_ofW (by decide) (fun A p e s m args below meth c S hr hlocks hno hargs E hI => ?_)
  have hx := S.1
  have hb := S.2.1
  have hown := S.2.2.2.1
  have hT := S.2.2.2.2
  subst hargs
  have hl := lv_entry ([.ref (mad g 0)]) (n := 2) (Nat.le_of_ble_eq_true rfl)
  rw [lg_entry_eq]
  generalize (lg_sl ([.ref (mad g 0)]) ++ List.replicate (2 - (lg_sl ([.ref (mad g 0)])).length) Slot.unset).toArray = ls at hl ⊢
  have hl : lv_has ls 2 [(0, .ref (mad g 0))] := hl
  refine lv_aload_n hx hb d_Mod_newName_0 rfl (lv_at hl 0 rfl) ?_
  refine mg_cI (As := []) (rest := []) h (k_Mod_peek (l := l) (g := g) (α := α) N) S hlocks hno E hI kw_Mod_273 ⟨Nat.le_of_ble_eq_true rfl, Nat.le_of_ble_eq_true rfl⟩ (mv_Mod E hI) rfl hl.1 rfl (Nat.le_of_ble_eq_true rfl) d_Mod_newName_1 (fun v3 α1 H locs e2 h hI => ?_)
  refine lv_iconst (v := 1) hx hb d_Mod_newName_4 (by decide) ?_
  refine lv_icmp_ne (tgt := 15) hx hb d_Mod_newName_5 (by decide) (fun c4 => ?_) (fun c4 => ?_)
  · replace h := Eq.trans (if_neg c4).symm h
    refine lv_aload_n hx hb d_Mod_newName_15 rfl (lv_at hl 0 rfl) ?_
    obtain ⟨α5, e6, h⟩ := Option.bind_eq_some_iff.mp h
    refine mg_cant (As := []) (rest := []) ((k_Mod_cant (l := l) (g := g) (α := α1) N) _ e6) S hlocks hno E hI kw_Mod_277 ⟨Nat.le_of_ble_eq_true rfl, Nat.le_of_ble_eq_true rfl⟩ (mv_Mod E hI) rfl hl.1 rfl (Nat.le_of_ble_eq_true rfl) d_Mod_newName_16 (fun q H locs hN => ?_)
    exact mg_athrow S hlocks hno E hN h d_Mod_newName_19
  · replace h := Eq.trans (if_pos c4).symm h
    refine lv_aload_n hx hb d_Mod_newName_8 rfl (lv_at hl 0 rfl) ?_
    refine mg_cI (As := []) (rest := []) h (k_Mod_reserved (l := l) (g := g) (α := α1) N) S hlocks hno E hI kw_Mod_380 ⟨Nat.le_of_ble_eq_true rfl, Nat.le_of_ble_eq_true rfl⟩ (mv_Mod E hI) rfl hl.1 rfl (Nat.le_of_ble_eq_true rfl) d_Mod_newName_9 (fun v9 α7 H locs e8 h hI => ?_)
    refine lv_if_eq (tgt := 20) hx hb d_Mod_newName_12 (by decide) (fun c10 => ?_) (fun c10 => ?_)
    · replace h := Eq.trans (if_pos c10).symm h
      refine lv_aload_n hx hb d_Mod_newName_20 rfl (lv_at hl 0 rfl) ?_
      refine lv_aload_n hx hb d_Mod_newName_21 rfl (lv_at hl 0 rfl) ?_
      refine mf_constants S E hI vt_1295 d_Mod_newName_22 ?_
      obtain ⟨v11, e12, h⟩ := Option.bind_eq_some_iff.mp h
      refine mg_p (As := [.int (α7.1 16)]) (rest := []) ((k_Mod_constant_1 (l := l) (g := g) (α := α7) N (α7.1 16)) _ e12) S E hI kw_Mod_373 (Or.inl rfl) ⟨Nat.le_of_ble_eq_true rfl, Nat.le_of_ble_eq_true rfl⟩ (mv_Mod E hI) rfl hl.1 rfl (Nat.le_of_ble_eq_true rfl) d_Mod_newName_25 rfl ?_
      refine lv_if_lt (tgt := 44) hx hb d_Mod_newName_28 (by decide) (fun c13 => ?_) (fun c13 => ?_)
      · replace h := Eq.trans (if_pos c13).symm h
        refine lv_aload_n hx hb d_Mod_newName_44 rfl (lv_at hl 0 rfl) ?_
        refine mf_constants S E hI vt_1295 d_Mod_newName_45 ?_
        refine lv_sipush (v := 300) hx hb d_Mod_newName_48 (by decide) ?_
        refine lv_icmp_ne (tgt := 60) hx hb d_Mod_newName_51 (by decide) (fun c14 => ?_) (fun c14 => ?_)
        · replace h := Eq.trans (if_neg c14).symm h
          refine lv_aload_n hx hb d_Mod_newName_60 rfl (lv_at hl 0 rfl) ?_
          refine mf_wordAt S E hI vt_1292 d_Mod_newName_61 ?_
          refine lv_aload_n hx hb d_Mod_newName_64 rfl (lv_at hl 0 rfl) ?_
          refine mf_constants S E hI vt_1295 d_Mod_newName_65 ?_
          refine lv_aload_n hx hb d_Mod_newName_68 rfl (lv_at hl 0 rfl) ?_
          refine mf_wordsUsed S E hI vt_1294 d_Mod_newName_69 ?_
          by_cases c15 : (α7.1 16) < 0 ∨ 301 ≤ ((α7.1 16) : Int32).toNatClampNeg
          · replace h := Eq.trans (if_pos c15).symm h
            cases h
          · replace h := Eq.trans (if_neg c15).symm h
            refine ms_wordAt S E hI c15 d_Mod_newName_72 (fun H locs hI => ?_)
            refine lv_aload_n hx hb d_Mod_newName_73 rfl (lv_at hl 0 rfl) ?_
            refine mf_wordSize S E hI vt_1293 d_Mod_newName_74 ?_
            refine lv_aload_n hx hb d_Mod_newName_77 rfl (lv_at hl 0 rfl) ?_
            refine mf_constants S E hI vt_1295 d_Mod_newName_78 ?_
            refine lv_aload_n hx hb d_Mod_newName_81 rfl (lv_at hl 0 rfl) ?_
            refine mf_tokenEnd S E hI vt_1276 d_Mod_newName_82 ?_
            refine lv_aload_n hx hb d_Mod_newName_85 rfl (lv_at hl 0 rfl) ?_
            refine mf_tokenAt S E hI vt_1275 d_Mod_newName_86 ?_
            refine lv_isub hx hb d_Mod_newName_89 ?_
            by_cases c16 : (α7.1 16) < 0 ∨ 301 ≤ ((α7.1 16) : Int32).toNatClampNeg
            · replace h := Eq.trans (if_pos c16).symm h
              cases h
            · replace h := Eq.trans (if_neg c16).symm h
              refine ms_wordSize S E hI c16 d_Mod_newName_90 (fun H locs hI => ?_)
              refine lv_aload_n hx hb d_Mod_newName_91 rfl (lv_at hl 0 rfl) ?_
              refine mf_tokenAt S E hI vt_1275 d_Mod_newName_92 ?_
              refine lv_istore_n (lv' := [(1, .int (α7.1 7)), (0, .ref (mad g 0))]) hx hb d_Mod_newName_95 rfl hl (by decide) rfl (fun ls hl => ?_)
              have L96 : ∀ (n96 : Nat) (x1_96 : Int32) (β96 : mS) (H : Heap) (locs : List Loc) (ls : Array Slot), f_Mod_newName_96 N n96 x1_96 β96 = some x → mI g A s β96 H locs → lv_has ls 2 [(1, .int x1_96), (0, .ref (mad g 0))] → W p l e (mR (43) (1260)) s m ([.ref (mad g 0)]).toArray below meth c H locs 0 0 (vEQ below (mQ g A (mQr x)) ([.ref (mad g 0)]).toArray s A) (F0 m 96 ls []) := by
                intro n96
                induction n96 with
                | zero => intro x1_96 β96 H locs ls h hI hl; rw [f_Mod_newName_96] at h; cases h
                | succ n96 ih96 =>
                  intro x1_96 β96 H locs ls h hI hl
                  rw [f_Mod_newName_96] at h
                  refine lv_iload_n hx hb d_Mod_newName_96 rfl (lv_at hl 0 rfl) ?_
                  refine lv_aload_n hx hb d_Mod_newName_97 rfl (lv_at hl 1 rfl) ?_
                  refine mf_tokenEnd S E hI vt_1276 d_Mod_newName_98 ?_
                  refine lv_icmp_ge (tgt := 132) hx hb d_Mod_newName_101 (by decide) (fun c17 => ?_) (fun c17 => ?_)
                  · replace h := Eq.trans (if_pos c17).symm h
                    refine lv_aload_n hx hb d_Mod_newName_132 rfl (lv_at hl 1 rfl) ?_
                    refine mg_cV (As := []) (rest := []) h (k_Mod_take (l := l) (g := g) (α := β96) N) S hlocks hno E hI kw_Mod_281 ⟨Nat.le_of_ble_eq_true rfl, Nat.le_of_ble_eq_true rfl⟩ (mv_Mod E hI) rfl hl.1 rfl (Nat.le_of_ble_eq_true rfl) d_Mod_newName_133 (fun α18 H locs e19 h hI => ?_)
                    exact mc_vret hx hb hr hlocks E hI h d_Mod_newName_136
                  · replace h := Eq.trans (if_neg c17).symm h
                    refine lv_aload_n hx hb d_Mod_newName_104 rfl (lv_at hl 1 rfl) ?_
                    refine mf_words S E hI vt_1291 d_Mod_newName_105 ?_
                    refine lv_aload_n hx hb d_Mod_newName_108 rfl (lv_at hl 1 rfl) ?_
                    refine lv_dup hx hb d_Mod_newName_109 rfl ?_
                    refine mf_wordsUsed S E hI vt_1294 d_Mod_newName_110 ?_
                    refine lv_dup_x1 hx hb d_Mod_newName_113 rfl rfl ?_
                    refine lv_iconst (v := 1) hx hb d_Mod_newName_114 (by decide) ?_
                    refine lv_iadd hx hb d_Mod_newName_115 ?_
                    refine mp_wordsUsed S E hI vt_1294 d_Mod_newName_116 (fun H locs hI => ?_)
                    refine lv_aload_n hx hb d_Mod_newName_119 rfl (lv_at hl 1 rfl) ?_
                    refine mf_tape S E hI vt_1266 d_Mod_newName_120 ?_
                    refine lv_iload_n hx hb d_Mod_newName_123 rfl (lv_at hl 0 rfl) ?_
                    by_cases c20 : x1_96 < 0 ∨ 65536 ≤ (x1_96 : Int32).toNatClampNeg
                    · replace h := Eq.trans (if_pos c20).symm h
                      cases h
                    · replace h := Eq.trans (if_neg c20).symm h
                      refine ml_tape S E hI c20 d_Mod_newName_124 ?_
                      by_cases c21 : (β96.1 15) < 0 ∨ 9400 ≤ ((β96.1 15) : Int32).toNatClampNeg
                      · replace h := Eq.trans (if_pos c21).symm h
                        cases h
                      · replace h := Eq.trans (if_neg c21).symm h
                        refine ms_words S E hI c21 d_Mod_newName_125 (fun H locs hI => ?_)
                        refine lv_iinc (v := (x1_96 + 1)) (lv' := [(1, .int (x1_96 + 1)), (0, .ref (mad g 0))]) hx hb d_Mod_newName_126 hl (k := 0) rfl rfl (by decide) rfl (fun ls hl => ?_)
                        refine lv_goto (tgt := 96) hx hb d_Mod_newName_129 (by decide) ?_
                        exact ih96 (x1_96 + 1) _ _ _ _ h hI (lv_sub hl [0, 1] rfl)
              exact L96 N (α7.1 7) _ _ _ _ h hI (lv_sub hl [0, 1] rfl)
        · replace h := Eq.trans (if_pos c14).symm h
          refine lv_bipush (v := 10) hx hb d_Mod_newName_54 (by decide) ?_
          refine mg_fails S E hI kw_Mod_323 hl.1 ⟨Nat.le_of_ble_eq_true rfl, Nat.le_of_ble_eq_true rfl⟩ (Nat.le_of_ble_eq_true rfl) d_Mod_newName_56 (fun q H locs hN => ?_)
          exact mg_athrow S hlocks hno E hN h d_Mod_newName_59
      · replace h := Eq.trans (if_neg c13).symm h
        refine mg_new S E hI vt_1457 d_Mod_newName_31 (fun q H hN => ?_)
        have hI := hN.i
        refine lv_dup hx hb d_Mod_newName_34 rfl ?_
        refine lv_iconst (v := 2) hx hb d_Mod_newName_35 (by decide) ?_
        refine lv_aload_n hx hb d_Mod_newName_36 rfl (lv_at hl 0 rfl) ?_
        refine mf_tokenAt S E hI vt_1275 d_Mod_newName_37 ?_
        refine mg_init S E hN vt_1460 hl.1 ⟨Nat.le_of_ble_eq_true rfl, Nat.le_of_ble_eq_true rfl⟩ (Nat.le_of_ble_eq_true rfl) d_Mod_newName_40 (fun H locs hN => ?_)
        exact mg_athrow S hlocks hno E hN h d_Mod_newName_43
    · replace h := Eq.trans (if_neg c10).symm h
      refine lv_aload_n hx hb d_Mod_newName_15 rfl (lv_at hl 0 rfl) ?_
      obtain ⟨α22, e23, h⟩ := Option.bind_eq_some_iff.mp h
      refine mg_cant (As := []) (rest := []) ((k_Mod_cant (l := l) (g := g) (α := α7) N) _ e23) S hlocks hno E hI kw_Mod_277 ⟨Nat.le_of_ble_eq_true rfl, Nat.le_of_ble_eq_true rfl⟩ (mv_Mod E hI) rfl hl.1 rfl (Nat.le_of_ble_eq_true rfl) d_Mod_newName_16 (fun q H locs hN => ?_)
      exact mg_athrow S hlocks hno E hN h d_Mod_newName_19
def f_Mod_room (N : Nat) (a1 : Int32) (α : mS) : Option (kO × mS) := if ((α.1 18) + a1) ≤ 30000 then (some (some none, (mSi α 18 ((α.1 18) + a1)))) else (some (none, (mTh α 10 (-1))))
set_option maxHeartbeats 4000000 in
set_option maxRecDepth 100000 in
theorem k_Mod_room {l : Launch} {g : mG} {α : mS} (N : Nat) (a1 : Int32)  : ∀ x, f_Mod_room N a1 α = some x → mC l g y_Mod_room b_Mod_room 2 none (43) (1260) [.ref (mad g 0), .int a1] α (mQr x) := by
  intro x h
  unfold f_Mod_room at h
  refine mc_ofW (by decide) (fun A p e s m args below meth c S hr hlocks hno hargs E hI => ?_)
  have hx := S.1
  have hb := S.2.1
  have hown := S.2.2.2.1
  have hT := S.2.2.2.2
  subst hargs
  have hl := lv_entry ([.ref (mad g 0), .int a1]) (n := 2) (Nat.le_of_ble_eq_true rfl)
  rw [lg_entry_eq]
  generalize (lg_sl ([.ref (mad g 0), .int a1]) ++ List.replicate (2 - (lg_sl ([.ref (mad g 0), .int a1])).length) Slot.unset).toArray = ls at hl ⊢
  have hl : lv_has ls 2 [(0, .ref (mad g 0)), (1, .int a1)] := hl
  refine lv_aload_n hx hb d_Mod_room_0 rfl (lv_at hl 0 rfl) ?_
  refine mf_sizes S E hI vt_1311 d_Mod_room_1 ?_
  refine lv_iload_n hx hb d_Mod_room_4 rfl (lv_at hl 1 rfl) ?_
  refine lv_iadd hx hb d_Mod_room_5 ?_
  refine lv_sipush (v := 30000) hx hb d_Mod_room_6 (by decide) ?_
  refine lv_icmp_le (tgt := 18) hx hb d_Mod_room_9 (by decide) (fun c1 => ?_) (fun c1 => ?_)
  · replace h := Eq.trans (if_pos c1).symm h
    refine lv_aload_n hx hb d_Mod_room_18 rfl (lv_at hl 0 rfl) ?_
    refine lv_dup hx hb d_Mod_room_19 rfl ?_
    refine mf_sizes S E hI vt_1311 d_Mod_room_20 ?_
    refine lv_iload_n hx hb d_Mod_room_23 rfl (lv_at hl 1 rfl) ?_
    refine lv_iadd hx hb d_Mod_room_24 ?_
    refine mp_sizes S E hI vt_1311 d_Mod_room_25 (fun H locs hI => ?_)
    exact mc_vret hx hb hr hlocks E hI h d_Mod_room_28
  · replace h := Eq.trans (if_neg c1).symm h
    refine lv_bipush (v := 10) hx hb d_Mod_room_12 (by decide) ?_
    refine mg_fails S E hI kw_Mod_323 hl.1 ⟨Nat.le_of_ble_eq_true rfl, Nat.le_of_ble_eq_true rfl⟩ (Nat.le_of_ble_eq_true rfl) d_Mod_room_14 (fun q H locs hN => ?_)
    exact mg_athrow S hlocks hno E hN h d_Mod_room_17
def f_Mod_keep (N : Nat) (a1 : Int32) (α : mS) : Option (kO × mS) := mBi (f_Mod_mapped N 5 a1 0 0 0 (mSi α 10 (α.1 17))) fun v3 α1 => (some (some (some v3), (mSi (mSi α1 17 (α1.1 10)) 10 (α.1 10))))
set_option maxHeartbeats 4000000 in
set_option maxRecDepth 100000 in
theorem k_Mod_keep {l : Launch} {g : mG} {α : mS} (N : Nat) (a1 : Int32)  : ∀ x, f_Mod_keep N a1 α = some x → mC l g y_Mod_keep b_Mod_keep 4 (some .int) (848) (23782) [.ref (mad g 0), .int a1] α (mQr x) := by
  intro x h
  unfold f_Mod_keep at h
  refine mc_ofW (by decide) (fun A p e s m args below meth c S hr hlocks hno hargs E hI => ?_)
  have hx := S.1
  have hb := S.2.1
  have hown := S.2.2.2.1
  have hT := S.2.2.2.2
  subst hargs
  have hl := lv_entry ([.ref (mad g 0), .int a1]) (n := 4) (Nat.le_of_ble_eq_true rfl)
  rw [lg_entry_eq]
  generalize (lg_sl ([.ref (mad g 0), .int a1]) ++ List.replicate (4 - (lg_sl ([.ref (mad g 0), .int a1])).length) Slot.unset).toArray = ls at hl ⊢
  have hl : lv_has ls 4 [(0, .ref (mad g 0)), (1, .int a1)] := hl
  refine lv_aload_n hx hb d_Mod_keep_0 rfl (lv_at hl 0 rfl) ?_
  refine mf_top S E hI vt_1285 d_Mod_keep_1 ?_
  refine lv_istore_n (lv' := [(2, .int (α.1 10)), (0, .ref (mad g 0)), (1, .int a1)]) hx hb d_Mod_keep_4 rfl hl (by decide) rfl (fun ls hl => ?_)
  refine lv_aload_n hx hb d_Mod_keep_5 rfl (lv_at hl 1 rfl) ?_
  refine lv_aload_n hx hb d_Mod_keep_6 rfl (lv_at hl 1 rfl) ?_
  refine mf_kept S E hI vt_1310 d_Mod_keep_7 ?_
  refine mp_top S E hI vt_1285 d_Mod_keep_10 (fun H locs hI => ?_)
  refine lv_aload_n hx hb d_Mod_keep_13 rfl (lv_at hl 1 rfl) ?_
  refine lv_iconst (v := 5) hx hb d_Mod_keep_14 (by decide) ?_
  refine lv_iload_n hx hb d_Mod_keep_15 rfl (lv_at hl 2 rfl) ?_
  refine lv_iconst (v := 0) hx hb d_Mod_keep_16 (by decide) ?_
  refine lv_iconst (v := 0) hx hb d_Mod_keep_17 (by decide) ?_
  refine lv_iconst (v := 0) hx hb d_Mod_keep_18 (by decide) ?_
  refine mg_cI (As := [.int 5, .int a1, .int 0, .int 0, .int 0]) (rest := []) h (k_Mod_mapped (l := l) (g := g) (α := (mSi α 10 (α.1 17))) N 5 a1 0 0 0) S hlocks hno E hI kw_Mod_359 ⟨Nat.le_of_ble_eq_true rfl, Nat.le_of_ble_eq_true rfl⟩ (mv_Mod E hI) rfl hl.1 rfl (Nat.le_of_ble_eq_true rfl) d_Mod_keep_19 (fun v3 α1 H locs e2 h hI => ?_)
  refine lv_istore_n (lv' := [(3, .int v3), (2, .int (α.1 10)), (0, .ref (mad g 0)), (1, .int a1)]) hx hb d_Mod_keep_22 rfl hl (by decide) rfl (fun ls hl => ?_)
  refine lv_aload_n hx hb d_Mod_keep_23 rfl (lv_at hl 2 rfl) ?_
  refine lv_aload_n hx hb d_Mod_keep_24 rfl (lv_at hl 2 rfl) ?_
  refine mf_top S E hI vt_1285 d_Mod_keep_25 ?_
  refine mp_kept S E hI vt_1310 d_Mod_keep_28 (fun H locs hI => ?_)
  refine lv_aload_n hx hb d_Mod_keep_31 rfl (lv_at hl 2 rfl) ?_
  refine lv_iload_n hx hb d_Mod_keep_32 rfl (lv_at hl 1 rfl) ?_
  refine mp_top S E hI vt_1285 d_Mod_keep_33 (fun H locs hI => ?_)
  refine lv_iload_n hx hb d_Mod_keep_36 rfl (lv_at hl 0 rfl) ?_
  exact mc_iret (w := v3) hx hb hr rfl hlocks E hI h d_Mod_keep_37
theorem kw_Mod_516 : kWv "FamilyKernelModel" 516 "FamilyKernelModel" y_Mod_newName b_Mod_newName 2 none 0 := ⟨vt_1413, vt_1414, vt_1415, vt_1349, vt_1416, by decide, by decide, by decide +kernel⟩
theorem kw_Mod_525 : kWv "FamilyKernelModel" 525 "FamilyKernelModel" y_Mod_room b_Mod_room 2 none 1 := ⟨vt_1441, vt_1442, vt_1443, vt_1349, vt_1444, by decide, by decide, by decide +kernel⟩
theorem kw_Mod_528 : kWv "FamilyKernelModel" 528 "FamilyKernelModel" y_Mod_keep b_Mod_keep 4 (some .int) 1 := ⟨vt_1445, vt_1446, vt_1447, vt_1349, vt_1448, by decide, by decide, by decide +kernel⟩
def f_Mod_stated_j181 (N : Nat)  (y4 : Int32) (t0 : Int32) (t1 : Int32) (γ : mS) : Option (kO × mS) := if t1 < 0 ∨ 301 ≤ (t1 : Int32).toNatClampNeg then none else (if y4 < 0 ∨ 301 ≤ (y4 : Int32).toNatClampNeg then none else (if y4 < 0 ∨ 301 ≤ (y4 : Int32).toNatClampNeg then none else (if y4 < 0 ∨ 301 ≤ (y4 : Int32).toNatClampNeg then none else (if y4 < 0 ∨ 301 ≤ (y4 : Int32).toNatClampNeg then none else (if y4 < 0 ∨ 301 ≤ (y4 : Int32).toNatClampNeg then none else (some (some none, (mSA (mSA (mSA (mSA (mSA (mSA γ 14 (upd (γ.2 14) (t1 : Int32).toNatClampNeg t0)) 15 (upd ((mSA γ 14 (upd (γ.2 14) (t1 : Int32).toNatClampNeg t0)).2 15) (y4 : Int32).toNatClampNeg 0)) 16 (upd ((mSA (mSA γ 14 (upd (γ.2 14) (t1 : Int32).toNatClampNeg t0)) 15 (upd ((mSA γ 14 (upd (γ.2 14) (t1 : Int32).toNatClampNeg t0)).2 15) (y4 : Int32).toNatClampNeg 0)).2 16) (y4 : Int32).toNatClampNeg 0)) 17 (upd ((mSA (mSA (mSA γ 14 (upd (γ.2 14) (t1 : Int32).toNatClampNeg t0)) 15 (upd ((mSA γ 14 (upd (γ.2 14) (t1 : Int32).toNatClampNeg t0)).2 15) (y4 : Int32).toNatClampNeg 0)) 16 (upd ((mSA (mSA γ 14 (upd (γ.2 14) (t1 : Int32).toNatClampNeg t0)) 15 (upd ((mSA γ 14 (upd (γ.2 14) (t1 : Int32).toNatClampNeg t0)).2 15) (y4 : Int32).toNatClampNeg 0)).2 16) (y4 : Int32).toNatClampNeg 0)).2 17) (y4 : Int32).toNatClampNeg 0)) 18 (upd ((mSA (mSA (mSA (mSA γ 14 (upd (γ.2 14) (t1 : Int32).toNatClampNeg t0)) 15 (upd ((mSA γ 14 (upd (γ.2 14) (t1 : Int32).toNatClampNeg t0)).2 15) (y4 : Int32).toNatClampNeg 0)) 16 (upd ((mSA (mSA γ 14 (upd (γ.2 14) (t1 : Int32).toNatClampNeg t0)) 15 (upd ((mSA γ 14 (upd (γ.2 14) (t1 : Int32).toNatClampNeg t0)).2 15) (y4 : Int32).toNatClampNeg 0)).2 16) (y4 : Int32).toNatClampNeg 0)) 17 (upd ((mSA (mSA (mSA γ 14 (upd (γ.2 14) (t1 : Int32).toNatClampNeg t0)) 15 (upd ((mSA γ 14 (upd (γ.2 14) (t1 : Int32).toNatClampNeg t0)).2 15) (y4 : Int32).toNatClampNeg 0)) 16 (upd ((mSA (mSA γ 14 (upd (γ.2 14) (t1 : Int32).toNatClampNeg t0)) 15 (upd ((mSA γ 14 (upd (γ.2 14) (t1 : Int32).toNatClampNeg t0)).2 15) (y4 : Int32).toNatClampNeg 0)).2 16) (y4 : Int32).toNatClampNeg 0)).2 17) (y4 : Int32).toNatClampNeg 0)).2 18) (y4 : Int32).toNatClampNeg 0)) 19 (upd ((mSA (mSA (mSA (mSA (mSA γ 14 (upd (γ.2 14) (t1 : Int32).toNatClampNeg t0)) 15 (upd ((mSA γ 14 (upd (γ.2 14) (t1 : Int32).toNatClampNeg t0)).2 15) (y4 : Int32).toNatClampNeg 0)) 16 (upd ((mSA (mSA γ 14 (upd (γ.2 14) (t1 : Int32).toNatClampNeg t0)) 15 (upd ((mSA γ 14 (upd (γ.2 14) (t1 : Int32).toNatClampNeg t0)).2 15) (y4 : Int32).toNatClampNeg 0)).2 16) (y4 : Int32).toNatClampNeg 0)) 17 (upd ((mSA (mSA (mSA γ 14 (upd (γ.2 14) (t1 : Int32).toNatClampNeg t0)) 15 (upd ((mSA γ 14 (upd (γ.2 14) (t1 : Int32).toNatClampNeg t0)).2 15) (y4 : Int32).toNatClampNeg 0)) 16 (upd ((mSA (mSA γ 14 (upd (γ.2 14) (t1 : Int32).toNatClampNeg t0)) 15 (upd ((mSA γ 14 (upd (γ.2 14) (t1 : Int32).toNatClampNeg t0)).2 15) (y4 : Int32).toNatClampNeg 0)).2 16) (y4 : Int32).toNatClampNeg 0)).2 17) (y4 : Int32).toNatClampNeg 0)) 18 (upd ((mSA (mSA (mSA (mSA γ 14 (upd (γ.2 14) (t1 : Int32).toNatClampNeg t0)) 15 (upd ((mSA γ 14 (upd (γ.2 14) (t1 : Int32).toNatClampNeg t0)).2 15) (y4 : Int32).toNatClampNeg 0)) 16 (upd ((mSA (mSA γ 14 (upd (γ.2 14) (t1 : Int32).toNatClampNeg t0)) 15 (upd ((mSA γ 14 (upd (γ.2 14) (t1 : Int32).toNatClampNeg t0)).2 15) (y4 : Int32).toNatClampNeg 0)).2 16) (y4 : Int32).toNatClampNeg 0)) 17 (upd ((mSA (mSA (mSA γ 14 (upd (γ.2 14) (t1 : Int32).toNatClampNeg t0)) 15 (upd ((mSA γ 14 (upd (γ.2 14) (t1 : Int32).toNatClampNeg t0)).2 15) (y4 : Int32).toNatClampNeg 0)) 16 (upd ((mSA (mSA γ 14 (upd (γ.2 14) (t1 : Int32).toNatClampNeg t0)) 15 (upd ((mSA γ 14 (upd (γ.2 14) (t1 : Int32).toNatClampNeg t0)).2 15) (y4 : Int32).toNatClampNeg 0)).2 16) (y4 : Int32).toNatClampNeg 0)).2 17) (y4 : Int32).toNatClampNeg 0)).2 18) (y4 : Int32).toNatClampNeg 0)).2 19) (y4 : Int32).toNatClampNeg 0)))))))))
def f_Mod_stated_j125 (N : Nat)  (y2 : Int32) (y3 : Int32) (y1 : Int32) (t0 : Int32) (t1 : Int32) (γ : mS) : Option (kO × mS) := mBv (f_Mod_room N (t1 + t0) γ) fun α29 => (if (α29.1 16) < 0 ∨ 301 ≤ ((α29.1 16) : Int32).toNatClampNeg then none else (mBi (f_Mod_keep N y2 (mSA (mSi α29 16 ((α29.1 16) + 1)) 12 (upd ((mSi α29 16 ((α29.1 16) + 1)).2 12) ((α29.1 16) : Int32).toNatClampNeg y1))) fun v34 α32 => (if (α29.1 16) < 0 ∨ 301 ≤ ((α29.1 16) : Int32).toNatClampNeg then none else (if 0 ≤ y3 then (mBi (f_Mod_keep N y3 (mSA α32 13 (upd (α32.2 13) ((α29.1 16) : Int32).toNatClampNeg v34))) fun v39 α37 => (f_Mod_stated_j181 N (α29.1 16) v39 (α29.1 16) α37)) else (f_Mod_stated_j181 N (α29.1 16) (-1) (α29.1 16) (mSA α32 13 (upd (α32.2 13) ((α29.1 16) : Int32).toNatClampNeg v34)))))))
def f_Mod_stated_j104 (N : Nat)  (y2 : Int32) (y3 : Int32) (y1 : Int32) (γ : mS) : Option (kO × mS) := if y2 < 0 ∨ 400000 ≤ (y2 : Int32).toNatClampNeg then none else (if 0 ≤ y3 then (if y3 < 0 ∨ 400000 ≤ (y3 : Int32).toNatClampNeg then none else (f_Mod_stated_j125 N y2 y3 y1 (γ.2 6 (y3 : Int32).toNatClampNeg) (γ.2 6 (y2 : Int32).toNatClampNeg) γ)) else (f_Mod_stated_j125 N y2 y3 y1 0 (γ.2 6 (y2 : Int32).toNatClampNeg) γ))
def f_Mod_stated_j86 (N : Nat)  (y2 : Int32) (y3 : Int32) (y1 : Int32) (γ : mS) : Option (kO × mS) := mBi ((G_check N dp_check).2.2.2 y2 0 γ) fun v24 α22 => (if y3 < 0 then (f_Mod_stated_j104 N y2 y3 y1 α22) else (mBv ((G_check N dp_check).1 y3 y2 0 α22) fun α46 => (f_Mod_stated_j104 N y2 y3 y1 α46)))
def f_Mod_stated_j66 (N : Nat)  (y3 : Int32) (y2 : Int32) (y1 : Int32) (t0 : Int32) (t1 : Int32) (γ : mS) : Option (kO × mS) := mBv (f_Mod_together N (t1 + t0) γ) fun α16 => (mBi (f_Mod_alone N y2 α16) fun v20 α18 => (if y3 < 0 then (f_Mod_stated_j86 N v20 y3 y1 α18) else (mBi (f_Mod_alone N y3 α18) fun v50 α48 => (f_Mod_stated_j86 N v20 v50 y1 α48))))
def f_Mod_stated_j39 (N : Nat)  (y3 : Int32) (y2 : Int32) (y1 : Int32) (γ : mS) : Option (kO × mS) := mBv (f_Mod_must N 46 γ) fun α11 => (if y2 < 0 ∨ 400000 ≤ (y2 : Int32).toNatClampNeg then none else (if 0 ≤ y3 then (if y3 < 0 ∨ 400000 ≤ (y3 : Int32).toNatClampNeg then none else (f_Mod_stated_j66 N y3 y2 y1 (α11.2 6 (y3 : Int32).toNatClampNeg) (α11.2 6 (y2 : Int32).toNatClampNeg) α11)) else (f_Mod_stated_j66 N y3 y2 y1 0 (α11.2 6 (y2 : Int32).toNatClampNeg) α11)))
def f_Mod_stated (N : Nat) (a1 : Int32) (α : mS) : Option (kO × mS) := mBv (f_Mod_take N α) fun α1 => (mBv (f_Mod_newName N α1) fun α3 => (mBv (f_Mod_must N 58 α3) fun α5 => (mBi ((G_applied N dp_applied).2.2.2.2.2 0 α5) fun v9 α7 => (if a1 = 0 then (f_Mod_stated_j39 N (-1) v9 a1 α7) else (mBv (f_Mod_must N 300 α7) fun α51 => (mBi ((G_applied N dp_applied).2.2.2.2.2 0 α51) fun v55 α53 => (f_Mod_stated_j39 N v55 v9 a1 α53)))))))
set_option maxHeartbeats 4000000 in
set_option maxRecDepth 100000 in
theorem k_Mod_stated {l : Launch} {g : mG} {α : mS} (N : Nat) (a1 : Int32)  : ∀ x, f_Mod_stated N a1 α = some x → mC l g y_Mod_stated b_Mod_stated 5 none (1793) (50601) [.ref (mad g 0), .int a1] α (mQr x) := by
  intro x h
  unfold f_Mod_stated at h
  refine mc_ofW (by decide) (fun A p e s m args below meth c S hr hlocks hno hargs E hI => ?_)
  have hx := S.1
  have hb := S.2.1
  have hown := S.2.2.2.1
  have hT := S.2.2.2.2
  subst hargs
  have hl := lv_entry ([.ref (mad g 0), .int a1]) (n := 5) (Nat.le_of_ble_eq_true rfl)
  rw [lg_entry_eq]
  generalize (lg_sl ([.ref (mad g 0), .int a1]) ++ List.replicate (5 - (lg_sl ([.ref (mad g 0), .int a1])).length) Slot.unset).toArray = ls at hl ⊢
  have hl : lv_has ls 5 [(0, .ref (mad g 0)), (1, .int a1)] := hl
  have J181 : ∀ (y4 : Int32) (t0 : Int32) (t1 : Int32) (γ : mS) (H : Heap) (locs : List Loc) (ls : Array Slot), f_Mod_stated_j181 N y4 t0 t1 γ = some x → mI g A s γ H locs → lv_has ls 5 [(4, .int y4), (0, .ref (mad g 0))] → W p l e (mR (1793) (50601)) s m ([.ref (mad g 0), .int a1]).toArray below meth c H locs 0 0 (vEQ below (mQ g A (mQr x)) ([.ref (mad g 0), .int a1]).toArray s A) (F0 m 181 ls [.int t0, .int t1, .ref (mad g 15)]) := by
    intro y4 t0 t1 γ H locs ls h hI hl
    unfold f_Mod_stated_j181 at h
    by_cases c40 : t1 < 0 ∨ 301 ≤ (t1 : Int32).toNatClampNeg
    · replace h := Eq.trans (if_pos c40).symm h
      cases h
    · replace h := Eq.trans (if_neg c40).symm h
      refine ms_valueOf S E hI c40 d_Mod_stated_181 (fun H locs hI => ?_)
      refine lv_aload_n hx hb d_Mod_stated_182 rfl (lv_at hl 1 rfl) ?_
      refine mf_parameters S E hI vt_1299 d_Mod_stated_183 ?_
      refine lv_iload hx hb d_Mod_stated_186 (lv_at hl 0 rfl) ?_
      refine lv_iconst (v := 0) hx hb d_Mod_stated_188 (by decide) ?_
      by_cases c41 : y4 < 0 ∨ 301 ≤ (y4 : Int32).toNatClampNeg
      · replace h := Eq.trans (if_pos c41).symm h
        cases h
      · replace h := Eq.trans (if_neg c41).symm h
        refine ms_parameters S E hI c41 d_Mod_stated_189 (fun H locs hI => ?_)
        refine lv_aload_n hx hb d_Mod_stated_190 rfl (lv_at hl 1 rfl) ?_
        refine mf_indices S E hI vt_1300 d_Mod_stated_191 ?_
        refine lv_iload hx hb d_Mod_stated_194 (lv_at hl 0 rfl) ?_
        refine lv_iconst (v := 0) hx hb d_Mod_stated_196 (by decide) ?_
        by_cases c42 : y4 < 0 ∨ 301 ≤ (y4 : Int32).toNatClampNeg
        · replace h := Eq.trans (if_pos c42).symm h
          cases h
        · replace h := Eq.trans (if_neg c42).symm h
          refine ms_indices S E hI c42 d_Mod_stated_197 (fun H locs hI => ?_)
          refine lv_aload_n hx hb d_Mod_stated_198 rfl (lv_at hl 1 rfl) ?_
          refine mf_constructors S E hI vt_1301 d_Mod_stated_199 ?_
          refine lv_iload hx hb d_Mod_stated_202 (lv_at hl 0 rfl) ?_
          refine lv_iconst (v := 0) hx hb d_Mod_stated_204 (by decide) ?_
          by_cases c43 : y4 < 0 ∨ 301 ≤ (y4 : Int32).toNatClampNeg
          · replace h := Eq.trans (if_pos c43).symm h
            cases h
          · replace h := Eq.trans (if_neg c43).symm h
            refine ms_constructors S E hI c43 d_Mod_stated_205 (fun H locs hI => ?_)
            refine lv_aload_n hx hb d_Mod_stated_206 rfl (lv_at hl 1 rfl) ?_
            refine mf_arguments S E hI vt_1302 d_Mod_stated_207 ?_
            refine lv_iload hx hb d_Mod_stated_210 (lv_at hl 0 rfl) ?_
            refine lv_iconst (v := 0) hx hb d_Mod_stated_212 (by decide) ?_
            by_cases c44 : y4 < 0 ∨ 301 ≤ (y4 : Int32).toNatClampNeg
            · replace h := Eq.trans (if_pos c44).symm h
              cases h
            · replace h := Eq.trans (if_neg c44).symm h
              refine ms_arguments S E hI c44 d_Mod_stated_213 (fun H locs hI => ?_)
              refine lv_aload_n hx hb d_Mod_stated_214 rfl (lv_at hl 1 rfl) ?_
              refine mf_recursive S E hI vt_1303 d_Mod_stated_215 ?_
              refine lv_iload hx hb d_Mod_stated_218 (lv_at hl 0 rfl) ?_
              refine lv_iconst (v := 0) hx hb d_Mod_stated_220 (by decide) ?_
              by_cases c45 : y4 < 0 ∨ 301 ≤ (y4 : Int32).toNatClampNeg
              · replace h := Eq.trans (if_pos c45).symm h
                cases h
              · replace h := Eq.trans (if_neg c45).symm h
                refine ms_recursive S E hI c45 d_Mod_stated_221 (fun H locs hI => ?_)
                exact mc_vret hx hb hr hlocks E hI h d_Mod_stated_222
  have J125 : ∀ (y2 : Int32) (y3 : Int32) (y1 : Int32) (t0 : Int32) (t1 : Int32) (γ : mS) (H : Heap) (locs : List Loc) (ls : Array Slot), f_Mod_stated_j125 N y2 y3 y1 t0 t1 γ = some x → mI g A s γ H locs → lv_has ls 5 [(2, .int y2), (3, .int y3), (0, .ref (mad g 0)), (1, .int y1)] → W p l e (mR (1793) (50601)) s m ([.ref (mad g 0), .int a1]).toArray below meth c H locs 0 0 (vEQ below (mQ g A (mQr x)) ([.ref (mad g 0), .int a1]).toArray s A) (F0 m 125 ls [.int t0, .int t1, .ref (mad g 0)]) := by
    intro y2 y3 y1 t0 t1 γ H locs ls h hI hl
    unfold f_Mod_stated_j125 at h
    refine lv_iadd hx hb d_Mod_stated_125 ?_
    refine mg_cV (As := [.int (t1 + t0)]) (rest := []) h (k_Mod_room (l := l) (g := g) (α := γ) N (t1 + t0)) S hlocks hno E hI kw_Mod_525 ⟨Nat.le_of_ble_eq_true rfl, Nat.le_of_ble_eq_true rfl⟩ (mv_Mod E hI) rfl hl.1 rfl (Nat.le_of_ble_eq_true rfl) d_Mod_stated_126 (fun α29 H locs e30 h hI => ?_)
    refine lv_aload_n hx hb d_Mod_stated_129 rfl (lv_at hl 2 rfl) ?_
    refine lv_dup hx hb d_Mod_stated_130 rfl ?_
    refine mf_constants S E hI vt_1295 d_Mod_stated_131 ?_
    refine lv_dup_x1 hx hb d_Mod_stated_134 rfl rfl ?_
    refine lv_iconst (v := 1) hx hb d_Mod_stated_135 (by decide) ?_
    refine lv_iadd hx hb d_Mod_stated_136 ?_
    refine mp_constants S E hI vt_1295 d_Mod_stated_137 (fun H locs hI => ?_)
    refine lv_istore (lv' := [(4, .int (α29.1 16)), (2, .int y2), (3, .int y3), (0, .ref (mad g 0)), (1, .int y1)]) hx hb d_Mod_stated_140 hl (by decide) rfl (fun ls hl => ?_)
    refine lv_aload_n hx hb d_Mod_stated_142 rfl (lv_at hl 3 rfl) ?_
    refine mf_sortOf S E hI vt_1296 d_Mod_stated_143 ?_
    refine lv_iload hx hb d_Mod_stated_146 (lv_at hl 0 rfl) ?_
    refine lv_iload_n hx hb d_Mod_stated_148 rfl (lv_at hl 4 rfl) ?_
    by_cases c31 : (α29.1 16) < 0 ∨ 301 ≤ ((α29.1 16) : Int32).toNatClampNeg
    · replace h := Eq.trans (if_pos c31).symm h
      cases h
    · replace h := Eq.trans (if_neg c31).symm h
      refine ms_sortOf S E hI c31 d_Mod_stated_149 (fun H locs hI => ?_)
      refine lv_aload_n hx hb d_Mod_stated_150 rfl (lv_at hl 3 rfl) ?_
      refine mf_typeOf S E hI vt_1297 d_Mod_stated_151 ?_
      refine lv_iload hx hb d_Mod_stated_154 (lv_at hl 0 rfl) ?_
      refine lv_aload_n hx hb d_Mod_stated_156 rfl (lv_at hl 3 rfl) ?_
      refine lv_iload_n hx hb d_Mod_stated_157 rfl (lv_at hl 1 rfl) ?_
      refine mg_cI (As := [.int y2]) (rest := [.int (α29.1 16), .ref (mad g 14)]) h (k_Mod_keep (l := l) (g := g) (α := (mSA (mSi α29 16 ((α29.1 16) + 1)) 12 (upd ((mSi α29 16 ((α29.1 16) + 1)).2 12) ((α29.1 16) : Int32).toNatClampNeg y1))) N y2) S hlocks hno E hI kw_Mod_528 ⟨Nat.le_of_ble_eq_true rfl, Nat.le_of_ble_eq_true rfl⟩ (mv_Mod E hI) rfl hl.1 rfl (Nat.le_of_ble_eq_true rfl) d_Mod_stated_158 (fun v34 α32 H locs e33 h hI => ?_)
      by_cases c35 : (α29.1 16) < 0 ∨ 301 ≤ ((α29.1 16) : Int32).toNatClampNeg
      · replace h := Eq.trans (if_pos c35).symm h
        cases h
      · replace h := Eq.trans (if_neg c35).symm h
        refine ms_typeOf S E hI c35 d_Mod_stated_161 (fun H locs hI => ?_)
        refine lv_aload_n hx hb d_Mod_stated_162 rfl (lv_at hl 3 rfl) ?_
        refine mf_valueOf S E hI vt_1298 d_Mod_stated_163 ?_
        refine lv_iload hx hb d_Mod_stated_166 (lv_at hl 0 rfl) ?_
        refine lv_iload_n hx hb d_Mod_stated_168 rfl (lv_at hl 2 rfl) ?_
        refine lv_if_ge (tgt := 176) hx hb d_Mod_stated_169 (by decide) (fun c36 => ?_) (fun c36 => ?_)
        · replace h := Eq.trans (if_pos c36).symm h
          refine lv_aload_n hx hb d_Mod_stated_176 rfl (lv_at hl 3 rfl) ?_
          refine lv_iload_n hx hb d_Mod_stated_177 rfl (lv_at hl 2 rfl) ?_
          refine mg_cI (As := [.int y3]) (rest := [.int (α29.1 16), .ref (mad g 15)]) h (k_Mod_keep (l := l) (g := g) (α := (mSA α32 13 (upd (α32.2 13) ((α29.1 16) : Int32).toNatClampNeg v34))) N y3) S hlocks hno E hI kw_Mod_528 ⟨Nat.le_of_ble_eq_true rfl, Nat.le_of_ble_eq_true rfl⟩ (mv_Mod E hI) rfl hl.1 rfl (Nat.le_of_ble_eq_true rfl) d_Mod_stated_178 (fun v39 α37 H locs e38 h hI => ?_)
          exact J181 (α29.1 16) v39 (α29.1 16) _ _ _ _ h hI (lv_sub hl [0, 3] rfl)
        · replace h := Eq.trans (if_neg c36).symm h
          refine lv_iconst (v := (-1)) hx hb d_Mod_stated_172 (by decide) ?_
          refine lv_goto (tgt := 181) hx hb d_Mod_stated_173 (by decide) ?_
          exact J181 (α29.1 16) (-1) (α29.1 16) _ _ _ _ h hI (lv_sub hl [0, 3] rfl)
  have J104 : ∀ (y2 : Int32) (y3 : Int32) (y1 : Int32) (γ : mS) (H : Heap) (locs : List Loc) (ls : Array Slot), f_Mod_stated_j104 N y2 y3 y1 γ = some x → mI g A s γ H locs → lv_has ls 5 [(2, .int y2), (3, .int y3), (0, .ref (mad g 0)), (1, .int y1)] → W p l e (mR (1793) (50601)) s m ([.ref (mad g 0), .int a1]).toArray below meth c H locs 0 0 (vEQ below (mQ g A (mQr x)) ([.ref (mad g 0), .int a1]).toArray s A) (F0 m 104 ls []) := by
    intro y2 y3 y1 γ H locs ls h hI hl
    unfold f_Mod_stated_j104 at h
    refine lv_aload_n hx hb d_Mod_stated_104 rfl (lv_at hl 2 rfl) ?_
    refine lv_aload_n hx hb d_Mod_stated_105 rfl (lv_at hl 2 rfl) ?_
    refine mf_big S E hI vt_1283 d_Mod_stated_106 ?_
    refine lv_iload_n hx hb d_Mod_stated_109 rfl (lv_at hl 0 rfl) ?_
    by_cases c26 : y2 < 0 ∨ 400000 ≤ (y2 : Int32).toNatClampNeg
    · replace h := Eq.trans (if_pos c26).symm h
      cases h
    · replace h := Eq.trans (if_neg c26).symm h
      refine ml_big S E hI c26 d_Mod_stated_110 ?_
      refine lv_iload_n hx hb d_Mod_stated_111 rfl (lv_at hl 1 rfl) ?_
      refine lv_if_ge (tgt := 119) hx hb d_Mod_stated_112 (by decide) (fun c27 => ?_) (fun c27 => ?_)
      · replace h := Eq.trans (if_pos c27).symm h
        refine lv_aload_n hx hb d_Mod_stated_119 rfl (lv_at hl 2 rfl) ?_
        refine mf_big S E hI vt_1283 d_Mod_stated_120 ?_
        refine lv_iload_n hx hb d_Mod_stated_123 rfl (lv_at hl 1 rfl) ?_
        by_cases c28 : y3 < 0 ∨ 400000 ≤ (y3 : Int32).toNatClampNeg
        · replace h := Eq.trans (if_pos c28).symm h
          cases h
        · replace h := Eq.trans (if_neg c28).symm h
          refine ml_big S E hI c28 d_Mod_stated_124 ?_
          exact J125 y2 y3 y1 (γ.2 6 (y3 : Int32).toNatClampNeg) (γ.2 6 (y2 : Int32).toNatClampNeg) _ _ _ _ h hI (lv_sub hl [0, 1, 2, 3] rfl)
      · replace h := Eq.trans (if_neg c27).symm h
        refine lv_iconst (v := 0) hx hb d_Mod_stated_115 (by decide) ?_
        refine lv_goto (tgt := 125) hx hb d_Mod_stated_116 (by decide) ?_
        exact J125 y2 y3 y1 0 (γ.2 6 (y2 : Int32).toNatClampNeg) _ _ _ _ h hI (lv_sub hl [0, 1, 2, 3] rfl)
  have J86 : ∀ (y2 : Int32) (y3 : Int32) (y1 : Int32) (γ : mS) (H : Heap) (locs : List Loc) (ls : Array Slot), f_Mod_stated_j86 N y2 y3 y1 γ = some x → mI g A s γ H locs → lv_has ls 5 [(2, .int y2), (3, .int y3), (0, .ref (mad g 0)), (1, .int y1)] → W p l e (mR (1793) (50601)) s m ([.ref (mad g 0), .int a1]).toArray below meth c H locs 0 0 (vEQ below (mQ g A (mQr x)) ([.ref (mad g 0), .int a1]).toArray s A) (F0 m 86 ls []) := by
    intro y2 y3 y1 γ H locs ls h hI hl
    unfold f_Mod_stated_j86 at h
    refine lv_aload_n hx hb d_Mod_stated_86 rfl (lv_at hl 2 rfl) ?_
    refine lv_iload_n hx hb d_Mod_stated_87 rfl (lv_at hl 0 rfl) ?_
    refine lv_iconst (v := 0) hx hb d_Mod_stated_88 (by decide) ?_
    refine mg_cI (As := [.int y2, .int 0]) (rest := []) h (((ok_check (l := l) (g := g) N dp_check).2.2.2) y2 0 γ) S hlocks hno E hI kw_Mod_477 ⟨Nat.le_of_ble_eq_true rfl, Nat.le_of_ble_eq_true rfl⟩ (mv_Mod E hI) rfl hl.1 rfl (Nat.le_of_ble_eq_true rfl) d_Mod_stated_89 (fun v24 α22 H locs e23 h hI => ?_)
    refine lv_pop hx hb d_Mod_stated_92 rfl ?_
    refine lv_iload_n hx hb d_Mod_stated_93 rfl (lv_at hl 1 rfl) ?_
    refine lv_if_lt (tgt := 104) hx hb d_Mod_stated_94 (by decide) (fun c25 => ?_) (fun c25 => ?_)
    · replace h := Eq.trans (if_pos c25).symm h
      exact J104 y2 y3 y1 _ _ _ _ h hI (lv_sub hl [0, 1, 2, 3] rfl)
    · replace h := Eq.trans (if_neg c25).symm h
      refine lv_aload_n hx hb d_Mod_stated_97 rfl (lv_at hl 2 rfl) ?_
      refine lv_iload_n hx hb d_Mod_stated_98 rfl (lv_at hl 1 rfl) ?_
      refine lv_iload_n hx hb d_Mod_stated_99 rfl (lv_at hl 0 rfl) ?_
      refine lv_iconst (v := 0) hx hb d_Mod_stated_100 (by decide) ?_
      refine mg_cV (As := [.int y3, .int y2, .int 0]) (rest := []) h (((ok_check (l := l) (g := g) N dp_check).1) y3 y2 0 α22) S hlocks hno E hI kw_Mod_485 ⟨Nat.le_of_ble_eq_true rfl, Nat.le_of_ble_eq_true rfl⟩ (mv_Mod E hI) rfl hl.1 rfl (Nat.le_of_ble_eq_true rfl) d_Mod_stated_101 (fun α46 H locs e47 h hI => ?_)
      exact J104 y2 y3 y1 _ _ _ _ h hI (lv_sub hl [0, 1, 2, 3] rfl)
  have J66 : ∀ (y3 : Int32) (y2 : Int32) (y1 : Int32) (t0 : Int32) (t1 : Int32) (γ : mS) (H : Heap) (locs : List Loc) (ls : Array Slot), f_Mod_stated_j66 N y3 y2 y1 t0 t1 γ = some x → mI g A s γ H locs → lv_has ls 5 [(3, .int y3), (2, .int y2), (0, .ref (mad g 0)), (1, .int y1)] → W p l e (mR (1793) (50601)) s m ([.ref (mad g 0), .int a1]).toArray below meth c H locs 0 0 (vEQ below (mQ g A (mQr x)) ([.ref (mad g 0), .int a1]).toArray s A) (F0 m 66 ls [.int t0, .int t1, .ref (mad g 0)]) := by
    intro y3 y2 y1 t0 t1 γ H locs ls h hI hl
    unfold f_Mod_stated_j66 at h
    refine lv_iadd hx hb d_Mod_stated_66 ?_
    refine mg_cV (As := [.int (t1 + t0)]) (rest := []) h (k_Mod_together (l := l) (g := g) (α := γ) N (t1 + t0)) S hlocks hno E hI kw_Mod_519 ⟨Nat.le_of_ble_eq_true rfl, Nat.le_of_ble_eq_true rfl⟩ (mv_Mod E hI) rfl hl.1 rfl (Nat.le_of_ble_eq_true rfl) d_Mod_stated_67 (fun α16 H locs e17 h hI => ?_)
    refine lv_aload_n hx hb d_Mod_stated_70 rfl (lv_at hl 2 rfl) ?_
    refine lv_iload_n hx hb d_Mod_stated_71 rfl (lv_at hl 1 rfl) ?_
    refine mg_cI (As := [.int y2]) (rest := []) h (k_Mod_alone (l := l) (g := g) (α := α16) N y2) S hlocks hno E hI kw_Mod_522 ⟨Nat.le_of_ble_eq_true rfl, Nat.le_of_ble_eq_true rfl⟩ (mv_Mod E hI) rfl hl.1 rfl (Nat.le_of_ble_eq_true rfl) d_Mod_stated_72 (fun v20 α18 H locs e19 h hI => ?_)
    refine lv_istore_n (lv' := [(2, .int v20), (3, .int y3), (0, .ref (mad g 0)), (1, .int y1)]) hx hb d_Mod_stated_75 rfl hl (by decide) rfl (fun ls hl => ?_)
    refine lv_iload_n hx hb d_Mod_stated_76 rfl (lv_at hl 1 rfl) ?_
    refine lv_if_lt (tgt := 86) hx hb d_Mod_stated_77 (by decide) (fun c21 => ?_) (fun c21 => ?_)
    · replace h := Eq.trans (if_pos c21).symm h
      exact J86 v20 y3 y1 _ _ _ _ h hI (lv_sub hl [0, 1, 2, 3] rfl)
    · replace h := Eq.trans (if_neg c21).symm h
      refine lv_aload_n hx hb d_Mod_stated_80 rfl (lv_at hl 2 rfl) ?_
      refine lv_iload_n hx hb d_Mod_stated_81 rfl (lv_at hl 1 rfl) ?_
      refine mg_cI (As := [.int y3]) (rest := []) h (k_Mod_alone (l := l) (g := g) (α := α18) N y3) S hlocks hno E hI kw_Mod_522 ⟨Nat.le_of_ble_eq_true rfl, Nat.le_of_ble_eq_true rfl⟩ (mv_Mod E hI) rfl hl.1 rfl (Nat.le_of_ble_eq_true rfl) d_Mod_stated_82 (fun v50 α48 H locs e49 h hI => ?_)
      refine lv_istore_n (lv' := [(3, .int v50), (2, .int v20), (0, .ref (mad g 0)), (1, .int y1)]) hx hb d_Mod_stated_85 rfl hl (by decide) rfl (fun ls hl => ?_)
      exact J86 v20 v50 y1 _ _ _ _ h hI (lv_sub hl [1, 0, 2, 3] rfl)
  have J39 : ∀ (y3 : Int32) (y2 : Int32) (y1 : Int32) (γ : mS) (H : Heap) (locs : List Loc) (ls : Array Slot), f_Mod_stated_j39 N y3 y2 y1 γ = some x → mI g A s γ H locs → lv_has ls 5 [(3, .int y3), (2, .int y2), (0, .ref (mad g 0)), (1, .int y1)] → W p l e (mR (1793) (50601)) s m ([.ref (mad g 0), .int a1]).toArray below meth c H locs 0 0 (vEQ below (mQ g A (mQr x)) ([.ref (mad g 0), .int a1]).toArray s A) (F0 m 39 ls []) := by
    intro y3 y2 y1 γ H locs ls h hI hl
    unfold f_Mod_stated_j39 at h
    refine lv_aload_n hx hb d_Mod_stated_39 rfl (lv_at hl 2 rfl) ?_
    refine lv_bipush (v := 46) hx hb d_Mod_stated_40 (by decide) ?_
    refine mg_cV (As := [.int 46]) (rest := []) h (k_Mod_must (l := l) (g := g) (α := γ) N 46) S hlocks hno E hI kw_Mod_405 ⟨Nat.le_of_ble_eq_true rfl, Nat.le_of_ble_eq_true rfl⟩ (mv_Mod E hI) rfl hl.1 rfl (Nat.le_of_ble_eq_true rfl) d_Mod_stated_42 (fun α11 H locs e12 h hI => ?_)
    refine lv_aload_n hx hb d_Mod_stated_45 rfl (lv_at hl 2 rfl) ?_
    refine lv_aload_n hx hb d_Mod_stated_46 rfl (lv_at hl 2 rfl) ?_
    refine mf_big S E hI vt_1283 d_Mod_stated_47 ?_
    refine lv_iload_n hx hb d_Mod_stated_50 rfl (lv_at hl 1 rfl) ?_
    by_cases c13 : y2 < 0 ∨ 400000 ≤ (y2 : Int32).toNatClampNeg
    · replace h := Eq.trans (if_pos c13).symm h
      cases h
    · replace h := Eq.trans (if_neg c13).symm h
      refine ml_big S E hI c13 d_Mod_stated_51 ?_
      refine lv_iload_n hx hb d_Mod_stated_52 rfl (lv_at hl 0 rfl) ?_
      refine lv_if_ge (tgt := 60) hx hb d_Mod_stated_53 (by decide) (fun c14 => ?_) (fun c14 => ?_)
      · replace h := Eq.trans (if_pos c14).symm h
        refine lv_aload_n hx hb d_Mod_stated_60 rfl (lv_at hl 2 rfl) ?_
        refine mf_big S E hI vt_1283 d_Mod_stated_61 ?_
        refine lv_iload_n hx hb d_Mod_stated_64 rfl (lv_at hl 0 rfl) ?_
        by_cases c15 : y3 < 0 ∨ 400000 ≤ (y3 : Int32).toNatClampNeg
        · replace h := Eq.trans (if_pos c15).symm h
          cases h
        · replace h := Eq.trans (if_neg c15).symm h
          refine ml_big S E hI c15 d_Mod_stated_65 ?_
          exact J66 y3 y2 y1 (α11.2 6 (y3 : Int32).toNatClampNeg) (α11.2 6 (y2 : Int32).toNatClampNeg) _ _ _ _ h hI (lv_sub hl [0, 1, 2, 3] rfl)
      · replace h := Eq.trans (if_neg c14).symm h
        refine lv_iconst (v := 0) hx hb d_Mod_stated_56 (by decide) ?_
        refine lv_goto (tgt := 66) hx hb d_Mod_stated_57 (by decide) ?_
        exact J66 y3 y2 y1 0 (α11.2 6 (y2 : Int32).toNatClampNeg) _ _ _ _ h hI (lv_sub hl [0, 1, 2, 3] rfl)
  refine lv_aload_n hx hb d_Mod_stated_0 rfl (lv_at hl 0 rfl) ?_
  refine mg_cV (As := []) (rest := []) h (k_Mod_take (l := l) (g := g) (α := α) N) S hlocks hno E hI kw_Mod_281 ⟨Nat.le_of_ble_eq_true rfl, Nat.le_of_ble_eq_true rfl⟩ (mv_Mod E hI) rfl hl.1 rfl (Nat.le_of_ble_eq_true rfl) d_Mod_stated_1 (fun α1 H locs e2 h hI => ?_)
  refine lv_aload_n hx hb d_Mod_stated_4 rfl (lv_at hl 0 rfl) ?_
  refine mg_cV (As := []) (rest := []) h (k_Mod_newName (l := l) (g := g) (α := α1) N) S hlocks hno E hI kw_Mod_516 ⟨Nat.le_of_ble_eq_true rfl, Nat.le_of_ble_eq_true rfl⟩ (mv_Mod E hI) rfl hl.1 rfl (Nat.le_of_ble_eq_true rfl) d_Mod_stated_5 (fun α3 H locs e4 h hI => ?_)
  refine lv_aload_n hx hb d_Mod_stated_8 rfl (lv_at hl 0 rfl) ?_
  refine lv_bipush (v := 58) hx hb d_Mod_stated_9 (by decide) ?_
  refine mg_cV (As := [.int 58]) (rest := []) h (k_Mod_must (l := l) (g := g) (α := α3) N 58) S hlocks hno E hI kw_Mod_405 ⟨Nat.le_of_ble_eq_true rfl, Nat.le_of_ble_eq_true rfl⟩ (mv_Mod E hI) rfl hl.1 rfl (Nat.le_of_ble_eq_true rfl) d_Mod_stated_11 (fun α5 H locs e6 h hI => ?_)
  refine lv_aload_n hx hb d_Mod_stated_14 rfl (lv_at hl 0 rfl) ?_
  refine lv_iconst (v := 0) hx hb d_Mod_stated_15 (by decide) ?_
  refine mg_cI (As := [.int 0]) (rest := []) h (((ok_applied (l := l) (g := g) N dp_applied).2.2.2.2.2) 0 α5) S hlocks hno E hI kw_Mod_399 ⟨Nat.le_of_ble_eq_true rfl, Nat.le_of_ble_eq_true rfl⟩ (mv_Mod E hI) rfl hl.1 rfl (Nat.le_of_ble_eq_true rfl) d_Mod_stated_16 (fun v9 α7 H locs e8 h hI => ?_)
  refine lv_istore_n (lv' := [(2, .int v9), (0, .ref (mad g 0)), (1, .int a1)]) hx hb d_Mod_stated_19 rfl hl (by decide) rfl (fun ls hl => ?_)
  refine lv_iconst (v := (-1)) hx hb d_Mod_stated_20 (by decide) ?_
  refine lv_istore_n (lv' := [(3, .int (-1)), (2, .int v9), (0, .ref (mad g 0)), (1, .int a1)]) hx hb d_Mod_stated_21 rfl hl (by decide) rfl (fun ls hl => ?_)
  refine lv_iload_n hx hb d_Mod_stated_22 rfl (lv_at hl 3 rfl) ?_
  refine lv_if_eq (tgt := 39) hx hb d_Mod_stated_23 (by decide) (fun c10 => ?_) (fun c10 => ?_)
  · replace h := Eq.trans (if_pos c10).symm h
    exact J39 (-1) v9 a1 _ _ _ _ h hI (lv_sub hl [0, 1, 2, 3] rfl)
  · replace h := Eq.trans (if_neg c10).symm h
    refine lv_aload_n hx hb d_Mod_stated_26 rfl (lv_at hl 2 rfl) ?_
    refine lv_sipush (v := 300) hx hb d_Mod_stated_27 (by decide) ?_
    refine mg_cV (As := [.int 300]) (rest := []) h (k_Mod_must (l := l) (g := g) (α := α7) N 300) S hlocks hno E hI kw_Mod_405 ⟨Nat.le_of_ble_eq_true rfl, Nat.le_of_ble_eq_true rfl⟩ (mv_Mod E hI) rfl hl.1 rfl (Nat.le_of_ble_eq_true rfl) d_Mod_stated_30 (fun α51 H locs e52 h hI => ?_)
    refine lv_aload_n hx hb d_Mod_stated_33 rfl (lv_at hl 2 rfl) ?_
    refine lv_iconst (v := 0) hx hb d_Mod_stated_34 (by decide) ?_
    refine mg_cI (As := [.int 0]) (rest := []) h (((ok_applied (l := l) (g := g) N dp_applied).2.2.2.2.2) 0 α51) S hlocks hno E hI kw_Mod_399 ⟨Nat.le_of_ble_eq_true rfl, Nat.le_of_ble_eq_true rfl⟩ (mv_Mod E hI) rfl hl.1 rfl (Nat.le_of_ble_eq_true rfl) d_Mod_stated_35 (fun v55 α53 H locs e54 h hI => ?_)
    refine lv_istore_n (lv' := [(3, .int v55), (2, .int v9), (0, .ref (mad g 0)), (1, .int a1)]) hx hb d_Mod_stated_38 rfl hl (by decide) rfl (fun ls hl => ?_)
    exact J39 v55 v9 a1 _ _ _ _ h hI (lv_sub hl [0, 1, 2, 3] rfl)
def f_Mod_small_33 (N : Nat)  (k10 : Int32 → Int32 → Int32 → Int32 → Option Int32) (α : mS) : Nat → Int32 → Int32 → Int32 → Int32 → Int32 → Int32 → Option Int32
  | 0, _, _, _, _, _, _ => none
  | n + 1, x6_33, x5_33, x4_33, x3_33, x1_33, x2_33 => if (x3_33 + x2_33) ≤ x6_33 then (if x5_33 = 0 then (some 0) else (k10 (x4_33 + 1) x3_33 x1_33 x2_33)) else (if (0 : Int32) < 0 ∨ 301 ≤ (0 : Int32).toNatClampNeg then none else (((f_Mod_nth N (α.2 37 (0 : Int32).toNatClampNeg) (x3_33 + x2_33) x6_33 α)).bind fun v8 => (if x5_33 = 0 then (if v8 < 0 ∨ 400000 ≤ (v8 : Int32).toNatClampNeg then none else (if (α.2 2 (v8 : Int32).toNatClampNeg) = 3 then (if v8 < 0 ∨ 400000 ≤ (v8 : Int32).toNatClampNeg then none else (if x4_33 < 0 ∨ 4000 ≤ (x4_33 : Int32).toNatClampNeg then none else (if (α.2 3 (v8 : Int32).toNatClampNeg) = (α.2 38 (x4_33 : Int32).toNatClampNeg) then (f_Mod_small_33 N k10 α n (x6_33 + 1) 1 x4_33 x3_33 x1_33 x2_33) else (f_Mod_small_33 N k10 α n (x6_33 + 1) 0 x4_33 x3_33 x1_33 x2_33)))) else (f_Mod_small_33 N k10 α n (x6_33 + 1) 0 x4_33 x3_33 x1_33 x2_33))) else (f_Mod_small_33 N k10 α n (x6_33 + 1) 1 x4_33 x3_33 x1_33 x2_33))))
def f_Mod_small_10 (N : Nat)  (α : mS) : Nat → Int32 → Int32 → Int32 → Int32 → Option Int32
  | 0, _, _, _, _ => none
  | n + 1, x4_10, x3_10, x1_10, x2_10 => if x1_10 < 0 ∨ 301 ≤ (x1_10 : Int32).toNatClampNeg then none else (if (α.2 18 (x1_10 : Int32).toNatClampNeg) ≤ x4_10 then (some 1) else (if x4_10 < 0 ∨ 4000 ≤ (x4_10 : Int32).toNatClampNeg then none else (f_Mod_small_33 N (f_Mod_small_10 N α n) α N x3_10 (α.2 40 (x4_10 : Int32).toNatClampNeg) x4_10 x3_10 x1_10 x2_10)))
def f_Mod_small (N : Nat) (a1 : Int32) (a2 : Int32) (α : mS) : Option Int32 := if a1 < 0 ∨ 301 ≤ (a1 : Int32).toNatClampNeg then none else (f_Mod_small_10 N α N 0 (α.2 15 (a1 : Int32).toNatClampNeg) a1 a2)
set_option maxHeartbeats 4000000 in
set_option maxRecDepth 100000 in
theorem k_Mod_small {l : Launch} {g : mG} {α : mS} (N : Nat) (a1 : Int32) (a2 : Int32)  : ∀ x, f_Mod_small N a1 a2 α = some x → mV l g y_Mod_small b_Mod_small 8 (some .boolean) (2) (26) [.ref (mad g 0), .int a1, .int a2] α x := by
  intro x h
  unfold f_Mod_small at h
  refine mv_ofW (by decide) (fun A p e s m args below meth c S hr hlocks hargs E hI => ?_)
  have hx := S.1
  have hb := S.2.1
  have hown := S.2.2.2.1
  have hT := S.2.2.2.2
  subst hargs
  have hl := lv_entry ([.ref (mad g 0), .int a1, .int a2]) (n := 8) (Nat.le_of_ble_eq_true rfl)
  rw [lg_entry_eq]
  generalize (lg_sl ([.ref (mad g 0), .int a1, .int a2]) ++ List.replicate (8 - (lg_sl ([.ref (mad g 0), .int a1, .int a2])).length) Slot.unset).toArray = ls at hl ⊢
  have hl : lv_has ls 8 [(0, .ref (mad g 0)), (1, .int a1), (2, .int a2)] := hl
  refine lv_aload_n hx hb d_Mod_small_0 rfl (lv_at hl 0 rfl) ?_
  refine mf_parameters S E hI vt_1299 d_Mod_small_1 ?_
  refine lv_iload_n hx hb d_Mod_small_4 rfl (lv_at hl 1 rfl) ?_
  by_cases c1 : a1 < 0 ∨ 301 ≤ (a1 : Int32).toNatClampNeg
  · replace h := Eq.trans (if_pos c1).symm h
    cases h
  · replace h := Eq.trans (if_neg c1).symm h
    refine ml_parameters S E hI c1 d_Mod_small_5 ?_
    refine lv_istore_n (lv' := [(3, .int (α.2 15 (a1 : Int32).toNatClampNeg)), (0, .ref (mad g 0)), (1, .int a1), (2, .int a2)]) hx hb d_Mod_small_6 rfl hl (by decide) rfl (fun ls hl => ?_)
    refine lv_iconst (v := 0) hx hb d_Mod_small_7 (by decide) ?_
    refine lv_istore (lv' := [(4, .int 0), (3, .int (α.2 15 (a1 : Int32).toNatClampNeg)), (0, .ref (mad g 0)), (1, .int a1), (2, .int a2)]) hx hb d_Mod_small_8 hl (by decide) rfl (fun ls hl => ?_)
    have L10 : ∀ (n10 : Nat) (x4_10 : Int32) (x3_10 : Int32) (x1_10 : Int32) (x2_10 : Int32) (ls : Array Slot), f_Mod_small_10 N α n10 x4_10 x3_10 x1_10 x2_10 = some x → lv_has ls 8 [(4, .int x4_10), (3, .int x3_10), (0, .ref (mad g 0)), (1, .int x1_10), (2, .int x2_10)] → W p l e (mP (2) (26)) s m ([.ref (mad g 0), .int a1, .int a2]).toArray below meth c s.heap [] 0 0 (MQ below (QcRead x) ([.ref (mad g 0), .int a1, .int a2]).toArray s 0 0 (fun _ => False)) (F0 m 10 ls []) := by
      intro n10
      induction n10 with
      | zero => intro x4_10 x3_10 x1_10 x2_10 ls h hl; rw [f_Mod_small_10] at h; cases h
      | succ n10 ih10 =>
        intro x4_10 x3_10 x1_10 x2_10 ls h hl
        rw [f_Mod_small_10] at h
        refine lv_iload hx hb d_Mod_small_10 (lv_at hl 0 rfl) ?_
        refine lv_aload_n hx hb d_Mod_small_12 rfl (lv_at hl 2 rfl) ?_
        refine mf_arguments S E hI vt_1302 d_Mod_small_13 ?_
        refine lv_iload_n hx hb d_Mod_small_16 rfl (lv_at hl 3 rfl) ?_
        by_cases c2 : x1_10 < 0 ∨ 301 ≤ (x1_10 : Int32).toNatClampNeg
        · replace h := Eq.trans (if_pos c2).symm h
          cases h
        · replace h := Eq.trans (if_neg c2).symm h
          refine ml_arguments S E hI c2 d_Mod_small_17 ?_
          refine lv_icmp_ge (tgt := 117) hx hb d_Mod_small_18 (by decide) (fun c3 => ?_) (fun c3 => ?_)
          · replace h := Eq.trans (if_pos c3).symm h
            refine lv_iconst (v := 1) hx hb d_Mod_small_117 (by decide) ?_
            exact kv_iret (w := 1) hx hb hr (by decide) hlocks (Option.some.inj h) d_Mod_small_118
          · replace h := Eq.trans (if_neg c3).symm h
            refine lv_aload_n hx hb d_Mod_small_21 rfl (lv_at hl 2 rfl) ?_
            refine mf_isProof S E hI vt_1338 d_Mod_small_22 ?_
            refine lv_iload hx hb d_Mod_small_25 (lv_at hl 0 rfl) ?_
            by_cases c4 : x4_10 < 0 ∨ 4000 ≤ (x4_10 : Int32).toNatClampNeg
            · replace h := Eq.trans (if_pos c4).symm h
              cases h
            · replace h := Eq.trans (if_neg c4).symm h
              refine ml_isProof S E hI c4 d_Mod_small_27 ?_
              refine lv_istore (lv' := [(5, .int (α.2 40 (x4_10 : Int32).toNatClampNeg)), (4, .int x4_10), (3, .int x3_10), (0, .ref (mad g 0)), (1, .int x1_10), (2, .int x2_10)]) hx hb d_Mod_small_28 hl (by decide) rfl (fun ls hl => ?_)
              refine lv_iload_n hx hb d_Mod_small_30 rfl (lv_at hl 2 rfl) ?_
              refine lv_istore (lv' := [(6, .int x3_10), (5, .int (α.2 40 (x4_10 : Int32).toNatClampNeg)), (4, .int x4_10), (3, .int x3_10), (0, .ref (mad g 0)), (1, .int x1_10), (2, .int x2_10)]) hx hb d_Mod_small_31 hl (by decide) rfl (fun ls hl => ?_)
              have L33 : ∀ (n33 : Nat) (x6_33 : Int32) (x5_33 : Int32) (x4_33 : Int32) (x3_33 : Int32) (x1_33 : Int32) (x2_33 : Int32) (ls : Array Slot), f_Mod_small_33 N (f_Mod_small_10 N α n10) α n33 x6_33 x5_33 x4_33 x3_33 x1_33 x2_33 = some x → lv_has ls 8 [(6, .int x6_33), (5, .int x5_33), (4, .int x4_33), (3, .int x3_33), (0, .ref (mad g 0)), (1, .int x1_33), (2, .int x2_33)] → W p l e (mP (2) (26)) s m ([.ref (mad g 0), .int a1, .int a2]).toArray below meth c s.heap [] 0 0 (MQ below (QcRead x) ([.ref (mad g 0), .int a1, .int a2]).toArray s 0 0 (fun _ => False)) (F0 m 33 ls []) := by
                intro n33
                induction n33 with
                | zero => intro x6_33 x5_33 x4_33 x3_33 x1_33 x2_33 ls h hl; rw [f_Mod_small_33] at h; cases h
                | succ n33 ih33 =>
                  intro x6_33 x5_33 x4_33 x3_33 x1_33 x2_33 ls h hl
                  rw [f_Mod_small_33] at h
                  refine lv_iload hx hb d_Mod_small_33 (lv_at hl 0 rfl) ?_
                  refine lv_iload_n hx hb d_Mod_small_35 rfl (lv_at hl 3 rfl) ?_
                  refine lv_iload_n hx hb d_Mod_small_36 rfl (lv_at hl 6 rfl) ?_
                  refine lv_iadd hx hb d_Mod_small_37 ?_
                  refine lv_icmp_ge (tgt := 104) hx hb d_Mod_small_38 (by decide) (fun c5 => ?_) (fun c5 => ?_)
                  · replace h := Eq.trans (if_pos c5).symm h
                    refine lv_iload hx hb d_Mod_small_104 (lv_at hl 1 rfl) ?_
                    refine lv_if_ne (tgt := 111) hx hb d_Mod_small_106 (by decide) (fun c6 => ?_) (fun c6 => ?_)
                    · replace h := Eq.trans (if_neg c6).symm h
                      refine lv_iinc (v := (x4_33 + 1)) (lv' := [(4, .int (x4_33 + 1)), (6, .int x6_33), (5, .int x5_33), (3, .int x3_33), (0, .ref (mad g 0)), (1, .int x1_33), (2, .int x2_33)]) hx hb d_Mod_small_111 hl (k := 2) rfl rfl (by decide) rfl (fun ls hl => ?_)
                      refine lv_goto (tgt := 10) hx hb d_Mod_small_114 (by decide) ?_
                      exact ih10 (x4_33 + 1) x3_33 x1_33 x2_33 _ h (lv_sub hl [0, 3, 4, 5, 6] rfl)
                    · replace h := Eq.trans (if_pos c6).symm h
                      refine lv_iconst (v := 0) hx hb d_Mod_small_109 (by decide) ?_
                      exact kv_iret (w := 0) hx hb hr (by decide) hlocks (Option.some.inj h) d_Mod_small_110
                  · replace h := Eq.trans (if_neg c5).symm h
                    refine lv_aload_n hx hb d_Mod_small_41 rfl (lv_at hl 4 rfl) ?_
                    refine lv_aload_n hx hb d_Mod_small_42 rfl (lv_at hl 4 rfl) ?_
                    refine mf_endAt S E hI vt_1335 d_Mod_small_43 ?_
                    refine lv_iconst (v := 0) hx hb d_Mod_small_46 (by decide) ?_
                    by_cases c7 : (0 : Int32) < 0 ∨ 301 ≤ (0 : Int32).toNatClampNeg
                    · replace h := Eq.trans (if_pos c7).symm h
                      cases h
                    · replace h := Eq.trans (if_neg c7).symm h
                      refine ml_endAt S E hI c7 d_Mod_small_47 ?_
                      refine lv_iload_n hx hb d_Mod_small_48 rfl (lv_at hl 3 rfl) ?_
                      refine lv_iload_n hx hb d_Mod_small_49 rfl (lv_at hl 6 rfl) ?_
                      refine lv_iadd hx hb d_Mod_small_50 ?_
                      refine lv_iload hx hb d_Mod_small_51 (lv_at hl 0 rfl) ?_
                      obtain ⟨v8, e9, h⟩ := Option.bind_eq_some_iff.mp h
                      refine mg_p (As := [.int (α.2 37 (0 : Int32).toNatClampNeg), .int (x3_33 + x2_33), .int x6_33]) (rest := []) ((k_Mod_nth (l := l) (g := g) (α := α) N (α.2 37 (0 : Int32).toNatClampNeg) (x3_33 + x2_33) x6_33) _ e9) S E hI kw_Mod_440 (Or.inr rfl) ⟨Nat.le_of_ble_eq_true rfl, Nat.le_of_ble_eq_true rfl⟩ (mv_Mod E hI) rfl hl.1 rfl (Nat.le_of_ble_eq_true rfl) d_Mod_small_53 rfl ?_
                      refine lv_istore (lv' := [(7, .int v8), (6, .int x6_33), (5, .int x5_33), (4, .int x4_33), (3, .int x3_33), (0, .ref (mad g 0)), (1, .int x1_33), (2, .int x2_33)]) hx hb d_Mod_small_56 hl (by decide) rfl (fun ls hl => ?_)
                      refine lv_iload hx hb d_Mod_small_58 (lv_at hl 2 rfl) ?_
                      refine lv_if_ne (tgt := 91) hx hb d_Mod_small_60 (by decide) (fun c10 => ?_) (fun c10 => ?_)
                      · replace h := Eq.trans (if_neg c10).symm h
                        refine lv_iconst (v := 1) hx hb d_Mod_small_91 (by decide) ?_
                        refine lv_goto (tgt := 96) hx hb d_Mod_small_92 (by decide) ?_
                        refine lv_istore (lv' := [(5, .int 1), (7, .int v8), (6, .int x6_33), (4, .int x4_33), (3, .int x3_33), (0, .ref (mad g 0)), (1, .int x1_33), (2, .int x2_33)]) hx hb d_Mod_small_96 hl (by decide) rfl (fun ls hl => ?_)
                        refine lv_iinc (v := (x6_33 + 1)) (lv' := [(6, .int (x6_33 + 1)), (5, .int 1), (7, .int v8), (4, .int x4_33), (3, .int x3_33), (0, .ref (mad g 0)), (1, .int x1_33), (2, .int x2_33)]) hx hb d_Mod_small_98 hl (k := 2) rfl rfl (by decide) rfl (fun ls hl => ?_)
                        refine lv_goto (tgt := 33) hx hb d_Mod_small_101 (by decide) ?_
                        exact ih33 (x6_33 + 1) 1 x4_33 x3_33 x1_33 x2_33 _ h (lv_sub hl [0, 1, 3, 4, 5, 6, 7] rfl)
                      · replace h := Eq.trans (if_pos c10).symm h
                        refine lv_aload_n hx hb d_Mod_small_63 rfl (lv_at hl 5 rfl) ?_
                        refine mf_kind S E hI vt_1279 d_Mod_small_64 ?_
                        refine lv_iload hx hb d_Mod_small_67 (lv_at hl 0 rfl) ?_
                        by_cases c11 : v8 < 0 ∨ 400000 ≤ (v8 : Int32).toNatClampNeg
                        · replace h := Eq.trans (if_pos c11).symm h
                          cases h
                        · replace h := Eq.trans (if_neg c11).symm h
                          refine ml_kind S E hI c11 d_Mod_small_69 ?_
                          refine lv_iconst (v := 3) hx hb d_Mod_small_70 (by decide) ?_
                          refine lv_icmp_ne (tgt := 95) hx hb d_Mod_small_71 (by decide) (fun c12 => ?_) (fun c12 => ?_)
                          · replace h := Eq.trans (if_neg c12).symm h
                            refine lv_iconst (v := 0) hx hb d_Mod_small_95 (by decide) ?_
                            refine lv_istore (lv' := [(5, .int 0), (7, .int v8), (6, .int x6_33), (4, .int x4_33), (3, .int x3_33), (0, .ref (mad g 0)), (1, .int x1_33), (2, .int x2_33)]) hx hb d_Mod_small_96 hl (by decide) rfl (fun ls hl => ?_)
                            refine lv_iinc (v := (x6_33 + 1)) (lv' := [(6, .int (x6_33 + 1)), (5, .int 0), (7, .int v8), (4, .int x4_33), (3, .int x3_33), (0, .ref (mad g 0)), (1, .int x1_33), (2, .int x2_33)]) hx hb d_Mod_small_98 hl (k := 2) rfl rfl (by decide) rfl (fun ls hl => ?_)
                            refine lv_goto (tgt := 33) hx hb d_Mod_small_101 (by decide) ?_
                            exact ih33 (x6_33 + 1) 0 x4_33 x3_33 x1_33 x2_33 _ h (lv_sub hl [0, 1, 3, 4, 5, 6, 7] rfl)
                          · replace h := Eq.trans (if_pos c12).symm h
                            refine lv_aload_n hx hb d_Mod_small_74 rfl (lv_at hl 5 rfl) ?_
                            refine mf_one S E hI vt_1280 d_Mod_small_75 ?_
                            refine lv_iload hx hb d_Mod_small_78 (lv_at hl 0 rfl) ?_
                            by_cases c13 : v8 < 0 ∨ 400000 ≤ (v8 : Int32).toNatClampNeg
                            · replace h := Eq.trans (if_pos c13).symm h
                              cases h
                            · replace h := Eq.trans (if_neg c13).symm h
                              refine ml_one S E hI c13 d_Mod_small_80 ?_
                              refine lv_aload_n hx hb d_Mod_small_81 rfl (lv_at hl 5 rfl) ?_
                              refine mf_argument S E hI vt_1336 d_Mod_small_82 ?_
                              refine lv_iload hx hb d_Mod_small_85 (lv_at hl 3 rfl) ?_
                              by_cases c14 : x4_33 < 0 ∨ 4000 ≤ (x4_33 : Int32).toNatClampNeg
                              · replace h := Eq.trans (if_pos c14).symm h
                                cases h
                              · replace h := Eq.trans (if_neg c14).symm h
                                refine ml_argument S E hI c14 d_Mod_small_87 ?_
                                refine lv_icmp_ne (tgt := 95) hx hb d_Mod_small_88 (by decide) (fun c15 => ?_) (fun c15 => ?_)
                                · replace h := Eq.trans (if_neg c15).symm h
                                  refine lv_iconst (v := 0) hx hb d_Mod_small_95 (by decide) ?_
                                  refine lv_istore (lv' := [(5, .int 0), (7, .int v8), (6, .int x6_33), (4, .int x4_33), (3, .int x3_33), (0, .ref (mad g 0)), (1, .int x1_33), (2, .int x2_33)]) hx hb d_Mod_small_96 hl (by decide) rfl (fun ls hl => ?_)
                                  refine lv_iinc (v := (x6_33 + 1)) (lv' := [(6, .int (x6_33 + 1)), (5, .int 0), (7, .int v8), (4, .int x4_33), (3, .int x3_33), (0, .ref (mad g 0)), (1, .int x1_33), (2, .int x2_33)]) hx hb d_Mod_small_98 hl (k := 2) rfl rfl (by decide) rfl (fun ls hl => ?_)
                                  refine lv_goto (tgt := 33) hx hb d_Mod_small_101 (by decide) ?_
                                  exact ih33 (x6_33 + 1) 0 x4_33 x3_33 x1_33 x2_33 _ h (lv_sub hl [0, 1, 3, 4, 5, 6, 7] rfl)
                                · replace h := Eq.trans (if_pos c15).symm h
                                  refine lv_iconst (v := 1) hx hb d_Mod_small_91 (by decide) ?_
                                  refine lv_goto (tgt := 96) hx hb d_Mod_small_92 (by decide) ?_
                                  refine lv_istore (lv' := [(5, .int 1), (7, .int v8), (6, .int x6_33), (4, .int x4_33), (3, .int x3_33), (0, .ref (mad g 0)), (1, .int x1_33), (2, .int x2_33)]) hx hb d_Mod_small_96 hl (by decide) rfl (fun ls hl => ?_)
                                  refine lv_iinc (v := (x6_33 + 1)) (lv' := [(6, .int (x6_33 + 1)), (5, .int 1), (7, .int v8), (4, .int x4_33), (3, .int x3_33), (0, .ref (mad g 0)), (1, .int x1_33), (2, .int x2_33)]) hx hb d_Mod_small_98 hl (k := 2) rfl rfl (by decide) rfl (fun ls hl => ?_)
                                  refine lv_goto (tgt := 33) hx hb d_Mod_small_101 (by decide) ?_
                                  exact ih33 (x6_33 + 1) 1 x4_33 x3_33 x1_33 x2_33 _ h (lv_sub hl [0, 1, 3, 4, 5, 6, 7] rfl)
              exact L33 N x3_10 (α.2 40 (x4_10 : Int32).toNatClampNeg) x4_10 x3_10 x1_10 x2_10 _ h (lv_sub hl [0, 1, 2, 3, 4, 5, 6] rfl)
    exact L10 N 0 (α.2 15 (a1 : Int32).toNatClampNeg) a1 a2 _ h (lv_sub hl [0, 1, 2, 3, 4] rfl)
def f_Mod_of_6 (N : Nat)  : Nat → Int32 → Int32 → Int32 → Int32 → mS → Option (kO × mS)
  | 0, _, _, _, _, _ => none
  | n + 1, x5_6, x4_6, x2_6, x3_6, β6 => if x3_6 ≤ x5_6 then (some (some (some x4_6), β6)) else (if (x2_6 + x5_6) < 0 ∨ 5000 ≤ ((x2_6 + x5_6) : Int32).toNatClampNeg then none else (mBi (f_Mod_free N (β6.2 33 ((x2_6 + x5_6) : Int32).toNatClampNeg) β6) fun v5 α3 => (mBi (f_Mod_apply N x4_6 v5 α3) fun v8 α6 => (f_Mod_of_6 N n (x5_6 + 1) v8 x2_6 x3_6 α6))))
def f_Mod_of (N : Nat) (a1 : Int32) (a2 : Int32) (a3 : Int32) (α : mS) : Option (kO × mS) := f_Mod_of_6 N N 0 a1 a2 a3 α
set_option maxHeartbeats 4000000 in
set_option maxRecDepth 100000 in
theorem k_Mod_of {l : Launch} {g : mG} {α : mS} (N : Nat) (a1 : Int32) (a2 : Int32) (a3 : Int32)  : ∀ x, f_Mod_of N a1 a2 a3 α = some x → mC l g y_Mod_of b_Mod_of 6 (some .int) (45) (1307) [.ref (mad g 0), .int a1, .int a2, .int a3] α (mQr x) := by
  intro x h
  unfold f_Mod_of at h
  refine mc_ofW (by decide) (fun A p e s m args below meth c S hr hlocks hno hargs E hI => ?_)
  have hx := S.1
  have hb := S.2.1
  have hown := S.2.2.2.1
  have hT := S.2.2.2.2
  subst hargs
  have hl := lv_entry ([.ref (mad g 0), .int a1, .int a2, .int a3]) (n := 6) (Nat.le_of_ble_eq_true rfl)
  rw [lg_entry_eq]
  generalize (lg_sl ([.ref (mad g 0), .int a1, .int a2, .int a3]) ++ List.replicate (6 - (lg_sl ([.ref (mad g 0), .int a1, .int a2, .int a3])).length) Slot.unset).toArray = ls at hl ⊢
  have hl : lv_has ls 6 [(0, .ref (mad g 0)), (1, .int a1), (2, .int a2), (3, .int a3)] := hl
  refine lv_iload_n hx hb d_Mod_of_0 rfl (lv_at hl 1 rfl) ?_
  refine lv_istore (lv' := [(4, .int a1), (0, .ref (mad g 0)), (1, .int a1), (2, .int a2), (3, .int a3)]) hx hb d_Mod_of_1 hl (by decide) rfl (fun ls hl => ?_)
  refine lv_iconst (v := 0) hx hb d_Mod_of_3 (by decide) ?_
  refine lv_istore (lv' := [(5, .int 0), (4, .int a1), (0, .ref (mad g 0)), (1, .int a1), (2, .int a2), (3, .int a3)]) hx hb d_Mod_of_4 hl (by decide) rfl (fun ls hl => ?_)
  have L6 : ∀ (n6 : Nat) (x5_6 : Int32) (x4_6 : Int32) (x2_6 : Int32) (x3_6 : Int32) (β6 : mS) (H : Heap) (locs : List Loc) (ls : Array Slot), f_Mod_of_6 N n6 x5_6 x4_6 x2_6 x3_6 β6 = some x → mI g A s β6 H locs → lv_has ls 6 [(5, .int x5_6), (4, .int x4_6), (0, .ref (mad g 0)), (2, .int x2_6), (3, .int x3_6)] → W p l e (mR (45) (1307)) s m ([.ref (mad g 0), .int a1, .int a2, .int a3]).toArray below meth c H locs 0 0 (vEQ below (mQ g A (mQr x)) ([.ref (mad g 0), .int a1, .int a2, .int a3]).toArray s A) (F0 m 6 ls []) := by
    intro n6
    induction n6 with
    | zero => intro x5_6 x4_6 x2_6 x3_6 β6 H locs ls h hI hl; rw [f_Mod_of_6] at h; cases h
    | succ n6 ih6 =>
      intro x5_6 x4_6 x2_6 x3_6 β6 H locs ls h hI hl
      rw [f_Mod_of_6] at h
      refine lv_iload hx hb d_Mod_of_6 (lv_at hl 0 rfl) ?_
      refine lv_iload_n hx hb d_Mod_of_8 rfl (lv_at hl 4 rfl) ?_
      refine lv_icmp_ge (tgt := 39) hx hb d_Mod_of_9 (by decide) (fun c1 => ?_) (fun c1 => ?_)
      · replace h := Eq.trans (if_pos c1).symm h
        refine lv_iload hx hb d_Mod_of_39 (lv_at hl 1 rfl) ?_
        exact mc_iret (w := x4_6) hx hb hr rfl hlocks E hI h d_Mod_of_41
      · replace h := Eq.trans (if_neg c1).symm h
        refine lv_aload_n hx hb d_Mod_of_12 rfl (lv_at hl 2 rfl) ?_
        refine lv_iload hx hb d_Mod_of_13 (lv_at hl 1 rfl) ?_
        refine lv_aload_n hx hb d_Mod_of_15 rfl (lv_at hl 2 rfl) ?_
        refine lv_aload_n hx hb d_Mod_of_16 rfl (lv_at hl 2 rfl) ?_
        refine mf_are S E hI vt_1331 d_Mod_of_17 ?_
        refine lv_iload_n hx hb d_Mod_of_20 rfl (lv_at hl 3 rfl) ?_
        refine lv_iload hx hb d_Mod_of_21 (lv_at hl 0 rfl) ?_
        refine lv_iadd hx hb d_Mod_of_23 ?_
        by_cases c2 : (x2_6 + x5_6) < 0 ∨ 5000 ≤ ((x2_6 + x5_6) : Int32).toNatClampNeg
        · replace h := Eq.trans (if_pos c2).symm h
          cases h
        · replace h := Eq.trans (if_neg c2).symm h
          refine ml_are S E hI c2 d_Mod_of_24 ?_
          refine mg_cI (As := [.int (β6.2 33 ((x2_6 + x5_6) : Int32).toNatClampNeg)]) (rest := [.int x4_6, .ref (mad g 0)]) h (k_Mod_free (l := l) (g := g) (α := β6) N (β6.2 33 ((x2_6 + x5_6) : Int32).toNatClampNeg)) S hlocks hno E hI kw_Mod_353 ⟨Nat.le_of_ble_eq_true rfl, Nat.le_of_ble_eq_true rfl⟩ (mv_Mod E hI) rfl hl.1 rfl (Nat.le_of_ble_eq_true rfl) d_Mod_of_25 (fun v5 α3 H locs e4 h hI => ?_)
          refine mg_cI (As := [.int x4_6, .int v5]) (rest := []) h (k_Mod_apply (l := l) (g := g) (α := α3) N x4_6 v5) S hlocks hno E hI kw_Mod_350 ⟨Nat.le_of_ble_eq_true rfl, Nat.le_of_ble_eq_true rfl⟩ (mv_Mod E hI) rfl hl.1 rfl (Nat.le_of_ble_eq_true rfl) d_Mod_of_28 (fun v8 α6 H locs e7 h hI => ?_)
          refine lv_istore (lv' := [(4, .int v8), (5, .int x5_6), (0, .ref (mad g 0)), (2, .int x2_6), (3, .int x3_6)]) hx hb d_Mod_of_31 hl (by decide) rfl (fun ls hl => ?_)
          refine lv_iinc (v := (x5_6 + 1)) (lv' := [(5, .int (x5_6 + 1)), (4, .int v8), (0, .ref (mad g 0)), (2, .int x2_6), (3, .int x3_6)]) hx hb d_Mod_of_33 hl (k := 1) rfl rfl (by decide) rfl (fun ls hl => ?_)
          refine lv_goto (tgt := 6) hx hb d_Mod_of_36 (by decide) ?_
          exact ih6 (x5_6 + 1) v8 x2_6 x3_6 _ _ _ _ h hI (lv_sub hl [0, 1, 2, 3, 4] rfl)
  exact L6 N 0 a1 a2 a3 _ _ _ _ h hI (lv_sub hl [0, 1, 2, 4, 5] rfl)
def f_Mod_ended_7 (N : Nat)  : Nat → Int32 → mS → Option (kO × mS)
  | 0, _, _ => none
  | n + 1, x2_7, β7 => if x2_7 < 0 ∨ 400000 ≤ (x2_7 : Int32).toNatClampNeg then none else (if (β7.2 2 (x2_7 : Int32).toNatClampNeg) = 6 then (if x2_7 < 0 ∨ 400000 ≤ (x2_7 : Int32).toNatClampNeg then none else (mBi (f_Mod_fresh N (β7.2 3 (x2_7 : Int32).toNatClampNeg) β7) fun v6 α4 => (if v6 < 0 ∨ 400000 ≤ (v6 : Int32).toNatClampNeg then none else (if (α4.1 30) < 0 ∨ 9000 ≤ ((α4.1 30) : Int32).toNatClampNeg then none else (if x2_7 < 0 ∨ 400000 ≤ (x2_7 : Int32).toNatClampNeg then none else (mBi (f_Mod_put N ((mSA (mSi α4 30 ((α4.1 30) + 1)) 41 (upd ((mSi α4 30 ((α4.1 30) + 1)).2 41) ((α4.1 30) : Int32).toNatClampNeg ((mSi α4 30 ((α4.1 30) + 1)).2 3 (v6 : Int32).toNatClampNeg))).2 4 (x2_7 : Int32).toNatClampNeg) v6 (mSA (mSi α4 30 ((α4.1 30) + 1)) 41 (upd ((mSi α4 30 ((α4.1 30) + 1)).2 41) ((α4.1 30) : Int32).toNatClampNeg ((mSi α4 30 ((α4.1 30) + 1)).2 3 (v6 : Int32).toNatClampNeg)))) fun v12 α10 => (f_Mod_ended_7 N n v12 (mSi α10 31 ((α10.1 31) + 1))))))))) else (some (some (some x2_7), β7)))
def f_Mod_ended (N : Nat) (a1 : Int32) (α : mS) : Option (kO × mS) := f_Mod_ended_7 N N a1 (mSi α 31 0)
set_option maxHeartbeats 4000000 in
set_option maxRecDepth 100000 in
theorem k_Mod_ended {l : Launch} {g : mG} {α : mS} (N : Nat) (a1 : Int32)  : ∀ x, f_Mod_ended N a1 α = some x → mC l g y_Mod_ended b_Mod_ended 4 (some .int) (849) (23804) [.ref (mad g 0), .int a1] α (mQr x) := by
  intro x h
  unfold f_Mod_ended at h
  refine mc_ofW (by decide) (fun A p e s m args below meth c S hr hlocks hno hargs E hI => ?_)
  have hx := S.1
  have hb := S.2.1
  have hown := S.2.2.2.1
  have hT := S.2.2.2.2
  subst hargs
  have hl := lv_entry ([.ref (mad g 0), .int a1]) (n := 4) (Nat.le_of_ble_eq_true rfl)
  rw [lg_entry_eq]
  generalize (lg_sl ([.ref (mad g 0), .int a1]) ++ List.replicate (4 - (lg_sl ([.ref (mad g 0), .int a1])).length) Slot.unset).toArray = ls at hl ⊢
  have hl : lv_has ls 4 [(0, .ref (mad g 0)), (1, .int a1)] := hl
  refine lv_iload_n hx hb d_Mod_ended_0 rfl (lv_at hl 1 rfl) ?_
  refine lv_istore_n (lv' := [(2, .int a1), (0, .ref (mad g 0)), (1, .int a1)]) hx hb d_Mod_ended_1 rfl hl (by decide) rfl (fun ls hl => ?_)
  refine lv_aload_n hx hb d_Mod_ended_2 rfl (lv_at hl 1 rfl) ?_
  refine lv_iconst (v := 0) hx hb d_Mod_ended_3 (by decide) ?_
  refine mp_xs S E hI vt_1344 d_Mod_ended_4 (fun H locs hI => ?_)
  have L7 : ∀ (n7 : Nat) (x2_7 : Int32) (β7 : mS) (H : Heap) (locs : List Loc) (ls : Array Slot), f_Mod_ended_7 N n7 x2_7 β7 = some x → mI g A s β7 H locs → lv_has ls 4 [(2, .int x2_7), (0, .ref (mad g 0))] → W p l e (mR (849) (23804)) s m ([.ref (mad g 0), .int a1]).toArray below meth c H locs 0 0 (vEQ below (mQ g A (mQr x)) ([.ref (mad g 0), .int a1]).toArray s A) (F0 m 7 ls []) := by
    intro n7
    induction n7 with
    | zero => intro x2_7 β7 H locs ls h hI hl; rw [f_Mod_ended_7] at h; cases h
    | succ n7 ih7 =>
      intro x2_7 β7 H locs ls h hI hl
      rw [f_Mod_ended_7] at h
      refine lv_aload_n hx hb d_Mod_ended_7 rfl (lv_at hl 1 rfl) ?_
      refine mf_kind S E hI vt_1279 d_Mod_ended_8 ?_
      refine lv_iload_n hx hb d_Mod_ended_11 rfl (lv_at hl 0 rfl) ?_
      by_cases c1 : x2_7 < 0 ∨ 400000 ≤ (x2_7 : Int32).toNatClampNeg
      · replace h := Eq.trans (if_pos c1).symm h
        cases h
      · replace h := Eq.trans (if_neg c1).symm h
        refine ml_kind S E hI c1 d_Mod_ended_12 ?_
        refine lv_bipush (v := 6) hx hb d_Mod_ended_13 (by decide) ?_
        refine lv_icmp_ne (tgt := 76) hx hb d_Mod_ended_15 (by decide) (fun c2 => ?_) (fun c2 => ?_)
        · replace h := Eq.trans (if_neg c2).symm h
          refine lv_iload_n hx hb d_Mod_ended_76 rfl (lv_at hl 0 rfl) ?_
          exact mc_iret (w := x2_7) hx hb hr rfl hlocks E hI h d_Mod_ended_77
        · replace h := Eq.trans (if_pos c2).symm h
          refine lv_aload_n hx hb d_Mod_ended_18 rfl (lv_at hl 1 rfl) ?_
          refine lv_aload_n hx hb d_Mod_ended_19 rfl (lv_at hl 1 rfl) ?_
          refine mf_one S E hI vt_1280 d_Mod_ended_20 ?_
          refine lv_iload_n hx hb d_Mod_ended_23 rfl (lv_at hl 0 rfl) ?_
          by_cases c3 : x2_7 < 0 ∨ 400000 ≤ (x2_7 : Int32).toNatClampNeg
          · replace h := Eq.trans (if_pos c3).symm h
            cases h
          · replace h := Eq.trans (if_neg c3).symm h
            refine ml_one S E hI c3 d_Mod_ended_24 ?_
            refine mg_cI (As := [.int (β7.2 3 (x2_7 : Int32).toNatClampNeg)]) (rest := []) h (k_Mod_fresh (l := l) (g := g) (α := β7) N (β7.2 3 (x2_7 : Int32).toNatClampNeg)) S hlocks hno E hI kw_Mod_468 ⟨Nat.le_of_ble_eq_true rfl, Nat.le_of_ble_eq_true rfl⟩ (mv_Mod E hI) rfl hl.1 rfl (Nat.le_of_ble_eq_true rfl) d_Mod_ended_25 (fun v6 α4 H locs e5 h hI => ?_)
            refine lv_istore_n (lv' := [(3, .int v6), (2, .int x2_7), (0, .ref (mad g 0))]) hx hb d_Mod_ended_28 rfl hl (by decide) rfl (fun ls hl => ?_)
            refine lv_aload_n hx hb d_Mod_ended_29 rfl (lv_at hl 2 rfl) ?_
            refine mf_list S E hI vt_1340 d_Mod_ended_30 ?_
            refine lv_aload_n hx hb d_Mod_ended_33 rfl (lv_at hl 2 rfl) ?_
            refine lv_dup hx hb d_Mod_ended_34 rfl ?_
            refine mf_listed S E hI vt_1341 d_Mod_ended_35 ?_
            refine lv_dup_x1 hx hb d_Mod_ended_38 rfl rfl ?_
            refine lv_iconst (v := 1) hx hb d_Mod_ended_39 (by decide) ?_
            refine lv_iadd hx hb d_Mod_ended_40 ?_
            refine mp_listed S E hI vt_1341 d_Mod_ended_41 (fun H locs hI => ?_)
            refine lv_aload_n hx hb d_Mod_ended_44 rfl (lv_at hl 2 rfl) ?_
            refine mf_one S E hI vt_1280 d_Mod_ended_45 ?_
            refine lv_iload_n hx hb d_Mod_ended_48 rfl (lv_at hl 0 rfl) ?_
            by_cases c7 : v6 < 0 ∨ 400000 ≤ (v6 : Int32).toNatClampNeg
            · replace h := Eq.trans (if_pos c7).symm h
              cases h
            · replace h := Eq.trans (if_neg c7).symm h
              refine ml_one S E hI c7 d_Mod_ended_49 ?_
              by_cases c8 : (α4.1 30) < 0 ∨ 9000 ≤ ((α4.1 30) : Int32).toNatClampNeg
              · replace h := Eq.trans (if_pos c8).symm h
                cases h
              · replace h := Eq.trans (if_neg c8).symm h
                refine ms_list S E hI c8 d_Mod_ended_50 (fun H locs hI => ?_)
                refine lv_aload_n hx hb d_Mod_ended_51 rfl (lv_at hl 2 rfl) ?_
                refine lv_aload_n hx hb d_Mod_ended_52 rfl (lv_at hl 2 rfl) ?_
                refine mf_two S E hI vt_1281 d_Mod_ended_53 ?_
                refine lv_iload_n hx hb d_Mod_ended_56 rfl (lv_at hl 1 rfl) ?_
                by_cases c9 : x2_7 < 0 ∨ 400000 ≤ (x2_7 : Int32).toNatClampNeg
                · replace h := Eq.trans (if_pos c9).symm h
                  cases h
                · replace h := Eq.trans (if_neg c9).symm h
                  refine ml_two S E hI c9 d_Mod_ended_57 ?_
                  refine lv_iload_n hx hb d_Mod_ended_58 rfl (lv_at hl 0 rfl) ?_
                  refine mg_cI (As := [.int ((mSA (mSi α4 30 ((α4.1 30) + 1)) 41 (upd ((mSi α4 30 ((α4.1 30) + 1)).2 41) ((α4.1 30) : Int32).toNatClampNeg ((mSi α4 30 ((α4.1 30) + 1)).2 3 (v6 : Int32).toNatClampNeg))).2 4 (x2_7 : Int32).toNatClampNeg), .int v6]) (rest := []) h (k_Mod_put (l := l) (g := g) (α := (mSA (mSi α4 30 ((α4.1 30) + 1)) 41 (upd ((mSi α4 30 ((α4.1 30) + 1)).2 41) ((α4.1 30) : Int32).toNatClampNeg ((mSi α4 30 ((α4.1 30) + 1)).2 3 (v6 : Int32).toNatClampNeg)))) N ((mSA (mSi α4 30 ((α4.1 30) + 1)) 41 (upd ((mSi α4 30 ((α4.1 30) + 1)).2 41) ((α4.1 30) : Int32).toNatClampNeg ((mSi α4 30 ((α4.1 30) + 1)).2 3 (v6 : Int32).toNatClampNeg))).2 4 (x2_7 : Int32).toNatClampNeg) v6) S hlocks hno E hI kw_Mod_428 ⟨Nat.le_of_ble_eq_true rfl, Nat.le_of_ble_eq_true rfl⟩ (mv_Mod E hI) rfl hl.1 rfl (Nat.le_of_ble_eq_true rfl) d_Mod_ended_59 (fun v12 α10 H locs e11 h hI => ?_)
                  refine lv_istore_n (lv' := [(2, .int v12), (3, .int v6), (0, .ref (mad g 0))]) hx hb d_Mod_ended_62 rfl hl (by decide) rfl (fun ls hl => ?_)
                  refine lv_aload_n hx hb d_Mod_ended_63 rfl (lv_at hl 2 rfl) ?_
                  refine lv_dup hx hb d_Mod_ended_64 rfl ?_
                  refine mf_xs S E hI vt_1344 d_Mod_ended_65 ?_
                  refine lv_iconst (v := 1) hx hb d_Mod_ended_68 (by decide) ?_
                  refine lv_iadd hx hb d_Mod_ended_69 ?_
                  refine mp_xs S E hI vt_1344 d_Mod_ended_70 (fun H locs hI => ?_)
                  refine lv_goto (tgt := 7) hx hb d_Mod_ended_73 (by decide) ?_
                  exact ih7 v12 _ _ _ _ h hI (lv_sub hl [0, 2] rfl)
  exact L7 N a1 _ _ _ _ h hI (lv_sub hl [0, 1] rfl)
theorem kw_Mod_555 : kWv "FamilyKernelModel" 555 "FamilyKernelModel" y_Mod_of b_Mod_of 6 (some .int) 3 := ⟨vt_1668, vt_1669, vt_1670, vt_1349, vt_1671, by decide, by decide, by decide +kernel⟩
theorem kw_Mod_558 : kWv "FamilyKernelModel" 558 "FamilyKernelModel" y_Mod_chain b_Mod_chain 6 (some .int) 3 := ⟨vt_1672, vt_1673, vt_1674, vt_1349, vt_1675, by decide, by decide, by decide +kernel⟩
theorem kw_Mod_571 : kWv "FamilyKernelModel" 571 "FamilyKernelModel" y_Mod_ended b_Mod_ended 4 (some .int) 1 := ⟨vt_1693, vt_1694, vt_1695, vt_1349, vt_1696, by decide, by decide, by decide +kernel⟩
theorem kw_Mod_574 : kWv "FamilyKernelModel" 574 "FamilyKernelModel" y_Mod_applied2 b_Mod_applied2 4 (some .int) 1 := ⟨vt_1697, vt_1698, vt_1699, vt_1349, vt_1700, by decide, by decide, by decide +kernel⟩
def f_Mod_minor_298 (N : Nat)  : Nat → Int32 → Int32 → Int32 → Int32 → Int32 → mS → Option (kO × mS)
  | 0, _, _, _, _, _, _ => none
  | n + 1, x10_298, x9_298, x8_298, x7_298, x6_298, β298 => if x7_298 ≤ x10_298 then (mBi (f_Mod_apply N x8_298 x9_298 β298) fun v15 α13 => (mBi (f_Mod_chain N 6 0 v15 α13) fun v18 α16 => (some (some (some v18), α16)))) else (if (x6_298 + x10_298) < 0 ∨ 4000 ≤ ((x6_298 + x10_298) : Int32).toNatClampNeg then none else (mBi (f_Mod_free N (β298.2 38 ((x6_298 + x10_298) : Int32).toNatClampNeg) β298) fun v22 α20 => (mBi (f_Mod_apply N x9_298 v22 α20) fun v25 α23 => (f_Mod_minor_298 N n (x10_298 + 1) v25 x8_298 x7_298 x6_298 α23))))
def f_Mod_minor_236 (N : Nat)  : Nat → Int32 → Int32 → Int32 → Int32 → Int32 → Int32 → Int32 → Int32 → mS → Option (kO × mS)
  | 0, _, _, _, _, _, _, _, _, _ => none
  | n + 1, x9_236, x8_236, x7_236, x6_236, x1_236, x2_236, x3_236, x4_236, β236 => if (x3_236 + x4_236) ≤ x9_236 then (mBi (f_Mod_node N 1 ((x1_236 + 1) + x2_236) 0 0 β236) fun v8 α6 => (mBi (f_Mod_of N v8 0 x3_236 α6) fun v11 α9 => (f_Mod_minor_298 N N 0 v11 x8_236 x7_236 x6_236 α9))) else (if x2_236 < 0 ∨ 301 ≤ (x2_236 : Int32).toNatClampNeg then none else (((f_Mod_nth N (β236.2 37 (x2_236 : Int32).toNatClampNeg) (x3_236 + x4_236) x9_236 β236)).bind fun v27 => (mBi (f_Mod_apply N x8_236 v27 β236) fun v31 α29 => (f_Mod_minor_236 N n (x9_236 + 1) v31 x7_236 x6_236 x1_236 x2_236 x3_236 x4_236 α29))))
def f_Mod_minor_127 (N : Nat)  (k70 : Int32 → Int32 → Int32 → Int32 → Int32 → Int32 → Int32 → Int32 → mS → Option (kO × mS)) : Nat → Int32 → Int32 → Int32 → Int32 → Int32 → Int32 → Int32 → Int32 → Int32 → Int32 → Int32 → Int32 → mS → Option (kO × mS)
  | 0, _, _, _, _, _, _, _, _, _, _, _, _, _ => none
  | n + 1, x12_127, x11_127, x10_127, x9_127, x8_127, x7_127, x6_127, x1_127, x2_127, x3_127, x4_127, x5_127, β127 => if (x3_127 + x4_127) ≤ x12_127 then (if (x6_127 + x8_127) < 0 ∨ 4000 ≤ ((x6_127 + x8_127) : Int32).toNatClampNeg then none else (mBi (f_Mod_applied2 N (β127.2 38 ((x6_127 + x8_127) : Int32).toNatClampNeg) β127) fun v43 α41 => (mBi (f_Mod_apply N x11_127 v43 α41) fun v46 α44 => (mBi (f_Mod_chain N 6 x9_127 v46 α44) fun v49 α47 => (mBi (f_Mod_fresh N v49 α47) fun v52 α50 => (if v52 < 0 ∨ 400000 ≤ (v52 : Int32).toNatClampNeg then none else (if (α50.1 30) < 0 ∨ 9000 ≤ ((α50.1 30) : Int32).toNatClampNeg then none else (k70 (x8_127 + 1) x7_127 x6_127 x1_127 x2_127 x3_127 x4_127 x5_127 (mSA (mSi α50 30 ((α50.1 30) + 1)) 41 (upd ((mSi α50 30 ((α50.1 30) + 1)).2 41) ((α50.1 30) : Int32).toNatClampNeg (α50.2 3 (v52 : Int32).toNatClampNeg))))))))))) else (((f_Mod_nth N x10_127 (x3_127 + x4_127) x12_127 β127)).bind fun v55 => (mBi (f_Mod_apply N x11_127 v55 β127) fun v59 α57 => (f_Mod_minor_127 N k70 n (x12_127 + 1) v59 x10_127 x9_127 x8_127 x7_127 x6_127 x1_127 x2_127 x3_127 x4_127 x5_127 α57)))
def f_Mod_minor_70 (N : Nat)  : Nat → Int32 → Int32 → Int32 → Int32 → Int32 → Int32 → Int32 → Int32 → mS → Option (kO × mS)
  | 0, _, _, _, _, _, _, _, _, _ => none
  | n + 1, x8_70, x7_70, x6_70, x1_70, x2_70, x3_70, x4_70, x5_70, β70 => if x7_70 ≤ x8_70 then (f_Mod_minor_236 N N x3_70 x5_70 x7_70 x6_70 x1_70 x2_70 x3_70 x4_70 β70) else (if (x6_70 + x8_70) < 0 ∨ 4000 ≤ ((x6_70 + x8_70) : Int32).toNatClampNeg then none else (if (β70.2 39 ((x6_70 + x8_70) : Int32).toNatClampNeg) = 0 then (f_Mod_minor_70 N n (x8_70 + 1) x7_70 x6_70 x1_70 x2_70 x3_70 x4_70 x5_70 β70) else (if (x6_70 + x8_70) < 0 ∨ 4000 ≤ ((x6_70 + x8_70) : Int32).toNatClampNeg then none else (if (β70.2 38 ((x6_70 + x8_70) : Int32).toNatClampNeg) < 0 ∨ 66000 ≤ ((β70.2 38 ((x6_70 + x8_70) : Int32).toNatClampNeg) : Int32).toNatClampNeg then none else (mBi (f_Mod_ended N (β70.2 32 ((β70.2 38 ((x6_70 + x8_70) : Int32).toNatClampNeg) : Int32).toNatClampNeg) β70) fun v38 α36 => (f_Mod_minor_127 N (f_Mod_minor_70 N n) N x3_70 x5_70 v38 (β70.1 30) x8_70 x7_70 x6_70 x1_70 x2_70 x3_70 x4_70 x5_70 α36))))))
def f_Mod_minor_28 (N : Nat)  : Nat → Int32 → Int32 → Int32 → Int32 → Int32 → Int32 → Int32 → Int32 → mS → Option (kO × mS)
  | 0, _, _, _, _, _, _, _, _, _ => none
  | n + 1, x8_28, x7_28, x6_28, x1_28, x2_28, x3_28, x4_28, x5_28, β28 => if x7_28 ≤ x8_28 then (f_Mod_minor_70 N N 0 x7_28 x6_28 x1_28 x2_28 x3_28 x4_28 x5_28 β28) else (if (x6_28 + x8_28) < 0 ∨ 4000 ≤ ((x6_28 + x8_28) : Int32).toNatClampNeg then none else (if (β28.1 30) < 0 ∨ 9000 ≤ ((β28.1 30) : Int32).toNatClampNeg then none else (f_Mod_minor_28 N n (x8_28 + 1) x7_28 x6_28 x1_28 x2_28 x3_28 x4_28 x5_28 (mSA (mSi β28 30 ((β28.1 30) + 1)) 41 (upd ((mSi β28 30 ((β28.1 30) + 1)).2 41) ((β28.1 30) : Int32).toNatClampNeg ((mSi β28 30 ((β28.1 30) + 1)).2 38 ((x6_28 + x8_28) : Int32).toNatClampNeg))))))
def f_Mod_minor (N : Nat) (a1 : Int32) (a2 : Int32) (a3 : Int32) (a4 : Int32) (a5 : Int32) (α : mS) : Option (kO × mS) := if a2 < 0 ∨ 301 ≤ (a2 : Int32).toNatClampNeg then none else (if ((a1 + 1) + a2) < 0 ∨ 301 ≤ (((a1 + 1) + a2) : Int32).toNatClampNeg then none else (f_Mod_minor_28 N N 0 ((mSi α 30 0).2 18 (((a1 + 1) + a2) : Int32).toNatClampNeg) ((mSi α 30 0).2 36 (a2 : Int32).toNatClampNeg) a1 a2 a3 a4 a5 (mSi α 30 0)))
set_option maxHeartbeats 4000000 in
set_option maxRecDepth 100000 in
theorem k_Mod_minor {l : Launch} {g : mG} {α : mS} (N : Nat) (a1 : Int32) (a2 : Int32) (a3 : Int32) (a4 : Int32) (a5 : Int32)  : ∀ x, f_Mod_minor N a1 a2 a3 a4 a5 α = some x → mC l g y_Mod_minor b_Mod_minor 13 (some .int) (850) (23830) [.ref (mad g 0), .int a1, .int a2, .int a3, .int a4, .int a5] α (mQr x) := by
  intro x h
  unfold f_Mod_minor at h
  refine mc_ofW (by decide) (fun A p e s m args below meth c S hr hlocks hno hargs E hI => ?_)
  have hx := S.1
  have hb := S.2.1
  have hown := S.2.2.2.1
  have hT := S.2.2.2.2
  subst hargs
  have hl := lv_entry ([.ref (mad g 0), .int a1, .int a2, .int a3, .int a4, .int a5]) (n := 13) (Nat.le_of_ble_eq_true rfl)
  rw [lg_entry_eq]
  generalize (lg_sl ([.ref (mad g 0), .int a1, .int a2, .int a3, .int a4, .int a5]) ++ List.replicate (13 - (lg_sl ([.ref (mad g 0), .int a1, .int a2, .int a3, .int a4, .int a5])).length) Slot.unset).toArray = ls at hl ⊢
  have hl : lv_has ls 13 [(0, .ref (mad g 0)), (1, .int a1), (2, .int a2), (3, .int a3), (4, .int a4), (5, .int a5)] := hl
  refine lv_aload_n hx hb d_Mod_minor_0 rfl (lv_at hl 0 rfl) ?_
  refine lv_iconst (v := 0) hx hb d_Mod_minor_1 (by decide) ?_
  refine mp_listed S E hI vt_1341 d_Mod_minor_2 (fun H locs hI => ?_)
  refine lv_aload_n hx hb d_Mod_minor_5 rfl (lv_at hl 0 rfl) ?_
  refine mf_firstArgument S E hI vt_1334 d_Mod_minor_6 ?_
  refine lv_iload_n hx hb d_Mod_minor_9 rfl (lv_at hl 2 rfl) ?_
  by_cases c1 : a2 < 0 ∨ 301 ≤ (a2 : Int32).toNatClampNeg
  · replace h := Eq.trans (if_pos c1).symm h
    cases h
  · replace h := Eq.trans (if_neg c1).symm h
    refine ml_firstArgument S E hI c1 d_Mod_minor_10 ?_
    refine lv_istore (lv' := [(6, .int ((mSi α 30 0).2 36 (a2 : Int32).toNatClampNeg)), (0, .ref (mad g 0)), (1, .int a1), (2, .int a2), (3, .int a3), (4, .int a4), (5, .int a5)]) hx hb d_Mod_minor_11 hl (by decide) rfl (fun ls hl => ?_)
    refine lv_aload_n hx hb d_Mod_minor_13 rfl (lv_at hl 1 rfl) ?_
    refine mf_arguments S E hI vt_1302 d_Mod_minor_14 ?_
    refine lv_iload_n hx hb d_Mod_minor_17 rfl (lv_at hl 2 rfl) ?_
    refine lv_iconst (v := 1) hx hb d_Mod_minor_18 (by decide) ?_
    refine lv_iadd hx hb d_Mod_minor_19 ?_
    refine lv_iload_n hx hb d_Mod_minor_20 rfl (lv_at hl 3 rfl) ?_
    refine lv_iadd hx hb d_Mod_minor_21 ?_
    by_cases c2 : ((a1 + 1) + a2) < 0 ∨ 301 ≤ (((a1 + 1) + a2) : Int32).toNatClampNeg
    · replace h := Eq.trans (if_pos c2).symm h
      cases h
    · replace h := Eq.trans (if_neg c2).symm h
      refine ml_arguments S E hI c2 d_Mod_minor_22 ?_
      refine lv_istore (lv' := [(7, .int ((mSi α 30 0).2 18 (((a1 + 1) + a2) : Int32).toNatClampNeg)), (6, .int ((mSi α 30 0).2 36 (a2 : Int32).toNatClampNeg)), (0, .ref (mad g 0)), (1, .int a1), (2, .int a2), (3, .int a3), (4, .int a4), (5, .int a5)]) hx hb d_Mod_minor_23 hl (by decide) rfl (fun ls hl => ?_)
      refine lv_iconst (v := 0) hx hb d_Mod_minor_25 (by decide) ?_
      refine lv_istore (lv' := [(8, .int 0), (7, .int ((mSi α 30 0).2 18 (((a1 + 1) + a2) : Int32).toNatClampNeg)), (6, .int ((mSi α 30 0).2 36 (a2 : Int32).toNatClampNeg)), (0, .ref (mad g 0)), (1, .int a1), (2, .int a2), (3, .int a3), (4, .int a4), (5, .int a5)]) hx hb d_Mod_minor_26 hl (by decide) rfl (fun ls hl => ?_)
      have L28 : ∀ (n28 : Nat) (x8_28 : Int32) (x7_28 : Int32) (x6_28 : Int32) (x1_28 : Int32) (x2_28 : Int32) (x3_28 : Int32) (x4_28 : Int32) (x5_28 : Int32) (β28 : mS) (H : Heap) (locs : List Loc) (ls : Array Slot), f_Mod_minor_28 N n28 x8_28 x7_28 x6_28 x1_28 x2_28 x3_28 x4_28 x5_28 β28 = some x → mI g A s β28 H locs → lv_has ls 13 [(8, .int x8_28), (7, .int x7_28), (6, .int x6_28), (0, .ref (mad g 0)), (1, .int x1_28), (2, .int x2_28), (3, .int x3_28), (4, .int x4_28), (5, .int x5_28)] → W p l e (mR (850) (23830)) s m ([.ref (mad g 0), .int a1, .int a2, .int a3, .int a4, .int a5]).toArray below meth c H locs 0 0 (vEQ below (mQ g A (mQr x)) ([.ref (mad g 0), .int a1, .int a2, .int a3, .int a4, .int a5]).toArray s A) (F0 m 28 ls []) := by
        intro n28
        induction n28 with
        | zero => intro x8_28 x7_28 x6_28 x1_28 x2_28 x3_28 x4_28 x5_28 β28 H locs ls h hI hl; rw [f_Mod_minor_28] at h; cases h
        | succ n28 ih28 =>
          intro x8_28 x7_28 x6_28 x1_28 x2_28 x3_28 x4_28 x5_28 β28 H locs ls h hI hl
          rw [f_Mod_minor_28] at h
          refine lv_iload hx hb d_Mod_minor_28 (lv_at hl 0 rfl) ?_
          refine lv_iload hx hb d_Mod_minor_30 (lv_at hl 1 rfl) ?_
          refine lv_icmp_ge (tgt := 67) hx hb d_Mod_minor_32 (by decide) (fun c3 => ?_) (fun c3 => ?_)
          · replace h := Eq.trans (if_pos c3).symm h
            refine lv_iconst (v := 0) hx hb d_Mod_minor_67 (by decide) ?_
            refine lv_istore (lv' := [(8, .int 0), (7, .int x7_28), (6, .int x6_28), (0, .ref (mad g 0)), (1, .int x1_28), (2, .int x2_28), (3, .int x3_28), (4, .int x4_28), (5, .int x5_28)]) hx hb d_Mod_minor_68 hl (by decide) rfl (fun ls hl => ?_)
            have L70 : ∀ (n70 : Nat) (x8_70 : Int32) (x7_70 : Int32) (x6_70 : Int32) (x1_70 : Int32) (x2_70 : Int32) (x3_70 : Int32) (x4_70 : Int32) (x5_70 : Int32) (β70 : mS) (H : Heap) (locs : List Loc) (ls : Array Slot), f_Mod_minor_70 N n70 x8_70 x7_70 x6_70 x1_70 x2_70 x3_70 x4_70 x5_70 β70 = some x → mI g A s β70 H locs → lv_has ls 13 [(8, .int x8_70), (7, .int x7_70), (6, .int x6_70), (0, .ref (mad g 0)), (1, .int x1_70), (2, .int x2_70), (3, .int x3_70), (4, .int x4_70), (5, .int x5_70)] → W p l e (mR (850) (23830)) s m ([.ref (mad g 0), .int a1, .int a2, .int a3, .int a4, .int a5]).toArray below meth c H locs 0 0 (vEQ below (mQ g A (mQr x)) ([.ref (mad g 0), .int a1, .int a2, .int a3, .int a4, .int a5]).toArray s A) (F0 m 70 ls []) := by
              intro n70
              induction n70 with
              | zero => intro x8_70 x7_70 x6_70 x1_70 x2_70 x3_70 x4_70 x5_70 β70 H locs ls h hI hl; rw [f_Mod_minor_70] at h; cases h
              | succ n70 ih70 =>
                intro x8_70 x7_70 x6_70 x1_70 x2_70 x3_70 x4_70 x5_70 β70 H locs ls h hI hl
                rw [f_Mod_minor_70] at h
                refine lv_iload hx hb d_Mod_minor_70 (lv_at hl 0 rfl) ?_
                refine lv_iload hx hb d_Mod_minor_72 (lv_at hl 1 rfl) ?_
                refine lv_icmp_ge (tgt := 229) hx hb d_Mod_minor_74 (by decide) (fun c4 => ?_) (fun c4 => ?_)
                · replace h := Eq.trans (if_pos c4).symm h
                  refine lv_iload hx hb d_Mod_minor_229 (lv_at hl 8 rfl) ?_
                  refine lv_istore (lv' := [(8, .int x5_70), (7, .int x7_70), (6, .int x6_70), (0, .ref (mad g 0)), (1, .int x1_70), (2, .int x2_70), (3, .int x3_70), (4, .int x4_70), (5, .int x5_70)]) hx hb d_Mod_minor_231 hl (by decide) rfl (fun ls hl => ?_)
                  refine lv_iload_n hx hb d_Mod_minor_233 rfl (lv_at hl 6 rfl) ?_
                  refine lv_istore (lv' := [(9, .int x3_70), (8, .int x5_70), (7, .int x7_70), (6, .int x6_70), (0, .ref (mad g 0)), (1, .int x1_70), (2, .int x2_70), (3, .int x3_70), (4, .int x4_70), (5, .int x5_70)]) hx hb d_Mod_minor_234 hl (by decide) rfl (fun ls hl => ?_)
                  have L236 : ∀ (n236 : Nat) (x9_236 : Int32) (x8_236 : Int32) (x7_236 : Int32) (x6_236 : Int32) (x1_236 : Int32) (x2_236 : Int32) (x3_236 : Int32) (x4_236 : Int32) (β236 : mS) (H : Heap) (locs : List Loc) (ls : Array Slot), f_Mod_minor_236 N n236 x9_236 x8_236 x7_236 x6_236 x1_236 x2_236 x3_236 x4_236 β236 = some x → mI g A s β236 H locs → lv_has ls 13 [(9, .int x9_236), (8, .int x8_236), (7, .int x7_236), (6, .int x6_236), (0, .ref (mad g 0)), (1, .int x1_236), (2, .int x2_236), (3, .int x3_236), (4, .int x4_236)] → W p l e (mR (850) (23830)) s m ([.ref (mad g 0), .int a1, .int a2, .int a3, .int a4, .int a5]).toArray below meth c H locs 0 0 (vEQ below (mQ g A (mQr x)) ([.ref (mad g 0), .int a1, .int a2, .int a3, .int a4, .int a5]).toArray s A) (F0 m 236 ls []) := by
                    intro n236
                    induction n236 with
                    | zero => intro x9_236 x8_236 x7_236 x6_236 x1_236 x2_236 x3_236 x4_236 β236 H locs ls h hI hl; rw [f_Mod_minor_236] at h; cases h
                    | succ n236 ih236 =>
                      intro x9_236 x8_236 x7_236 x6_236 x1_236 x2_236 x3_236 x4_236 β236 H locs ls h hI hl
                      rw [f_Mod_minor_236] at h
                      refine lv_iload hx hb d_Mod_minor_236 (lv_at hl 0 rfl) ?_
                      refine lv_iload_n hx hb d_Mod_minor_238 rfl (lv_at hl 7 rfl) ?_
                      refine lv_iload hx hb d_Mod_minor_239 (lv_at hl 8 rfl) ?_
                      refine lv_iadd hx hb d_Mod_minor_241 ?_
                      refine lv_icmp_ge (tgt := 275) hx hb d_Mod_minor_242 (by decide) (fun c5 => ?_) (fun c5 => ?_)
                      · replace h := Eq.trans (if_pos c5).symm h
                        refine lv_aload_n hx hb d_Mod_minor_275 rfl (lv_at hl 4 rfl) ?_
                        refine lv_aload_n hx hb d_Mod_minor_276 rfl (lv_at hl 4 rfl) ?_
                        refine lv_iconst (v := 1) hx hb d_Mod_minor_277 (by decide) ?_
                        refine lv_iload_n hx hb d_Mod_minor_278 rfl (lv_at hl 5 rfl) ?_
                        refine lv_iconst (v := 1) hx hb d_Mod_minor_279 (by decide) ?_
                        refine lv_iadd hx hb d_Mod_minor_280 ?_
                        refine lv_iload_n hx hb d_Mod_minor_281 rfl (lv_at hl 6 rfl) ?_
                        refine lv_iadd hx hb d_Mod_minor_282 ?_
                        refine lv_iconst (v := 0) hx hb d_Mod_minor_283 (by decide) ?_
                        refine lv_iconst (v := 0) hx hb d_Mod_minor_284 (by decide) ?_
                        refine mg_cI (As := [.int 1, .int ((x1_236 + 1) + x2_236), .int 0, .int 0]) (rest := [.ref (mad g 0)]) h (k_Mod_node (l := l) (g := g) (α := β236) N 1 ((x1_236 + 1) + x2_236) 0 0) S hlocks hno E hI kw_Mod_336 ⟨Nat.le_of_ble_eq_true rfl, Nat.le_of_ble_eq_true rfl⟩ (mv_Mod E hI) rfl hl.1 rfl (Nat.le_of_ble_eq_true rfl) d_Mod_minor_285 (fun v8 α6 H locs e7 h hI => ?_)
                        refine lv_iconst (v := 0) hx hb d_Mod_minor_288 (by decide) ?_
                        refine lv_iload_n hx hb d_Mod_minor_289 rfl (lv_at hl 7 rfl) ?_
                        refine mg_cI (As := [.int v8, .int 0, .int x3_236]) (rest := []) h (k_Mod_of (l := l) (g := g) (α := α6) N v8 0 x3_236) S hlocks hno E hI kw_Mod_555 ⟨Nat.le_of_ble_eq_true rfl, Nat.le_of_ble_eq_true rfl⟩ (mv_Mod E hI) rfl hl.1 rfl (Nat.le_of_ble_eq_true rfl) d_Mod_minor_290 (fun v11 α9 H locs e10 h hI => ?_)
                        refine lv_istore (lv' := [(9, .int v11), (8, .int x8_236), (7, .int x7_236), (6, .int x6_236), (0, .ref (mad g 0)), (1, .int x1_236), (2, .int x2_236), (3, .int x3_236), (4, .int x4_236)]) hx hb d_Mod_minor_293 hl (by decide) rfl (fun ls hl => ?_)
                        refine lv_iconst (v := 0) hx hb d_Mod_minor_295 (by decide) ?_
                        refine lv_istore (lv' := [(10, .int 0), (9, .int v11), (8, .int x8_236), (7, .int x7_236), (6, .int x6_236), (0, .ref (mad g 0)), (1, .int x1_236), (2, .int x2_236), (3, .int x3_236), (4, .int x4_236)]) hx hb d_Mod_minor_296 hl (by decide) rfl (fun ls hl => ?_)
                        have L298 : ∀ (n298 : Nat) (x10_298 : Int32) (x9_298 : Int32) (x8_298 : Int32) (x7_298 : Int32) (x6_298 : Int32) (β298 : mS) (H : Heap) (locs : List Loc) (ls : Array Slot), f_Mod_minor_298 N n298 x10_298 x9_298 x8_298 x7_298 x6_298 β298 = some x → mI g A s β298 H locs → lv_has ls 13 [(10, .int x10_298), (9, .int x9_298), (8, .int x8_298), (7, .int x7_298), (6, .int x6_298), (0, .ref (mad g 0))] → W p l e (mR (850) (23830)) s m ([.ref (mad g 0), .int a1, .int a2, .int a3, .int a4, .int a5]).toArray below meth c H locs 0 0 (vEQ below (mQ g A (mQr x)) ([.ref (mad g 0), .int a1, .int a2, .int a3, .int a4, .int a5]).toArray s A) (F0 m 298 ls []) := by
                          intro n298
                          induction n298 with
                          | zero => intro x10_298 x9_298 x8_298 x7_298 x6_298 β298 H locs ls h hI hl; rw [f_Mod_minor_298] at h; cases h
                          | succ n298 ih298 =>
                            intro x10_298 x9_298 x8_298 x7_298 x6_298 β298 H locs ls h hI hl
                            rw [f_Mod_minor_298] at h
                            refine lv_iload hx hb d_Mod_minor_298 (lv_at hl 0 rfl) ?_
                            refine lv_iload hx hb d_Mod_minor_300 (lv_at hl 3 rfl) ?_
                            refine lv_icmp_ge (tgt := 333) hx hb d_Mod_minor_302 (by decide) (fun c12 => ?_) (fun c12 => ?_)
                            · replace h := Eq.trans (if_pos c12).symm h
                              refine lv_aload_n hx hb d_Mod_minor_333 rfl (lv_at hl 5 rfl) ?_
                              refine lv_bipush (v := 6) hx hb d_Mod_minor_334 (by decide) ?_
                              refine lv_iconst (v := 0) hx hb d_Mod_minor_336 (by decide) ?_
                              refine lv_aload_n hx hb d_Mod_minor_337 rfl (lv_at hl 5 rfl) ?_
                              refine lv_iload hx hb d_Mod_minor_338 (lv_at hl 2 rfl) ?_
                              refine lv_iload hx hb d_Mod_minor_340 (lv_at hl 1 rfl) ?_
                              refine mg_cI (As := [.int x8_298, .int x9_298]) (rest := [.int 0, .int 6, .ref (mad g 0)]) h (k_Mod_apply (l := l) (g := g) (α := β298) N x8_298 x9_298) S hlocks hno E hI kw_Mod_350 ⟨Nat.le_of_ble_eq_true rfl, Nat.le_of_ble_eq_true rfl⟩ (mv_Mod E hI) rfl hl.1 rfl (Nat.le_of_ble_eq_true rfl) d_Mod_minor_342 (fun v15 α13 H locs e14 h hI => ?_)
                              refine mg_cI (As := [.int 6, .int 0, .int v15]) (rest := []) h (k_Mod_chain (l := l) (g := g) (α := α13) N 6 0 v15) S hlocks hno E hI kw_Mod_558 ⟨Nat.le_of_ble_eq_true rfl, Nat.le_of_ble_eq_true rfl⟩ (mv_Mod E hI) rfl hl.1 rfl (Nat.le_of_ble_eq_true rfl) d_Mod_minor_345 (fun v18 α16 H locs e17 h hI => ?_)
                              exact mc_iret (w := v18) hx hb hr rfl hlocks E hI h d_Mod_minor_348
                            · replace h := Eq.trans (if_neg c12).symm h
                              refine lv_aload_n hx hb d_Mod_minor_305 rfl (lv_at hl 5 rfl) ?_
                              refine lv_iload hx hb d_Mod_minor_306 (lv_at hl 1 rfl) ?_
                              refine lv_aload_n hx hb d_Mod_minor_308 rfl (lv_at hl 5 rfl) ?_
                              refine lv_aload_n hx hb d_Mod_minor_309 rfl (lv_at hl 5 rfl) ?_
                              refine mf_argument S E hI vt_1336 d_Mod_minor_310 ?_
                              refine lv_iload hx hb d_Mod_minor_313 (lv_at hl 4 rfl) ?_
                              refine lv_iload hx hb d_Mod_minor_315 (lv_at hl 0 rfl) ?_
                              refine lv_iadd hx hb d_Mod_minor_317 ?_
                              by_cases c19 : (x6_298 + x10_298) < 0 ∨ 4000 ≤ ((x6_298 + x10_298) : Int32).toNatClampNeg
                              · replace h := Eq.trans (if_pos c19).symm h
                                cases h
                              · replace h := Eq.trans (if_neg c19).symm h
                                refine ml_argument S E hI c19 d_Mod_minor_318 ?_
                                refine mg_cI (As := [.int (β298.2 38 ((x6_298 + x10_298) : Int32).toNatClampNeg)]) (rest := [.int x9_298, .ref (mad g 0)]) h (k_Mod_free (l := l) (g := g) (α := β298) N (β298.2 38 ((x6_298 + x10_298) : Int32).toNatClampNeg)) S hlocks hno E hI kw_Mod_353 ⟨Nat.le_of_ble_eq_true rfl, Nat.le_of_ble_eq_true rfl⟩ (mv_Mod E hI) rfl hl.1 rfl (Nat.le_of_ble_eq_true rfl) d_Mod_minor_319 (fun v22 α20 H locs e21 h hI => ?_)
                                refine mg_cI (As := [.int x9_298, .int v22]) (rest := []) h (k_Mod_apply (l := l) (g := g) (α := α20) N x9_298 v22) S hlocks hno E hI kw_Mod_350 ⟨Nat.le_of_ble_eq_true rfl, Nat.le_of_ble_eq_true rfl⟩ (mv_Mod E hI) rfl hl.1 rfl (Nat.le_of_ble_eq_true rfl) d_Mod_minor_322 (fun v25 α23 H locs e24 h hI => ?_)
                                refine lv_istore (lv' := [(9, .int v25), (10, .int x10_298), (8, .int x8_298), (7, .int x7_298), (6, .int x6_298), (0, .ref (mad g 0))]) hx hb d_Mod_minor_325 hl (by decide) rfl (fun ls hl => ?_)
                                refine lv_iinc (v := (x10_298 + 1)) (lv' := [(10, .int (x10_298 + 1)), (9, .int v25), (8, .int x8_298), (7, .int x7_298), (6, .int x6_298), (0, .ref (mad g 0))]) hx hb d_Mod_minor_327 hl (k := 1) rfl rfl (by decide) rfl (fun ls hl => ?_)
                                refine lv_goto (tgt := 298) hx hb d_Mod_minor_330 (by decide) ?_
                                exact ih298 (x10_298 + 1) v25 x8_298 x7_298 x6_298 _ _ _ _ h hI (lv_sub hl [0, 1, 2, 3, 4, 5] rfl)
                        exact L298 N 0 v11 x8_236 x7_236 x6_236 _ _ _ _ h hI (lv_sub hl [0, 1, 2, 3, 4, 5] rfl)
                      · replace h := Eq.trans (if_neg c5).symm h
                        refine lv_aload_n hx hb d_Mod_minor_245 rfl (lv_at hl 4 rfl) ?_
                        refine lv_iload hx hb d_Mod_minor_246 (lv_at hl 1 rfl) ?_
                        refine lv_aload_n hx hb d_Mod_minor_248 rfl (lv_at hl 4 rfl) ?_
                        refine lv_aload_n hx hb d_Mod_minor_249 rfl (lv_at hl 4 rfl) ?_
                        refine mf_endAt S E hI vt_1335 d_Mod_minor_250 ?_
                        refine lv_iload_n hx hb d_Mod_minor_253 rfl (lv_at hl 6 rfl) ?_
                        by_cases c26 : x2_236 < 0 ∨ 301 ≤ (x2_236 : Int32).toNatClampNeg
                        · replace h := Eq.trans (if_pos c26).symm h
                          cases h
                        · replace h := Eq.trans (if_neg c26).symm h
                          refine ml_endAt S E hI c26 d_Mod_minor_254 ?_
                          refine lv_iload_n hx hb d_Mod_minor_255 rfl (lv_at hl 7 rfl) ?_
                          refine lv_iload hx hb d_Mod_minor_256 (lv_at hl 8 rfl) ?_
                          refine lv_iadd hx hb d_Mod_minor_258 ?_
                          refine lv_iload hx hb d_Mod_minor_259 (lv_at hl 0 rfl) ?_
                          obtain ⟨v27, e28, h⟩ := Option.bind_eq_some_iff.mp h
                          refine mg_p (As := [.int (β236.2 37 (x2_236 : Int32).toNatClampNeg), .int (x3_236 + x4_236), .int x9_236]) (rest := [.int x8_236, .ref (mad g 0)]) ((k_Mod_nth (l := l) (g := g) (α := β236) N (β236.2 37 (x2_236 : Int32).toNatClampNeg) (x3_236 + x4_236) x9_236) _ e28) S E hI kw_Mod_440 (Or.inl rfl) ⟨Nat.le_of_ble_eq_true rfl, Nat.le_of_ble_eq_true rfl⟩ (mv_Mod E hI) rfl hl.1 rfl (Nat.le_of_ble_eq_true rfl) d_Mod_minor_261 rfl ?_
                          refine mg_cI (As := [.int x8_236, .int v27]) (rest := []) h (k_Mod_apply (l := l) (g := g) (α := β236) N x8_236 v27) S hlocks hno E hI kw_Mod_350 ⟨Nat.le_of_ble_eq_true rfl, Nat.le_of_ble_eq_true rfl⟩ (mv_Mod E hI) rfl hl.1 rfl (Nat.le_of_ble_eq_true rfl) d_Mod_minor_264 (fun v31 α29 H locs e30 h hI => ?_)
                          refine lv_istore (lv' := [(8, .int v31), (9, .int x9_236), (7, .int x7_236), (6, .int x6_236), (0, .ref (mad g 0)), (1, .int x1_236), (2, .int x2_236), (3, .int x3_236), (4, .int x4_236)]) hx hb d_Mod_minor_267 hl (by decide) rfl (fun ls hl => ?_)
                          refine lv_iinc (v := (x9_236 + 1)) (lv' := [(9, .int (x9_236 + 1)), (8, .int v31), (7, .int x7_236), (6, .int x6_236), (0, .ref (mad g 0)), (1, .int x1_236), (2, .int x2_236), (3, .int x3_236), (4, .int x4_236)]) hx hb d_Mod_minor_269 hl (k := 1) rfl rfl (by decide) rfl (fun ls hl => ?_)
                          refine lv_goto (tgt := 236) hx hb d_Mod_minor_272 (by decide) ?_
                          exact ih236 (x9_236 + 1) v31 x7_236 x6_236 x1_236 x2_236 x3_236 x4_236 _ _ _ _ h hI (lv_sub hl [0, 1, 2, 3, 4, 5, 6, 7, 8] rfl)
                  exact L236 N x3_70 x5_70 x7_70 x6_70 x1_70 x2_70 x3_70 x4_70 _ _ _ _ h hI (lv_sub hl [0, 1, 2, 3, 4, 5, 6, 7, 8] rfl)
                · replace h := Eq.trans (if_neg c4).symm h
                  refine lv_aload_n hx hb d_Mod_minor_77 rfl (lv_at hl 3 rfl) ?_
                  refine mf_isRecursive S E hI vt_1337 d_Mod_minor_78 ?_
                  refine lv_iload hx hb d_Mod_minor_81 (lv_at hl 2 rfl) ?_
                  refine lv_iload hx hb d_Mod_minor_83 (lv_at hl 0 rfl) ?_
                  refine lv_iadd hx hb d_Mod_minor_85 ?_
                  by_cases c32 : (x6_70 + x8_70) < 0 ∨ 4000 ≤ ((x6_70 + x8_70) : Int32).toNatClampNeg
                  · replace h := Eq.trans (if_pos c32).symm h
                    cases h
                  · replace h := Eq.trans (if_neg c32).symm h
                    refine ml_isRecursive S E hI c32 d_Mod_minor_86 ?_
                    refine lv_if_ne (tgt := 93) hx hb d_Mod_minor_87 (by decide) (fun c33 => ?_) (fun c33 => ?_)
                    · replace h := Eq.trans (if_neg c33).symm h
                      refine lv_aload_n hx hb d_Mod_minor_93 rfl (lv_at hl 3 rfl) ?_
                      refine mf_listed S E hI vt_1341 d_Mod_minor_94 ?_
                      refine lv_istore (lv' := [(9, .int (β70.1 30)), (8, .int x8_70), (7, .int x7_70), (6, .int x6_70), (0, .ref (mad g 0)), (1, .int x1_70), (2, .int x2_70), (3, .int x3_70), (4, .int x4_70), (5, .int x5_70)]) hx hb d_Mod_minor_97 hl (by decide) rfl (fun ls hl => ?_)
                      refine lv_aload_n hx hb d_Mod_minor_99 rfl (lv_at hl 4 rfl) ?_
                      refine lv_aload_n hx hb d_Mod_minor_100 rfl (lv_at hl 4 rfl) ?_
                      refine mf_typeOfVariable S E hI vt_1325 d_Mod_minor_101 ?_
                      refine lv_aload_n hx hb d_Mod_minor_104 rfl (lv_at hl 4 rfl) ?_
                      refine mf_argument S E hI vt_1336 d_Mod_minor_105 ?_
                      refine lv_iload hx hb d_Mod_minor_108 (lv_at hl 3 rfl) ?_
                      refine lv_iload hx hb d_Mod_minor_110 (lv_at hl 1 rfl) ?_
                      refine lv_iadd hx hb d_Mod_minor_112 ?_
                      by_cases c34 : (x6_70 + x8_70) < 0 ∨ 4000 ≤ ((x6_70 + x8_70) : Int32).toNatClampNeg
                      · replace h := Eq.trans (if_pos c34).symm h
                        cases h
                      · replace h := Eq.trans (if_neg c34).symm h
                        refine ml_argument S E hI c34 d_Mod_minor_113 ?_
                        by_cases c35 : (β70.2 38 ((x6_70 + x8_70) : Int32).toNatClampNeg) < 0 ∨ 66000 ≤ ((β70.2 38 ((x6_70 + x8_70) : Int32).toNatClampNeg) : Int32).toNatClampNeg
                        · replace h := Eq.trans (if_pos c35).symm h
                          cases h
                        · replace h := Eq.trans (if_neg c35).symm h
                          refine ml_typeOfVariable S E hI c35 d_Mod_minor_114 ?_
                          refine mg_cI (As := [.int (β70.2 32 ((β70.2 38 ((x6_70 + x8_70) : Int32).toNatClampNeg) : Int32).toNatClampNeg)]) (rest := []) h (k_Mod_ended (l := l) (g := g) (α := β70) N (β70.2 32 ((β70.2 38 ((x6_70 + x8_70) : Int32).toNatClampNeg) : Int32).toNatClampNeg)) S hlocks hno E hI kw_Mod_571 ⟨Nat.le_of_ble_eq_true rfl, Nat.le_of_ble_eq_true rfl⟩ (mv_Mod E hI) rfl hl.1 rfl (Nat.le_of_ble_eq_true rfl) d_Mod_minor_115 (fun v38 α36 H locs e37 h hI => ?_)
                          refine lv_istore (lv' := [(10, .int v38), (9, .int (β70.1 30)), (8, .int x8_70), (7, .int x7_70), (6, .int x6_70), (0, .ref (mad g 0)), (1, .int x1_70), (2, .int x2_70), (3, .int x3_70), (4, .int x4_70), (5, .int x5_70)]) hx hb d_Mod_minor_118 hl (by decide) rfl (fun ls hl => ?_)
                          refine lv_iload hx hb d_Mod_minor_120 (lv_at hl 10 rfl) ?_
                          refine lv_istore (lv' := [(11, .int x5_70), (10, .int v38), (9, .int (β70.1 30)), (8, .int x8_70), (7, .int x7_70), (6, .int x6_70), (0, .ref (mad g 0)), (1, .int x1_70), (2, .int x2_70), (3, .int x3_70), (4, .int x4_70), (5, .int x5_70)]) hx hb d_Mod_minor_122 hl (by decide) rfl (fun ls hl => ?_)
                          refine lv_iload_n hx hb d_Mod_minor_124 rfl (lv_at hl 9 rfl) ?_
                          refine lv_istore (lv' := [(12, .int x3_70), (11, .int x5_70), (10, .int v38), (9, .int (β70.1 30)), (8, .int x8_70), (7, .int x7_70), (6, .int x6_70), (0, .ref (mad g 0)), (1, .int x1_70), (2, .int x2_70), (3, .int x3_70), (4, .int x4_70), (5, .int x5_70)]) hx hb d_Mod_minor_125 hl (by decide) rfl (fun ls hl => ?_)
                          have L127 : ∀ (n127 : Nat) (x12_127 : Int32) (x11_127 : Int32) (x10_127 : Int32) (x9_127 : Int32) (x8_127 : Int32) (x7_127 : Int32) (x6_127 : Int32) (x1_127 : Int32) (x2_127 : Int32) (x3_127 : Int32) (x4_127 : Int32) (x5_127 : Int32) (β127 : mS) (H : Heap) (locs : List Loc) (ls : Array Slot), f_Mod_minor_127 N (f_Mod_minor_70 N n70) n127 x12_127 x11_127 x10_127 x9_127 x8_127 x7_127 x6_127 x1_127 x2_127 x3_127 x4_127 x5_127 β127 = some x → mI g A s β127 H locs → lv_has ls 13 [(12, .int x12_127), (11, .int x11_127), (10, .int x10_127), (9, .int x9_127), (8, .int x8_127), (7, .int x7_127), (6, .int x6_127), (0, .ref (mad g 0)), (1, .int x1_127), (2, .int x2_127), (3, .int x3_127), (4, .int x4_127), (5, .int x5_127)] → W p l e (mR (850) (23830)) s m ([.ref (mad g 0), .int a1, .int a2, .int a3, .int a4, .int a5]).toArray below meth c H locs 0 0 (vEQ below (mQ g A (mQr x)) ([.ref (mad g 0), .int a1, .int a2, .int a3, .int a4, .int a5]).toArray s A) (F0 m 127 ls []) := by
                            intro n127
                            induction n127 with
                            | zero => intro x12_127 x11_127 x10_127 x9_127 x8_127 x7_127 x6_127 x1_127 x2_127 x3_127 x4_127 x5_127 β127 H locs ls h hI hl; rw [f_Mod_minor_127] at h; cases h
                            | succ n127 ih127 =>
                              intro x12_127 x11_127 x10_127 x9_127 x8_127 x7_127 x6_127 x1_127 x2_127 x3_127 x4_127 x5_127 β127 H locs ls h hI hl
                              rw [f_Mod_minor_127] at h
                              refine lv_iload hx hb d_Mod_minor_127 (lv_at hl 0 rfl) ?_
                              refine lv_iload_n hx hb d_Mod_minor_129 rfl (lv_at hl 10 rfl) ?_
                              refine lv_iload hx hb d_Mod_minor_130 (lv_at hl 11 rfl) ?_
                              refine lv_iadd hx hb d_Mod_minor_132 ?_
                              refine lv_icmp_ge (tgt := 162) hx hb d_Mod_minor_133 (by decide) (fun c39 => ?_) (fun c39 => ?_)
                              · replace h := Eq.trans (if_pos c39).symm h
                                refine lv_aload_n hx hb d_Mod_minor_162 rfl (lv_at hl 7 rfl) ?_
                                refine lv_iload hx hb d_Mod_minor_163 (lv_at hl 1 rfl) ?_
                                refine lv_aload_n hx hb d_Mod_minor_165 rfl (lv_at hl 7 rfl) ?_
                                refine lv_aload_n hx hb d_Mod_minor_166 rfl (lv_at hl 7 rfl) ?_
                                refine mf_argument S E hI vt_1336 d_Mod_minor_167 ?_
                                refine lv_iload hx hb d_Mod_minor_170 (lv_at hl 6 rfl) ?_
                                refine lv_iload hx hb d_Mod_minor_172 (lv_at hl 4 rfl) ?_
                                refine lv_iadd hx hb d_Mod_minor_174 ?_
                                by_cases c40 : (x6_127 + x8_127) < 0 ∨ 4000 ≤ ((x6_127 + x8_127) : Int32).toNatClampNeg
                                · replace h := Eq.trans (if_pos c40).symm h
                                  cases h
                                · replace h := Eq.trans (if_neg c40).symm h
                                  refine ml_argument S E hI c40 d_Mod_minor_175 ?_
                                  refine mg_cI (As := [.int (β127.2 38 ((x6_127 + x8_127) : Int32).toNatClampNeg)]) (rest := [.int x11_127, .ref (mad g 0)]) h (k_Mod_applied2 (l := l) (g := g) (α := β127) N (β127.2 38 ((x6_127 + x8_127) : Int32).toNatClampNeg)) S hlocks hno E hI kw_Mod_574 ⟨Nat.le_of_ble_eq_true rfl, Nat.le_of_ble_eq_true rfl⟩ (mv_Mod E hI) rfl hl.1 rfl (Nat.le_of_ble_eq_true rfl) d_Mod_minor_176 (fun v43 α41 H locs e42 h hI => ?_)
                                  refine mg_cI (As := [.int x11_127, .int v43]) (rest := []) h (k_Mod_apply (l := l) (g := g) (α := α41) N x11_127 v43) S hlocks hno E hI kw_Mod_350 ⟨Nat.le_of_ble_eq_true rfl, Nat.le_of_ble_eq_true rfl⟩ (mv_Mod E hI) rfl hl.1 rfl (Nat.le_of_ble_eq_true rfl) d_Mod_minor_179 (fun v46 α44 H locs e45 h hI => ?_)
                                  refine lv_istore (lv' := [(11, .int v46), (12, .int x12_127), (10, .int x10_127), (9, .int x9_127), (8, .int x8_127), (7, .int x7_127), (6, .int x6_127), (0, .ref (mad g 0)), (1, .int x1_127), (2, .int x2_127), (3, .int x3_127), (4, .int x4_127), (5, .int x5_127)]) hx hb d_Mod_minor_182 hl (by decide) rfl (fun ls hl => ?_)
                                  refine lv_aload_n hx hb d_Mod_minor_184 rfl (lv_at hl 7 rfl) ?_
                                  refine mf_one S E hI vt_1280 d_Mod_minor_185 ?_
                                  refine lv_aload_n hx hb d_Mod_minor_188 rfl (lv_at hl 7 rfl) ?_
                                  refine lv_aload_n hx hb d_Mod_minor_189 rfl (lv_at hl 7 rfl) ?_
                                  refine lv_bipush (v := 6) hx hb d_Mod_minor_190 (by decide) ?_
                                  refine lv_iload hx hb d_Mod_minor_192 (lv_at hl 3 rfl) ?_
                                  refine lv_iload hx hb d_Mod_minor_194 (lv_at hl 0 rfl) ?_
                                  refine mg_cI (As := [.int 6, .int x9_127, .int v46]) (rest := [.ref (mad g 0), .ref (mad g 4)]) h (k_Mod_chain (l := l) (g := g) (α := α44) N 6 x9_127 v46) S hlocks hno E hI kw_Mod_558 ⟨Nat.le_of_ble_eq_true rfl, Nat.le_of_ble_eq_true rfl⟩ (mv_Mod E hI) rfl hl.1 rfl (Nat.le_of_ble_eq_true rfl) d_Mod_minor_196 (fun v49 α47 H locs e48 h hI => ?_)
                                  refine mg_cI (As := [.int v49]) (rest := [.ref (mad g 4)]) h (k_Mod_fresh (l := l) (g := g) (α := α47) N v49) S hlocks hno E hI kw_Mod_468 ⟨Nat.le_of_ble_eq_true rfl, Nat.le_of_ble_eq_true rfl⟩ (mv_Mod E hI) rfl hl.1 rfl (Nat.le_of_ble_eq_true rfl) d_Mod_minor_199 (fun v52 α50 H locs e51 h hI => ?_)
                                  by_cases c53 : v52 < 0 ∨ 400000 ≤ (v52 : Int32).toNatClampNeg
                                  · replace h := Eq.trans (if_pos c53).symm h
                                    cases h
                                  · replace h := Eq.trans (if_neg c53).symm h
                                    refine ml_one S E hI c53 d_Mod_minor_202 ?_
                                    refine lv_istore (lv' := [(12, .int (α50.2 3 (v52 : Int32).toNatClampNeg)), (11, .int v46), (10, .int x10_127), (9, .int x9_127), (8, .int x8_127), (7, .int x7_127), (6, .int x6_127), (0, .ref (mad g 0)), (1, .int x1_127), (2, .int x2_127), (3, .int x3_127), (4, .int x4_127), (5, .int x5_127)]) hx hb d_Mod_minor_203 hl (by decide) rfl (fun ls hl => ?_)
                                    refine lv_aload_n hx hb d_Mod_minor_205 rfl (lv_at hl 7 rfl) ?_
                                    refine mf_list S E hI vt_1340 d_Mod_minor_206 ?_
                                    refine lv_aload_n hx hb d_Mod_minor_209 rfl (lv_at hl 7 rfl) ?_
                                    refine lv_dup hx hb d_Mod_minor_210 rfl ?_
                                    refine mf_listed S E hI vt_1341 d_Mod_minor_211 ?_
                                    refine lv_dup_x1 hx hb d_Mod_minor_214 rfl rfl ?_
                                    refine lv_iconst (v := 1) hx hb d_Mod_minor_215 (by decide) ?_
                                    refine lv_iadd hx hb d_Mod_minor_216 ?_
                                    refine mp_listed S E hI vt_1341 d_Mod_minor_217 (fun H locs hI => ?_)
                                    refine lv_iload hx hb d_Mod_minor_220 (lv_at hl 0 rfl) ?_
                                    by_cases c54 : (α50.1 30) < 0 ∨ 9000 ≤ ((α50.1 30) : Int32).toNatClampNeg
                                    · replace h := Eq.trans (if_pos c54).symm h
                                      cases h
                                    · replace h := Eq.trans (if_neg c54).symm h
                                      refine ms_list S E hI c54 d_Mod_minor_222 (fun H locs hI => ?_)
                                      refine lv_iinc (v := (x8_127 + 1)) (lv' := [(8, .int (x8_127 + 1)), (12, .int (α50.2 3 (v52 : Int32).toNatClampNeg)), (11, .int v46), (10, .int x10_127), (9, .int x9_127), (7, .int x7_127), (6, .int x6_127), (0, .ref (mad g 0)), (1, .int x1_127), (2, .int x2_127), (3, .int x3_127), (4, .int x4_127), (5, .int x5_127)]) hx hb d_Mod_minor_223 hl (k := 4) rfl rfl (by decide) rfl (fun ls hl => ?_)
                                      refine lv_goto (tgt := 70) hx hb d_Mod_minor_226 (by decide) ?_
                                      exact ih70 (x8_127 + 1) x7_127 x6_127 x1_127 x2_127 x3_127 x4_127 x5_127 _ _ _ _ h hI (lv_sub hl [0, 5, 6, 7, 8, 9, 10, 11, 12] rfl)
                              · replace h := Eq.trans (if_neg c39).symm h
                                refine lv_aload_n hx hb d_Mod_minor_136 rfl (lv_at hl 7 rfl) ?_
                                refine lv_iload hx hb d_Mod_minor_137 (lv_at hl 1 rfl) ?_
                                refine lv_aload_n hx hb d_Mod_minor_139 rfl (lv_at hl 7 rfl) ?_
                                refine lv_iload hx hb d_Mod_minor_140 (lv_at hl 2 rfl) ?_
                                refine lv_iload_n hx hb d_Mod_minor_142 rfl (lv_at hl 10 rfl) ?_
                                refine lv_iload hx hb d_Mod_minor_143 (lv_at hl 11 rfl) ?_
                                refine lv_iadd hx hb d_Mod_minor_145 ?_
                                refine lv_iload hx hb d_Mod_minor_146 (lv_at hl 0 rfl) ?_
                                obtain ⟨v55, e56, h⟩ := Option.bind_eq_some_iff.mp h
                                refine mg_p (As := [.int x10_127, .int (x3_127 + x4_127), .int x12_127]) (rest := [.int x11_127, .ref (mad g 0)]) ((k_Mod_nth (l := l) (g := g) (α := β127) N x10_127 (x3_127 + x4_127) x12_127) _ e56) S E hI kw_Mod_440 (Or.inl rfl) ⟨Nat.le_of_ble_eq_true rfl, Nat.le_of_ble_eq_true rfl⟩ (mv_Mod E hI) rfl hl.1 rfl (Nat.le_of_ble_eq_true rfl) d_Mod_minor_148 rfl ?_
                                refine mg_cI (As := [.int x11_127, .int v55]) (rest := []) h (k_Mod_apply (l := l) (g := g) (α := β127) N x11_127 v55) S hlocks hno E hI kw_Mod_350 ⟨Nat.le_of_ble_eq_true rfl, Nat.le_of_ble_eq_true rfl⟩ (mv_Mod E hI) rfl hl.1 rfl (Nat.le_of_ble_eq_true rfl) d_Mod_minor_151 (fun v59 α57 H locs e58 h hI => ?_)
                                refine lv_istore (lv' := [(11, .int v59), (12, .int x12_127), (10, .int x10_127), (9, .int x9_127), (8, .int x8_127), (7, .int x7_127), (6, .int x6_127), (0, .ref (mad g 0)), (1, .int x1_127), (2, .int x2_127), (3, .int x3_127), (4, .int x4_127), (5, .int x5_127)]) hx hb d_Mod_minor_154 hl (by decide) rfl (fun ls hl => ?_)
                                refine lv_iinc (v := (x12_127 + 1)) (lv' := [(12, .int (x12_127 + 1)), (11, .int v59), (10, .int x10_127), (9, .int x9_127), (8, .int x8_127), (7, .int x7_127), (6, .int x6_127), (0, .ref (mad g 0)), (1, .int x1_127), (2, .int x2_127), (3, .int x3_127), (4, .int x4_127), (5, .int x5_127)]) hx hb d_Mod_minor_156 hl (k := 1) rfl rfl (by decide) rfl (fun ls hl => ?_)
                                refine lv_goto (tgt := 127) hx hb d_Mod_minor_159 (by decide) ?_
                                exact ih127 (x12_127 + 1) v59 x10_127 x9_127 x8_127 x7_127 x6_127 x1_127 x2_127 x3_127 x4_127 x5_127 _ _ _ _ h hI (lv_sub hl [0, 1, 2, 3, 4, 5, 6, 7, 8, 9, 10, 11, 12] rfl)
                          exact L127 N x3_70 x5_70 v38 (β70.1 30) x8_70 x7_70 x6_70 x1_70 x2_70 x3_70 x4_70 x5_70 _ _ _ _ h hI (lv_sub hl [0, 1, 2, 3, 4, 5, 6, 7, 8, 9, 10, 11, 12] rfl)
                    · replace h := Eq.trans (if_pos c33).symm h
                      refine lv_goto (tgt := 223) hx hb d_Mod_minor_90 (by decide) ?_
                      refine lv_iinc (v := (x8_70 + 1)) (lv' := [(8, .int (x8_70 + 1)), (7, .int x7_70), (6, .int x6_70), (0, .ref (mad g 0)), (1, .int x1_70), (2, .int x2_70), (3, .int x3_70), (4, .int x4_70), (5, .int x5_70)]) hx hb d_Mod_minor_223 hl (k := 0) rfl rfl (by decide) rfl (fun ls hl => ?_)
                      refine lv_goto (tgt := 70) hx hb d_Mod_minor_226 (by decide) ?_
                      exact ih70 (x8_70 + 1) x7_70 x6_70 x1_70 x2_70 x3_70 x4_70 x5_70 _ _ _ _ h hI (lv_sub hl [0, 1, 2, 3, 4, 5, 6, 7, 8] rfl)
            exact L70 N 0 x7_28 x6_28 x1_28 x2_28 x3_28 x4_28 x5_28 _ _ _ _ h hI (lv_sub hl [0, 1, 2, 3, 4, 5, 6, 7, 8] rfl)
          · replace h := Eq.trans (if_neg c3).symm h
            refine lv_aload_n hx hb d_Mod_minor_35 rfl (lv_at hl 3 rfl) ?_
            refine mf_list S E hI vt_1340 d_Mod_minor_36 ?_
            refine lv_aload_n hx hb d_Mod_minor_39 rfl (lv_at hl 3 rfl) ?_
            refine lv_dup hx hb d_Mod_minor_40 rfl ?_
            refine mf_listed S E hI vt_1341 d_Mod_minor_41 ?_
            refine lv_dup_x1 hx hb d_Mod_minor_44 rfl rfl ?_
            refine lv_iconst (v := 1) hx hb d_Mod_minor_45 (by decide) ?_
            refine lv_iadd hx hb d_Mod_minor_46 ?_
            refine mp_listed S E hI vt_1341 d_Mod_minor_47 (fun H locs hI => ?_)
            refine lv_aload_n hx hb d_Mod_minor_50 rfl (lv_at hl 3 rfl) ?_
            refine mf_argument S E hI vt_1336 d_Mod_minor_51 ?_
            refine lv_iload hx hb d_Mod_minor_54 (lv_at hl 2 rfl) ?_
            refine lv_iload hx hb d_Mod_minor_56 (lv_at hl 0 rfl) ?_
            refine lv_iadd hx hb d_Mod_minor_58 ?_
            by_cases c60 : (x6_28 + x8_28) < 0 ∨ 4000 ≤ ((x6_28 + x8_28) : Int32).toNatClampNeg
            · replace h := Eq.trans (if_pos c60).symm h
              cases h
            · replace h := Eq.trans (if_neg c60).symm h
              refine ml_argument S E hI c60 d_Mod_minor_59 ?_
              by_cases c61 : (β28.1 30) < 0 ∨ 9000 ≤ ((β28.1 30) : Int32).toNatClampNeg
              · replace h := Eq.trans (if_pos c61).symm h
                cases h
              · replace h := Eq.trans (if_neg c61).symm h
                refine ms_list S E hI c61 d_Mod_minor_60 (fun H locs hI => ?_)
                refine lv_iinc (v := (x8_28 + 1)) (lv' := [(8, .int (x8_28 + 1)), (7, .int x7_28), (6, .int x6_28), (0, .ref (mad g 0)), (1, .int x1_28), (2, .int x2_28), (3, .int x3_28), (4, .int x4_28), (5, .int x5_28)]) hx hb d_Mod_minor_61 hl (k := 0) rfl rfl (by decide) rfl (fun ls hl => ?_)
                refine lv_goto (tgt := 28) hx hb d_Mod_minor_64 (by decide) ?_
                exact ih28 (x8_28 + 1) x7_28 x6_28 x1_28 x2_28 x3_28 x4_28 x5_28 _ _ _ _ h hI (lv_sub hl [0, 1, 2, 3, 4, 5, 6, 7, 8] rfl)
      exact L28 N 0 ((mSi α 30 0).2 18 (((a1 + 1) + a2) : Int32).toNatClampNeg) ((mSi α 30 0).2 36 (a2 : Int32).toNatClampNeg) a1 a2 a3 a4 a5 _ _ _ _ h hI (lv_sub hl [0, 1, 2, 3, 4, 5, 6, 7, 8] rfl)
