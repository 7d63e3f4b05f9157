def hk_bound (l : Launch) (g : mG) (kk : (Int32 → Int32 → mS → Option Int32)) (fr lo : Nat) : Prop := (∀ (a1 : Int32) (a2 : Int32)  (α : mS) (x : Int32), kk a1 a2 α = some x → mV l g y_Mod_bound b_Mod_bound 4 (some .boolean) fr lo [.ref (mad g 0), .int a1, .int a2] α x)
theorem kw_Mod_370 : kWv "FamilyKernelModel" 370 "FamilyKernelModel" y_Mod_bound b_Mod_bound 4 (some .boolean) 2 := ⟨vt_1737, vt_1738, vt_1739, vt_1349, vt_1740, by decide, by decide, by decide +kernel⟩
def f_Mod_bound_j100 (N : Nat)  (kk : (Int32 → Int32 → mS → Option Int32)) (y3 : Int32) (y2 : Int32) (α : mS) : Option Int32 := if y3 < 0 ∨ 400000 ≤ (y3 : Int32).toNatClampNeg then none else (((kk (α.2 3 (y3 : Int32).toNatClampNeg) y2 α)).bind fun v10 => (if v10 = 0 then (if y3 < 0 ∨ 400000 ≤ (y3 : Int32).toNatClampNeg then none else (((kk (α.2 4 (y3 : Int32).toNatClampNeg) (y2 + 1) α)).bind fun v14 => (if v14 = 0 then (some 0) else (some 1)))) else (some 1)))
def f_Mod_bound_2 (N : Nat)  (kk : (Int32 → Int32 → mS → Option Int32)) (α : mS) : Nat → Int32 → Int32 → Option Int32
  | 0, _, _ => none
  | n + 1, x3_2, x2_2 => if x3_2 < 0 ∨ 400000 ≤ (x3_2 : Int32).toNatClampNeg then none else (if (α.2 2 (x3_2 : Int32).toNatClampNeg) = 8 then (if x3_2 < 0 ∨ 400000 ≤ (x3_2 : Int32).toNatClampNeg then none else (((kk (α.2 4 (x3_2 : Int32).toNatClampNeg) x2_2 α)).bind fun v33 => (if v33 = 0 then (if x3_2 < 0 ∨ 400000 ≤ (x3_2 : Int32).toNatClampNeg then none else (f_Mod_bound_2 N kk α n (α.2 3 (x3_2 : Int32).toNatClampNeg) x2_2)) else (some 1)))) else (if x3_2 < 0 ∨ 400000 ≤ (x3_2 : Int32).toNatClampNeg then none else (if (α.2 2 (x3_2 : Int32).toNatClampNeg) = 4 then (if x3_2 < 0 ∨ 400000 ≤ (x3_2 : Int32).toNatClampNeg then none else (if (α.2 3 (x3_2 : Int32).toNatClampNeg) = x2_2 then (some 1) else (some 0))) else (if (α.2 2 (x3_2 : Int32).toNatClampNeg) = 5 then (some 0) else (if (α.2 2 (x3_2 : Int32).toNatClampNeg) = 6 then (f_Mod_bound_j100 N kk x3_2 x2_2 α) else (if (α.2 2 (x3_2 : Int32).toNatClampNeg) = 7 then (f_Mod_bound_j100 N kk x3_2 x2_2 α) else (if (α.2 2 (x3_2 : Int32).toNatClampNeg) = 8 then (some 0) else (if (α.2 2 (x3_2 : Int32).toNatClampNeg) = 9 then (if x3_2 < 0 ∨ 400000 ≤ (x3_2 : Int32).toNatClampNeg then none else (((kk (α.2 3 (x3_2 : Int32).toNatClampNeg) x2_2 α)).bind fun v21 => (if v21 = 0 then (if x3_2 < 0 ∨ 400000 ≤ (x3_2 : Int32).toNatClampNeg then none else (((kk (α.2 4 (x3_2 : Int32).toNatClampNeg) x2_2 α)).bind fun v25 => (if v25 = 0 then (if x3_2 < 0 ∨ 400000 ≤ (x3_2 : Int32).toNatClampNeg then none else (((kk (α.2 5 (x3_2 : Int32).toNatClampNeg) (x2_2 + 1) α)).bind fun v29 => (if v29 = 0 then (some 0) else (some 1)))) else (some 1)))) else (some 1)))) else (some 0)))))))))
def f_Mod_bound (N : Nat) (kk : (Int32 → Int32 → mS → Option Int32)) (a1 : Int32) (a2 : Int32) (α : mS) : Option Int32 := f_Mod_bound_2 N kk α N a1 a2
set_option maxHeartbeats 4000000 in
set_option maxRecDepth 100000 in
theorem k_Mod_bound {l : Launch} {g : mG} {α : mS} (N : Nat) (kk : (Int32 → Int32 → mS → Option Int32)) (d : Nat) (hk : hk_bound l g kk (1 + d) (1 + 23 * d)) (a1 : Int32) (a2 : Int32)  : ∀ x, f_Mod_bound N kk a1 a2 α = some x → mV l g y_Mod_bound b_Mod_bound 4 (some .boolean) (1 + (d + 1)) (1 + 23 * (d + 1)) [.ref (mad g 0), .int a1, .int a2] α x := by
  intro x h
  unfold f_Mod_bound at h
  refine mv_ofW (by decide) (fun A p e s m args below meth c S hr hlocks hargs E hI => ?_)
  have hx := S.1
  have hb := S.2.1
  have hown := S.2.2.2.1
  have hT := S.2.2.2.2
  subst hargs
  have hl := lv_entry ([.ref (mad g 0), .int a1, .int a2]) (n := 4) (Nat.le_of_ble_eq_true rfl)
  rw [lg_entry_eq]
  generalize (lg_sl ([.ref (mad g 0), .int a1, .int a2]) ++ List.replicate (4 - (lg_sl ([.ref (mad g 0), .int a1, .int a2])).length) Slot.unset).toArray = ls at hl ⊢
  have hl : lv_has ls 4 [(0, .ref (mad g 0)), (1, .int a1), (2, .int a2)] := hl
  refine lv_iload_n hx hb d_Mod_bound_0 rfl (lv_at hl 1 rfl) ?_
  refine lv_istore_n (lv' := [(3, .int a1), (0, .ref (mad g 0)), (1, .int a1), (2, .int a2)]) hx hb d_Mod_bound_1 rfl hl (by decide) rfl (fun ls hl => ?_)
  have L2 : ∀ (n2 : Nat) (x3_2 : Int32) (x2_2 : Int32) (ls : Array Slot), f_Mod_bound_2 N kk α n2 x3_2 x2_2 = some x → lv_has ls 4 [(3, .int x3_2), (0, .ref (mad g 0)), (2, .int x2_2)] → W p l e (mP (1 + (d + 1)) (1 + 23 * (d + 1))) s m ([.ref (mad g 0), .int a1, .int a2]).toArray below meth c s.heap [] 0 0 (MQ below (QcRead x) ([.ref (mad g 0), .int a1, .int a2]).toArray s 0 0 (fun _ => False)) (F0 m 2 ls []) := by
    intro n2
    induction n2 with
    | zero => intro x3_2 x2_2 ls h hl; rw [f_Mod_bound_2] at h; cases h
    | succ n2 ih2 =>
      intro x3_2 x2_2 ls h hl
      rw [f_Mod_bound_2] at h
      have J100 : ∀ (y3 : Int32) (y2 : Int32) (ls : Array Slot), f_Mod_bound_j100 N kk y3 y2 α = some x → lv_has ls 4 [(3, .int y3), (0, .ref (mad g 0)), (2, .int y2)] → W p l e (mP (1 + (d + 1)) (1 + 23 * (d + 1))) s m ([.ref (mad g 0), .int a1, .int a2]).toArray below meth c s.heap [] 0 0 (MQ below (QcRead x) ([.ref (mad g 0), .int a1, .int a2]).toArray s 0 0 (fun _ => False)) (F0 m 100 ls []) := by
        intro y3 y2 ls h hl
        unfold f_Mod_bound_j100 at h
        refine lv_aload_n hx hb d_Mod_bound_100 rfl (lv_at hl 1 rfl) ?_
        refine lv_aload_n hx hb d_Mod_bound_101 rfl (lv_at hl 1 rfl) ?_
        refine mf_one S E hI vt_1280 d_Mod_bound_102 ?_
        refine lv_iload_n hx hb d_Mod_bound_105 rfl (lv_at hl 0 rfl) ?_
        by_cases c9 : y3 < 0 ∨ 400000 ≤ (y3 : Int32).toNatClampNeg
        · replace h := Eq.trans (if_pos c9).symm h
          cases h
        · replace h := Eq.trans (if_neg c9).symm h
          refine ml_one S E hI c9 d_Mod_bound_106 ?_
          refine lv_iload_n hx hb d_Mod_bound_107 rfl (lv_at hl 2 rfl) ?_
          obtain ⟨v10, e11, h⟩ := Option.bind_eq_some_iff.mp h
          refine mg_p (As := [.int (α.2 3 (y3 : Int32).toNatClampNeg), .int y2]) (rest := []) ((hk (α.2 3 (y3 : Int32).toNatClampNeg) y2 α) _ e11) S E hI kw_Mod_370 (Or.inr rfl) ⟨by omega, by omega⟩ (mv_Mod E hI) rfl hl.1 rfl (Nat.le_of_ble_eq_true rfl) d_Mod_bound_108 rfl ?_
          refine lv_if_ne (tgt := 130) hx hb d_Mod_bound_111 (by decide) (fun c12 => ?_) (fun c12 => ?_)
          · replace h := Eq.trans (if_neg c12).symm h
            refine lv_iconst (v := 1) hx hb d_Mod_bound_130 (by decide) ?_
            refine lv_goto (tgt := 135) hx hb d_Mod_bound_131 (by decide) ?_
            exact kv_iret (w := 1) hx hb hr (by decide) hlocks (Option.some.inj h) d_Mod_bound_135
          · replace h := Eq.trans (if_pos c12).symm h
            refine lv_aload_n hx hb d_Mod_bound_114 rfl (lv_at hl 1 rfl) ?_
            refine lv_aload_n hx hb d_Mod_bound_115 rfl (lv_at hl 1 rfl) ?_
            refine mf_two S E hI vt_1281 d_Mod_bound_116 ?_
            refine lv_iload_n hx hb d_Mod_bound_119 rfl (lv_at hl 0 rfl) ?_
            by_cases c13 : y3 < 0 ∨ 400000 ≤ (y3 : Int32).toNatClampNeg
            · replace h := Eq.trans (if_pos c13).symm h
              cases h
            · replace h := Eq.trans (if_neg c13).symm h
              refine ml_two S E hI c13 d_Mod_bound_120 ?_
              refine lv_iload_n hx hb d_Mod_bound_121 rfl (lv_at hl 2 rfl) ?_
              refine lv_iconst (v := 1) hx hb d_Mod_bound_122 (by decide) ?_
              refine lv_iadd hx hb d_Mod_bound_123 ?_
              obtain ⟨v14, e15, h⟩ := Option.bind_eq_some_iff.mp h
              refine mg_p (As := [.int (α.2 4 (y3 : Int32).toNatClampNeg), .int (y2 + 1)]) (rest := []) ((hk (α.2 4 (y3 : Int32).toNatClampNeg) (y2 + 1) α) _ e15) S E hI kw_Mod_370 (Or.inr rfl) ⟨by omega, by omega⟩ (mv_Mod E hI) rfl hl.1 rfl (Nat.le_of_ble_eq_true rfl) d_Mod_bound_124 rfl ?_
              refine lv_if_eq (tgt := 134) hx hb d_Mod_bound_127 (by decide) (fun c16 => ?_) (fun c16 => ?_)
              · replace h := Eq.trans (if_pos c16).symm h
                refine lv_iconst (v := 0) hx hb d_Mod_bound_134 (by decide) ?_
                exact kv_iret (w := 0) hx hb hr (by decide) hlocks (Option.some.inj h) d_Mod_bound_135
              · replace h := Eq.trans (if_neg c16).symm h
                refine lv_iconst (v := 1) hx hb d_Mod_bound_130 (by decide) ?_
                refine lv_goto (tgt := 135) hx hb d_Mod_bound_131 (by decide) ?_
                exact kv_iret (w := 1) hx hb hr (by decide) hlocks (Option.some.inj h) d_Mod_bound_135
      refine lv_aload_n hx hb d_Mod_bound_2 rfl (lv_at hl 1 rfl) ?_
      refine mf_kind S E hI vt_1279 d_Mod_bound_3 ?_
      refine lv_iload_n hx hb d_Mod_bound_6 rfl (lv_at hl 0 rfl) ?_
      by_cases c1 : x3_2 < 0 ∨ 400000 ≤ (x3_2 : Int32).toNatClampNeg
      · replace h := Eq.trans (if_pos c1).symm h
        cases h
      · replace h := Eq.trans (if_neg c1).symm h
        refine ml_kind S E hI c1 d_Mod_bound_7 ?_
        refine lv_bipush (v := 8) hx hb d_Mod_bound_8 (by decide) ?_
        refine lv_icmp_ne (tgt := 39) hx hb d_Mod_bound_10 (by decide) (fun c2 => ?_) (fun c2 => ?_)
        · replace h := Eq.trans (if_neg c2).symm h
          refine lv_aload_n hx hb d_Mod_bound_39 rfl (lv_at hl 1 rfl) ?_
          refine mf_kind S E hI vt_1279 d_Mod_bound_40 ?_
          refine lv_iload_n hx hb d_Mod_bound_43 rfl (lv_at hl 0 rfl) ?_
          by_cases c3 : x3_2 < 0 ∨ 400000 ≤ (x3_2 : Int32).toNatClampNeg
          · replace h := Eq.trans (if_pos c3).symm h
            cases h
          · replace h := Eq.trans (if_neg c3).symm h
            refine ml_kind S E hI c3 d_Mod_bound_44 ?_
            by_cases c4 : (α.2 2 (x3_2 : Int32).toNatClampNeg) = 4
            · replace h := Eq.trans (if_pos c4).symm h
              refine lv_tableIn (off := 39) (tgt := 84) hx hb d_Mod_bound_45 (by rw [c4]; decide) (by rw [c4]; decide) (by rw [c4]; rfl) (by decide) ?_
              refine lv_aload_n hx hb d_Mod_bound_84 rfl (lv_at hl 1 rfl) ?_
              refine mf_one S E hI vt_1280 d_Mod_bound_85 ?_
              refine lv_iload_n hx hb d_Mod_bound_88 rfl (lv_at hl 0 rfl) ?_
              by_cases c5 : x3_2 < 0 ∨ 400000 ≤ (x3_2 : Int32).toNatClampNeg
              · replace h := Eq.trans (if_pos c5).symm h
                cases h
              · replace h := Eq.trans (if_neg c5).symm h
                refine ml_one S E hI c5 d_Mod_bound_89 ?_
                refine lv_iload_n hx hb d_Mod_bound_90 rfl (lv_at hl 2 rfl) ?_
                refine lv_icmp_ne (tgt := 98) hx hb d_Mod_bound_91 (by decide) (fun c6 => ?_) (fun c6 => ?_)
                · replace h := Eq.trans (if_neg c6).symm h
                  refine lv_iconst (v := 0) hx hb d_Mod_bound_98 (by decide) ?_
                  exact kv_iret (w := 0) hx hb hr (by decide) hlocks (Option.some.inj h) d_Mod_bound_99
                · replace h := Eq.trans (if_pos c6).symm h
                  refine lv_iconst (v := 1) hx hb d_Mod_bound_94 (by decide) ?_
                  refine lv_goto (tgt := 99) hx hb d_Mod_bound_95 (by decide) ?_
                  exact kv_iret (w := 1) hx hb hr (by decide) hlocks (Option.some.inj h) d_Mod_bound_99
            · replace h := Eq.trans (if_neg c4).symm h
              have nc4 := ksw (z := 4) rfl c4
              by_cases c7 : (α.2 2 (x3_2 : Int32).toNatClampNeg) = 5
              · replace h := Eq.trans (if_pos c7).symm h
                refine lv_tableIn (off := 141) (tgt := 186) hx hb d_Mod_bound_45 (by rw [c7]; decide) (by rw [c7]; decide) (by rw [c7]; rfl) (by decide) ?_
                refine lv_iconst (v := 0) hx hb d_Mod_bound_186 (by decide) ?_
                exact kv_iret (w := 0) hx hb hr (by decide) hlocks (Option.some.inj h) d_Mod_bound_187
              · replace h := Eq.trans (if_neg c7).symm h
                have nc7 := ksw (z := 5) rfl c7
                by_cases c8 : (α.2 2 (x3_2 : Int32).toNatClampNeg) = 6
                · replace h := Eq.trans (if_pos c8).symm h
                  refine lv_tableIn (off := 55) (tgt := 100) hx hb d_Mod_bound_45 (by rw [c8]; decide) (by rw [c8]; decide) (by rw [c8]; rfl) (by decide) ?_
                  exact J100 x3_2 x2_2 _ h (lv_sub hl [0, 1, 2] rfl)
                · replace h := Eq.trans (if_neg c8).symm h
                  have nc8 := ksw (z := 6) rfl c8
                  by_cases c17 : (α.2 2 (x3_2 : Int32).toNatClampNeg) = 7
                  · replace h := Eq.trans (if_pos c17).symm h
                    refine lv_tableIn (off := 55) (tgt := 100) hx hb d_Mod_bound_45 (by rw [c17]; decide) (by rw [c17]; decide) (by rw [c17]; rfl) (by decide) ?_
                    exact J100 x3_2 x2_2 _ h (lv_sub hl [0, 1, 2] rfl)
                  · replace h := Eq.trans (if_neg c17).symm h
                    have nc17 := ksw (z := 7) rfl c17
                    by_cases c18 : (α.2 2 (x3_2 : Int32).toNatClampNeg) = 8
                    · replace h := Eq.trans (if_pos c18).symm h
                      refine lv_tableIn (off := 141) (tgt := 186) hx hb d_Mod_bound_45 (by rw [c18]; decide) (by rw [c18]; decide) (by rw [c18]; rfl) (by decide) ?_
                      refine lv_iconst (v := 0) hx hb d_Mod_bound_186 (by decide) ?_
                      exact kv_iret (w := 0) hx hb hr (by decide) hlocks (Option.some.inj h) d_Mod_bound_187
                    · replace h := Eq.trans (if_neg c18).symm h
                      have nc18 := ksw (z := 8) rfl c18
                      by_cases c19 : (α.2 2 (x3_2 : Int32).toNatClampNeg) = 9
                      · replace h := Eq.trans (if_pos c19).symm h
                        refine lv_tableIn (off := 91) (tgt := 136) hx hb d_Mod_bound_45 (by rw [c19]; decide) (by rw [c19]; decide) (by rw [c19]; rfl) (by decide) ?_
                        refine lv_aload_n hx hb d_Mod_bound_136 rfl (lv_at hl 1 rfl) ?_
                        refine lv_aload_n hx hb d_Mod_bound_137 rfl (lv_at hl 1 rfl) ?_
                        refine mf_one S E hI vt_1280 d_Mod_bound_138 ?_
                        refine lv_iload_n hx hb d_Mod_bound_141 rfl (lv_at hl 0 rfl) ?_
                        by_cases c20 : x3_2 < 0 ∨ 400000 ≤ (x3_2 : Int32).toNatClampNeg
                        · replace h := Eq.trans (if_pos c20).symm h
                          cases h
                        · replace h := Eq.trans (if_neg c20).symm h
                          refine ml_one S E hI c20 d_Mod_bound_142 ?_
                          refine lv_iload_n hx hb d_Mod_bound_143 rfl (lv_at hl 2 rfl) ?_
                          obtain ⟨v21, e22, h⟩ := Option.bind_eq_some_iff.mp h
                          refine mg_p (As := [.int (α.2 3 (x3_2 : Int32).toNatClampNeg), .int x2_2]) (rest := []) ((hk (α.2 3 (x3_2 : Int32).toNatClampNeg) x2_2 α) _ e22) S E hI kw_Mod_370 (Or.inr rfl) ⟨by omega, by omega⟩ (mv_Mod E hI) rfl hl.1 rfl (Nat.le_of_ble_eq_true rfl) d_Mod_bound_144 rfl ?_
                          refine lv_if_ne (tgt := 180) hx hb d_Mod_bound_147 (by decide) (fun c23 => ?_) (fun c23 => ?_)
                          · replace h := Eq.trans (if_neg c23).symm h
                            refine lv_iconst (v := 1) hx hb d_Mod_bound_180 (by decide) ?_
                            refine lv_goto (tgt := 185) hx hb d_Mod_bound_181 (by decide) ?_
                            exact kv_iret (w := 1) hx hb hr (by decide) hlocks (Option.some.inj h) d_Mod_bound_185
                          · replace h := Eq.trans (if_pos c23).symm h
                            refine lv_aload_n hx hb d_Mod_bound_150 rfl (lv_at hl 1 rfl) ?_
                            refine lv_aload_n hx hb d_Mod_bound_151 rfl (lv_at hl 1 rfl) ?_
                            refine mf_two S E hI vt_1281 d_Mod_bound_152 ?_
                            refine lv_iload_n hx hb d_Mod_bound_155 rfl (lv_at hl 0 rfl) ?_
                            by_cases c24 : x3_2 < 0 ∨ 400000 ≤ (x3_2 : Int32).toNatClampNeg
                            · replace h := Eq.trans (if_pos c24).symm h
                              cases h
                            · replace h := Eq.trans (if_neg c24).symm h
                              refine ml_two S E hI c24 d_Mod_bound_156 ?_
                              refine lv_iload_n hx hb d_Mod_bound_157 rfl (lv_at hl 2 rfl) ?_
                              obtain ⟨v25, e26, h⟩ := Option.bind_eq_some_iff.mp h
                              refine mg_p (As := [.int (α.2 4 (x3_2 : Int32).toNatClampNeg), .int x2_2]) (rest := []) ((hk (α.2 4 (x3_2 : Int32).toNatClampNeg) x2_2 α) _ e26) S E hI kw_Mod_370 (Or.inr rfl) ⟨by omega, by omega⟩ (mv_Mod E hI) rfl hl.1 rfl (Nat.le_of_ble_eq_true rfl) d_Mod_bound_158 rfl ?_
                              refine lv_if_ne (tgt := 180) hx hb d_Mod_bound_161 (by decide) (fun c27 => ?_) (fun c27 => ?_)
                              · replace h := Eq.trans (if_neg c27).symm h
                                refine lv_iconst (v := 1) hx hb d_Mod_bound_180 (by decide) ?_
                                refine lv_goto (tgt := 185) hx hb d_Mod_bound_181 (by decide) ?_
                                exact kv_iret (w := 1) hx hb hr (by decide) hlocks (Option.some.inj h) d_Mod_bound_185
                              · replace h := Eq.trans (if_pos c27).symm h
                                refine lv_aload_n hx hb d_Mod_bound_164 rfl (lv_at hl 1 rfl) ?_
                                refine lv_aload_n hx hb d_Mod_bound_165 rfl (lv_at hl 1 rfl) ?_
                                refine mf_three S E hI vt_1282 d_Mod_bound_166 ?_
                                refine lv_iload_n hx hb d_Mod_bound_169 rfl (lv_at hl 0 rfl) ?_
                                by_cases c28 : x3_2 < 0 ∨ 400000 ≤ (x3_2 : Int32).toNatClampNeg
                                · replace h := Eq.trans (if_pos c28).symm h
                                  cases h
                                · replace h := Eq.trans (if_neg c28).symm h
                                  refine ml_three S E hI c28 d_Mod_bound_170 ?_
                                  refine lv_iload_n hx hb d_Mod_bound_171 rfl (lv_at hl 2 rfl) ?_
                                  refine lv_iconst (v := 1) hx hb d_Mod_bound_172 (by decide) ?_
                                  refine lv_iadd hx hb d_Mod_bound_173 ?_
                                  obtain ⟨v29, e30, h⟩ := Option.bind_eq_some_iff.mp h
                                  refine mg_p (As := [.int (α.2 5 (x3_2 : Int32).toNatClampNeg), .int (x2_2 + 1)]) (rest := []) ((hk (α.2 5 (x3_2 : Int32).toNatClampNeg) (x2_2 + 1) α) _ e30) S E hI kw_Mod_370 (Or.inr rfl) ⟨by omega, by omega⟩ (mv_Mod E hI) rfl hl.1 rfl (Nat.le_of_ble_eq_true rfl) d_Mod_bound_174 rfl ?_
                                  refine lv_if_eq (tgt := 184) hx hb d_Mod_bound_177 (by decide) (fun c31 => ?_) (fun c31 => ?_)
                                  · replace h := Eq.trans (if_pos c31).symm h
                                    refine lv_iconst (v := 0) hx hb d_Mod_bound_184 (by decide) ?_
                                    exact kv_iret (w := 0) hx hb hr (by decide) hlocks (Option.some.inj h) d_Mod_bound_185
                                  · replace h := Eq.trans (if_neg c31).symm h
                                    refine lv_iconst (v := 1) hx hb d_Mod_bound_180 (by decide) ?_
                                    refine lv_goto (tgt := 185) hx hb d_Mod_bound_181 (by decide) ?_
                                    exact kv_iret (w := 1) hx hb hr (by decide) hlocks (Option.some.inj h) d_Mod_bound_185
                      · replace h := Eq.trans (if_neg c19).symm h
                        have nc19 := ksw (z := 9) rfl c19
                        refine lv_tableOut (tgt := 186) hx hb d_Mod_bound_45 (by omega) (by decide) ?_
                        refine lv_iconst (v := 0) hx hb d_Mod_bound_186 (by decide) ?_
                        exact kv_iret (w := 0) hx hb hr (by decide) hlocks (Option.some.inj h) d_Mod_bound_187
        · replace h := Eq.trans (if_pos c2).symm h
          refine lv_aload_n hx hb d_Mod_bound_13 rfl (lv_at hl 1 rfl) ?_
          refine lv_aload_n hx hb d_Mod_bound_14 rfl (lv_at hl 1 rfl) ?_
          refine mf_two S E hI vt_1281 d_Mod_bound_15 ?_
          refine lv_iload_n hx hb d_Mod_bound_18 rfl (lv_at hl 0 rfl) ?_
          by_cases c32 : x3_2 < 0 ∨ 400000 ≤ (x3_2 : Int32).toNatClampNeg
          · replace h := Eq.trans (if_pos c32).symm h
            cases h
          · replace h := Eq.trans (if_neg c32).symm h
            refine ml_two S E hI c32 d_Mod_bound_19 ?_
            refine lv_iload_n hx hb d_Mod_bound_20 rfl (lv_at hl 2 rfl) ?_
            obtain ⟨v33, e34, h⟩ := Option.bind_eq_some_iff.mp h
            refine mg_p (As := [.int (α.2 4 (x3_2 : Int32).toNatClampNeg), .int x2_2]) (rest := []) ((hk (α.2 4 (x3_2 : Int32).toNatClampNeg) x2_2 α) _ e34) S E hI kw_Mod_370 (Or.inr rfl) ⟨by omega, by omega⟩ (mv_Mod E hI) rfl hl.1 rfl (Nat.le_of_ble_eq_true rfl) d_Mod_bound_21 rfl ?_
            refine lv_if_eq (tgt := 29) hx hb d_Mod_bound_24 (by decide) (fun c35 => ?_) (fun c35 => ?_)
            · replace h := Eq.trans (if_pos c35).symm h
              refine lv_aload_n hx hb d_Mod_bound_29 rfl (lv_at hl 1 rfl) ?_
              refine mf_one S E hI vt_1280 d_Mod_bound_30 ?_
              refine lv_iload_n hx hb d_Mod_bound_33 rfl (lv_at hl 0 rfl) ?_
              by_cases c36 : x3_2 < 0 ∨ 400000 ≤ (x3_2 : Int32).toNatClampNeg
              · replace h := Eq.trans (if_pos c36).symm h
                cases h
              · replace h := Eq.trans (if_neg c36).symm h
                refine ml_one S E hI c36 d_Mod_bound_34 ?_
                refine lv_istore_n (lv' := [(3, .int (α.2 3 (x3_2 : Int32).toNatClampNeg)), (0, .ref (mad g 0)), (2, .int x2_2)]) hx hb d_Mod_bound_35 rfl hl (by decide) rfl (fun ls hl => ?_)
                refine lv_goto (tgt := 2) hx hb d_Mod_bound_36 (by decide) ?_
                exact ih2 (α.2 3 (x3_2 : Int32).toNatClampNeg) x2_2 _ h (lv_sub hl [0, 1, 2] rfl)
            · replace h := Eq.trans (if_neg c35).symm h
              refine lv_iconst (v := 1) hx hb d_Mod_bound_27 (by decide) ?_
              exact kv_iret (w := 1) hx hb hr (by decide) hlocks (Option.some.inj h) d_Mod_bound_28
  exact L2 N a1 a2 _ h (lv_sub hl [0, 1, 3] rfl)
def G_bound (N : Nat) : Nat → (Int32 → Int32 → mS → Option Int32)
  | 0 => (fun _ _ _ => none)
  | d + 1 => (f_Mod_bound N (G_bound N d))
theorem ok_bound {l : Launch} {g : mG} (N : Nat) : ∀ d, hk_bound l g (G_bound N d) (1 + d) (1 + 23 * d)
  | 0 => (fun a1 a2  α x h => by cases h)
  | d + 1 => by
    have ih := ok_bound (l := l) (g := g) N d
    exact (fun a1 a2  α x h => k_Mod_bound (α := α) N _ d ih a1 a2  x h)
def dp_bound : Nat := 260
