def hk_has (l : Launch) (g : mG) (kk : (Int32 → Int32 → mS → Option Int32)) (fr lo : Nat) : Prop := (∀ (a1 : Int32) (a2 : Int32)  (α : mS) (x : Int32), kk a1 a2 α = some x → mV l g y_Mod_has b_Mod_has 4 (some .boolean) fr lo [.ref (mad g 0), .int a1, .int a2] α x)
theorem kw_Mod_367 : kWv "FamilyKernelModel" 367 "FamilyKernelModel" y_Mod_has b_Mod_has 4 (some .boolean) 2 := ⟨vt_1660, vt_1661, vt_1662, vt_1349, vt_1663, by decide, by decide, by decide +kernel⟩
def f_Mod_has_j112 (N : Nat)  (kk : (Int32 → Int32 → mS → Option Int32)) (y3 : Int32) (y2 : Int32) (α : mS) : Option Int32 := if y3 < 0 ∨ 400000 ≤ (y3 : Int32).toNatClampNeg then none else (((kk (α.2 3 (y3 : Int32).toNatClampNeg) y2 α)).bind fun v13 => (if v13 = 0 then (if y3 < 0 ∨ 400000 ≤ (y3 : Int32).toNatClampNeg then none else (((kk (α.2 4 (y3 : Int32).toNatClampNeg) y2 α)).bind fun v17 => (if v17 = 0 then (some 0) else (some 1)))) else (some 1)))
def f_Mod_has_2 (N : Nat)  (kk : (Int32 → Int32 → mS → Option Int32)) (α : mS) : Nat → Int32 → Int32 → Option Int32
  | 0, _, _ => none
  | n + 1, x3_2, x2_2 => if x3_2 < 0 ∨ 400000 ≤ (x3_2 : Int32).toNatClampNeg then none else (if (α.2 2 (x3_2 : Int32).toNatClampNeg) = 8 then (if x3_2 < 0 ∨ 400000 ≤ (x3_2 : Int32).toNatClampNeg then none else (((kk (α.2 4 (x3_2 : Int32).toNatClampNeg) x2_2 α)).bind fun v36 => (if v36 = 0 then (if x3_2 < 0 ∨ 400000 ≤ (x3_2 : Int32).toNatClampNeg then none else (f_Mod_has_2 N kk α n (α.2 3 (x3_2 : Int32).toNatClampNeg) x2_2)) else (some 1)))) else (if x3_2 < 0 ∨ 400000 ≤ (x3_2 : Int32).toNatClampNeg then none else (if (α.2 2 (x3_2 : Int32).toNatClampNeg) = 1 then (if x3_2 < 0 ∨ 400000 ≤ (x3_2 : Int32).toNatClampNeg then none else (if (α.2 3 (x3_2 : Int32).toNatClampNeg) = x2_2 then (some 1) else (some 0))) else (if (α.2 2 (x3_2 : Int32).toNatClampNeg) = 2 then (some 0) else (if (α.2 2 (x3_2 : Int32).toNatClampNeg) = 3 then (some 0) else (if (α.2 2 (x3_2 : Int32).toNatClampNeg) = 4 then (some 0) else (if (α.2 2 (x3_2 : Int32).toNatClampNeg) = 5 then (some 0) else (if (α.2 2 (x3_2 : Int32).toNatClampNeg) = 6 then (f_Mod_has_j112 N kk x3_2 x2_2 α) else (if (α.2 2 (x3_2 : Int32).toNatClampNeg) = 7 then (f_Mod_has_j112 N kk x3_2 x2_2 α) else (if (α.2 2 (x3_2 : Int32).toNatClampNeg) = 8 then (some 0) else (if (α.2 2 (x3_2 : Int32).toNatClampNeg) = 9 then (if x3_2 < 0 ∨ 400000 ≤ (x3_2 : Int32).toNatClampNeg then none else (((kk (α.2 3 (x3_2 : Int32).toNatClampNeg) x2_2 α)).bind fun v24 => (if v24 = 0 then (if x3_2 < 0 ∨ 400000 ≤ (x3_2 : Int32).toNatClampNeg then none else (((kk (α.2 4 (x3_2 : Int32).toNatClampNeg) x2_2 α)).bind fun v28 => (if v28 = 0 then (if x3_2 < 0 ∨ 400000 ≤ (x3_2 : Int32).toNatClampNeg then none else (((kk (α.2 5 (x3_2 : Int32).toNatClampNeg) x2_2 α)).bind fun v32 => (if v32 = 0 then (some 0) else (some 1)))) else (some 1)))) else (some 1)))) else (some 0))))))))))))
def f_Mod_has (N : Nat) (kk : (Int32 → Int32 → mS → Option Int32)) (a1 : Int32) (a2 : Int32) (α : mS) : Option Int32 := f_Mod_has_2 N kk α N a1 a2
set_option maxHeartbeats 4000000 in
set_option maxRecDepth 100000 in
theorem k_Mod_has {l : Launch} {g : mG} {α : mS} (N : Nat) (kk : (Int32 → Int32 → mS → Option Int32)) (d : Nat) (hk : hk_has l g kk (1 + d) (1 + 23 * d)) (a1 : Int32) (a2 : Int32)  : ∀ x, f_Mod_has N kk a1 a2 α = some x → mV l g y_Mod_has b_Mod_has 4 (some .boolean) (1 + (d + 1)) (1 + 23 * (d + 1)) [.ref (mad g 0), .int a1, .int a2] α x := by
  intro x h
  unfold f_Mod_has at h
  refine mv_ofW (by decide) (fun A p e s m args below meth c S hr hlocks hargs E hI => ?_)
  have hx := S.1
  have hb := S.2.1
  have hown := S.2.2.2.1
  have hT := S.2.2.2.2
  subst hargs
  have hl := lv_entry ([.ref (mad g 0), .int a1, .int a2]) (n := 4) (Nat.le_of_ble_eq_true rfl)
  rw [lg_entry_eq]
  generalize (lg_sl ([.ref (mad g 0), .int a1, .int a2]) ++ List.replicate (4 - (lg_sl ([.ref (mad g 0), .int a1, .int a2])).length) Slot.unset).toArray = ls at hl ⊢
  have hl : lv_has ls 4 [(0, .ref (mad g 0)), (1, .int a1), (2, .int a2)] := hl
  refine lv_iload_n hx hb d_Mod_has_0 rfl (lv_at hl 1 rfl) ?_
  refine lv_istore_n (lv' := [(3, .int a1), (0, .ref (mad g 0)), (1, .int a1), (2, .int a2)]) hx hb d_Mod_has_1 rfl hl (by decide) rfl (fun ls hl => ?_)
  have L2 : ∀ (n2 : Nat) (x3_2 : Int32) (x2_2 : Int32) (ls : Array Slot), f_Mod_has_2 N kk α n2 x3_2 x2_2 = some x → lv_has ls 4 [(3, .int x3_2), (0, .ref (mad g 0)), (2, .int x2_2)] → W p l e (mP (1 + (d + 1)) (1 + 23 * (d + 1))) s m ([.ref (mad g 0), .int a1, .int a2]).toArray below meth c s.heap [] 0 0 (MQ below (QcRead x) ([.ref (mad g 0), .int a1, .int a2]).toArray s 0 0 (fun _ => False)) (F0 m 2 ls []) := by
    intro n2
    induction n2 with
    | zero => intro x3_2 x2_2 ls h hl; rw [f_Mod_has_2] at h; cases h
    | succ n2 ih2 =>
      intro x3_2 x2_2 ls h hl
      rw [f_Mod_has_2] at h
      have J112 : ∀ (y3 : Int32) (y2 : Int32) (ls : Array Slot), f_Mod_has_j112 N kk y3 y2 α = some x → lv_has ls 4 [(3, .int y3), (0, .ref (mad g 0)), (2, .int y2)] → W p l e (mP (1 + (d + 1)) (1 + 23 * (d + 1))) s m ([.ref (mad g 0), .int a1, .int a2]).toArray below meth c s.heap [] 0 0 (MQ below (QcRead x) ([.ref (mad g 0), .int a1, .int a2]).toArray s 0 0 (fun _ => False)) (F0 m 112 ls []) := by
        intro y3 y2 ls h hl
        unfold f_Mod_has_j112 at h
        refine lv_aload_n hx hb d_Mod_has_112 rfl (lv_at hl 1 rfl) ?_
        refine lv_aload_n hx hb d_Mod_has_113 rfl (lv_at hl 1 rfl) ?_
        refine mf_one S E hI vt_1280 d_Mod_has_114 ?_
        refine lv_iload_n hx hb d_Mod_has_117 rfl (lv_at hl 0 rfl) ?_
        by_cases c12 : y3 < 0 ∨ 400000 ≤ (y3 : Int32).toNatClampNeg
        · replace h := Eq.trans (if_pos c12).symm h
          cases h
        · replace h := Eq.trans (if_neg c12).symm h
          refine ml_one S E hI c12 d_Mod_has_118 ?_
          refine lv_iload_n hx hb d_Mod_has_119 rfl (lv_at hl 2 rfl) ?_
          obtain ⟨v13, e14, h⟩ := Option.bind_eq_some_iff.mp h
          refine mg_p (As := [.int (α.2 3 (y3 : Int32).toNatClampNeg), .int y2]) (rest := []) ((hk (α.2 3 (y3 : Int32).toNatClampNeg) y2 α) _ e14) S E hI kw_Mod_367 (Or.inr rfl) ⟨by omega, by omega⟩ (mv_Mod E hI) rfl hl.1 rfl (Nat.le_of_ble_eq_true rfl) d_Mod_has_120 rfl ?_
          refine lv_if_ne (tgt := 140) hx hb d_Mod_has_123 (by decide) (fun c15 => ?_) (fun c15 => ?_)
          · replace h := Eq.trans (if_neg c15).symm h
            refine lv_iconst (v := 1) hx hb d_Mod_has_140 (by decide) ?_
            refine lv_goto (tgt := 145) hx hb d_Mod_has_141 (by decide) ?_
            exact kv_iret (w := 1) hx hb hr (by decide) hlocks (Option.some.inj h) d_Mod_has_145
          · replace h := Eq.trans (if_pos c15).symm h
            refine lv_aload_n hx hb d_Mod_has_126 rfl (lv_at hl 1 rfl) ?_
            refine lv_aload_n hx hb d_Mod_has_127 rfl (lv_at hl 1 rfl) ?_
            refine mf_two S E hI vt_1281 d_Mod_has_128 ?_
            refine lv_iload_n hx hb d_Mod_has_131 rfl (lv_at hl 0 rfl) ?_
            by_cases c16 : y3 < 0 ∨ 400000 ≤ (y3 : Int32).toNatClampNeg
            · replace h := Eq.trans (if_pos c16).symm h
              cases h
            · replace h := Eq.trans (if_neg c16).symm h
              refine ml_two S E hI c16 d_Mod_has_132 ?_
              refine lv_iload_n hx hb d_Mod_has_133 rfl (lv_at hl 2 rfl) ?_
              obtain ⟨v17, e18, h⟩ := Option.bind_eq_some_iff.mp h
              refine mg_p (As := [.int (α.2 4 (y3 : Int32).toNatClampNeg), .int y2]) (rest := []) ((hk (α.2 4 (y3 : Int32).toNatClampNeg) y2 α) _ e18) S E hI kw_Mod_367 (Or.inr rfl) ⟨by omega, by omega⟩ (mv_Mod E hI) rfl hl.1 rfl (Nat.le_of_ble_eq_true rfl) d_Mod_has_134 rfl ?_
              refine lv_if_eq (tgt := 144) hx hb d_Mod_has_137 (by decide) (fun c19 => ?_) (fun c19 => ?_)
              · replace h := Eq.trans (if_pos c19).symm h
                refine lv_iconst (v := 0) hx hb d_Mod_has_144 (by decide) ?_
                exact kv_iret (w := 0) hx hb hr (by decide) hlocks (Option.some.inj h) d_Mod_has_145
              · replace h := Eq.trans (if_neg c19).symm h
                refine lv_iconst (v := 1) hx hb d_Mod_has_140 (by decide) ?_
                refine lv_goto (tgt := 145) hx hb d_Mod_has_141 (by decide) ?_
                exact kv_iret (w := 1) hx hb hr (by decide) hlocks (Option.some.inj h) d_Mod_has_145
      refine lv_aload_n hx hb d_Mod_has_2 rfl (lv_at hl 1 rfl) ?_
      refine mf_kind S E hI vt_1279 d_Mod_has_3 ?_
      refine lv_iload_n hx hb d_Mod_has_6 rfl (lv_at hl 0 rfl) ?_
      by_cases c1 : x3_2 < 0 ∨ 400000 ≤ (x3_2 : Int32).toNatClampNeg
      · replace h := Eq.trans (if_pos c1).symm h
        cases h
      · replace h := Eq.trans (if_neg c1).symm h
        refine ml_kind S E hI c1 d_Mod_has_7 ?_
        refine lv_bipush (v := 8) hx hb d_Mod_has_8 (by decide) ?_
        refine lv_icmp_ne (tgt := 39) hx hb d_Mod_has_10 (by decide) (fun c2 => ?_) (fun c2 => ?_)
        · replace h := Eq.trans (if_neg c2).symm h
          refine lv_aload_n hx hb d_Mod_has_39 rfl (lv_at hl 1 rfl) ?_
          refine mf_kind S E hI vt_1279 d_Mod_has_40 ?_
          refine lv_iload_n hx hb d_Mod_has_43 rfl (lv_at hl 0 rfl) ?_
          by_cases c3 : x3_2 < 0 ∨ 400000 ≤ (x3_2 : Int32).toNatClampNeg
          · replace h := Eq.trans (if_pos c3).symm h
            cases h
          · replace h := Eq.trans (if_neg c3).symm h
            refine ml_kind S E hI c3 d_Mod_has_44 ?_
            by_cases c4 : (α.2 2 (x3_2 : Int32).toNatClampNeg) = 1
            · replace h := Eq.trans (if_pos c4).symm h
              refine lv_tableIn (off := 51) (tgt := 96) hx hb d_Mod_has_45 (by rw [c4]; decide) (by rw [c4]; decide) (by rw [c4]; rfl) (by decide) ?_
              refine lv_aload_n hx hb d_Mod_has_96 rfl (lv_at hl 1 rfl) ?_
              refine mf_one S E hI vt_1280 d_Mod_has_97 ?_
              refine lv_iload_n hx hb d_Mod_has_100 rfl (lv_at hl 0 rfl) ?_
              by_cases c5 : x3_2 < 0 ∨ 400000 ≤ (x3_2 : Int32).toNatClampNeg
              · replace h := Eq.trans (if_pos c5).symm h
                cases h
              · replace h := Eq.trans (if_neg c5).symm h
                refine ml_one S E hI c5 d_Mod_has_101 ?_
                refine lv_iload_n hx hb d_Mod_has_102 rfl (lv_at hl 2 rfl) ?_
                refine lv_icmp_ne (tgt := 110) hx hb d_Mod_has_103 (by decide) (fun c6 => ?_) (fun c6 => ?_)
                · replace h := Eq.trans (if_neg c6).symm h
                  refine lv_iconst (v := 0) hx hb d_Mod_has_110 (by decide) ?_
                  exact kv_iret (w := 0) hx hb hr (by decide) hlocks (Option.some.inj h) d_Mod_has_111
                · replace h := Eq.trans (if_pos c6).symm h
                  refine lv_iconst (v := 1) hx hb d_Mod_has_106 (by decide) ?_
                  refine lv_goto (tgt := 111) hx hb d_Mod_has_107 (by decide) ?_
                  exact kv_iret (w := 1) hx hb hr (by decide) hlocks (Option.some.inj h) d_Mod_has_111
            · replace h := Eq.trans (if_neg c4).symm h
              have nc4 := ksw (z := 1) rfl c4
              by_cases c7 : (α.2 2 (x3_2 : Int32).toNatClampNeg) = 2
              · replace h := Eq.trans (if_pos c7).symm h
                refine lv_tableIn (off := 149) (tgt := 194) hx hb d_Mod_has_45 (by rw [c7]; decide) (by rw [c7]; decide) (by rw [c7]; rfl) (by decide) ?_
                refine lv_iconst (v := 0) hx hb d_Mod_has_194 (by decide) ?_
                exact kv_iret (w := 0) hx hb hr (by decide) hlocks (Option.some.inj h) d_Mod_has_195
              · replace h := Eq.trans (if_neg c7).symm h
                have nc7 := ksw (z := 2) rfl c7
                by_cases c8 : (α.2 2 (x3_2 : Int32).toNatClampNeg) = 3
                · replace h := Eq.trans (if_pos c8).symm h
                  refine lv_tableIn (off := 149) (tgt := 194) hx hb d_Mod_has_45 (by rw [c8]; decide) (by rw [c8]; decide) (by rw [c8]; rfl) (by decide) ?_
                  refine lv_iconst (v := 0) hx hb d_Mod_has_194 (by decide) ?_
                  exact kv_iret (w := 0) hx hb hr (by decide) hlocks (Option.some.inj h) d_Mod_has_195
                · replace h := Eq.trans (if_neg c8).symm h
                  have nc8 := ksw (z := 3) rfl c8
                  by_cases c9 : (α.2 2 (x3_2 : Int32).toNatClampNeg) = 4
                  · replace h := Eq.trans (if_pos c9).symm h
                    refine lv_tableIn (off := 149) (tgt := 194) hx hb d_Mod_has_45 (by rw [c9]; decide) (by rw [c9]; decide) (by rw [c9]; rfl) (by decide) ?_
                    refine lv_iconst (v := 0) hx hb d_Mod_has_194 (by decide) ?_
                    exact kv_iret (w := 0) hx hb hr (by decide) hlocks (Option.some.inj h) d_Mod_has_195
                  · replace h := Eq.trans (if_neg c9).symm h
                    have nc9 := ksw (z := 4) rfl c9
                    by_cases c10 : (α.2 2 (x3_2 : Int32).toNatClampNeg) = 5
                    · replace h := Eq.trans (if_pos c10).symm h
                      refine lv_tableIn (off := 149) (tgt := 194) hx hb d_Mod_has_45 (by rw [c10]; decide) (by rw [c10]; decide) (by rw [c10]; rfl) (by decide) ?_
                      refine lv_iconst (v := 0) hx hb d_Mod_has_194 (by decide) ?_
                      exact kv_iret (w := 0) hx hb hr (by decide) hlocks (Option.some.inj h) d_Mod_has_195
                    · replace h := Eq.trans (if_neg c10).symm h
                      have nc10 := ksw (z := 5) rfl c10
                      by_cases c11 : (α.2 2 (x3_2 : Int32).toNatClampNeg) = 6
                      · replace h := Eq.trans (if_pos c11).symm h
                        refine lv_tableIn (off := 67) (tgt := 112) hx hb d_Mod_has_45 (by rw [c11]; decide) (by rw [c11]; decide) (by rw [c11]; rfl) (by decide) ?_
                        exact J112 x3_2 x2_2 _ h (lv_sub hl [0, 1, 2] rfl)
                      · replace h := Eq.trans (if_neg c11).symm h
                        have nc11 := ksw (z := 6) rfl c11
                        by_cases c20 : (α.2 2 (x3_2 : Int32).toNatClampNeg) = 7
                        · replace h := Eq.trans (if_pos c20).symm h
                          refine lv_tableIn (off := 67) (tgt := 112) hx hb d_Mod_has_45 (by rw [c20]; decide) (by rw [c20]; decide) (by rw [c20]; rfl) (by decide) ?_
                          exact J112 x3_2 x2_2 _ h (lv_sub hl [0, 1, 2] rfl)
                        · replace h := Eq.trans (if_neg c20).symm h
                          have nc20 := ksw (z := 7) rfl c20
                          by_cases c21 : (α.2 2 (x3_2 : Int32).toNatClampNeg) = 8
                          · replace h := Eq.trans (if_pos c21).symm h
                            refine lv_tableIn (off := 149) (tgt := 194) hx hb d_Mod_has_45 (by rw [c21]; decide) (by rw [c21]; decide) (by rw [c21]; rfl) (by decide) ?_
                            refine lv_iconst (v := 0) hx hb d_Mod_has_194 (by decide) ?_
                            exact kv_iret (w := 0) hx hb hr (by decide) hlocks (Option.some.inj h) d_Mod_has_195
                          · replace h := Eq.trans (if_neg c21).symm h
                            have nc21 := ksw (z := 8) rfl c21
                            by_cases c22 : (α.2 2 (x3_2 : Int32).toNatClampNeg) = 9
                            · replace h := Eq.trans (if_pos c22).symm h
                              refine lv_tableIn (off := 101) (tgt := 146) hx hb d_Mod_has_45 (by rw [c22]; decide) (by rw [c22]; decide) (by rw [c22]; rfl) (by decide) ?_
                              refine lv_aload_n hx hb d_Mod_has_146 rfl (lv_at hl 1 rfl) ?_
                              refine lv_aload_n hx hb d_Mod_has_147 rfl (lv_at hl 1 rfl) ?_
                              refine mf_one S E hI vt_1280 d_Mod_has_148 ?_
                              refine lv_iload_n hx hb d_Mod_has_151 rfl (lv_at hl 0 rfl) ?_
                              by_cases c23 : x3_2 < 0 ∨ 400000 ≤ (x3_2 : Int32).toNatClampNeg
                              · replace h := Eq.trans (if_pos c23).symm h
                                cases h
                              · replace h := Eq.trans (if_neg c23).symm h
                                refine ml_one S E hI c23 d_Mod_has_152 ?_
                                refine lv_iload_n hx hb d_Mod_has_153 rfl (lv_at hl 2 rfl) ?_
                                obtain ⟨v24, e25, h⟩ := Option.bind_eq_some_iff.mp h
                                refine mg_p (As := [.int (α.2 3 (x3_2 : Int32).toNatClampNeg), .int x2_2]) (rest := []) ((hk (α.2 3 (x3_2 : Int32).toNatClampNeg) x2_2 α) _ e25) S E hI kw_Mod_367 (Or.inr rfl) ⟨by omega, by omega⟩ (mv_Mod E hI) rfl hl.1 rfl (Nat.le_of_ble_eq_true rfl) d_Mod_has_154 rfl ?_
                                refine lv_if_ne (tgt := 188) hx hb d_Mod_has_157 (by decide) (fun c26 => ?_) (fun c26 => ?_)
                                · replace h := Eq.trans (if_neg c26).symm h
                                  refine lv_iconst (v := 1) hx hb d_Mod_has_188 (by decide) ?_
                                  refine lv_goto (tgt := 193) hx hb d_Mod_has_189 (by decide) ?_
                                  exact kv_iret (w := 1) hx hb hr (by decide) hlocks (Option.some.inj h) d_Mod_has_193
                                · replace h := Eq.trans (if_pos c26).symm h
                                  refine lv_aload_n hx hb d_Mod_has_160 rfl (lv_at hl 1 rfl) ?_
                                  refine lv_aload_n hx hb d_Mod_has_161 rfl (lv_at hl 1 rfl) ?_
                                  refine mf_two S E hI vt_1281 d_Mod_has_162 ?_
                                  refine lv_iload_n hx hb d_Mod_has_165 rfl (lv_at hl 0 rfl) ?_
                                  by_cases c27 : x3_2 < 0 ∨ 400000 ≤ (x3_2 : Int32).toNatClampNeg
                                  · replace h := Eq.trans (if_pos c27).symm h
                                    cases h
                                  · replace h := Eq.trans (if_neg c27).symm h
                                    refine ml_two S E hI c27 d_Mod_has_166 ?_
                                    refine lv_iload_n hx hb d_Mod_has_167 rfl (lv_at hl 2 rfl) ?_
                                    obtain ⟨v28, e29, h⟩ := Option.bind_eq_some_iff.mp h
                                    refine mg_p (As := [.int (α.2 4 (x3_2 : Int32).toNatClampNeg), .int x2_2]) (rest := []) ((hk (α.2 4 (x3_2 : Int32).toNatClampNeg) x2_2 α) _ e29) S E hI kw_Mod_367 (Or.inr rfl) ⟨by omega, by omega⟩ (mv_Mod E hI) rfl hl.1 rfl (Nat.le_of_ble_eq_true rfl) d_Mod_has_168 rfl ?_
                                    refine lv_if_ne (tgt := 188) hx hb d_Mod_has_171 (by decide) (fun c30 => ?_) (fun c30 => ?_)
                                    · replace h := Eq.trans (if_neg c30).symm h
                                      refine lv_iconst (v := 1) hx hb d_Mod_has_188 (by decide) ?_
                                      refine lv_goto (tgt := 193) hx hb d_Mod_has_189 (by decide) ?_
                                      exact kv_iret (w := 1) hx hb hr (by decide) hlocks (Option.some.inj h) d_Mod_has_193
                                    · replace h := Eq.trans (if_pos c30).symm h
                                      refine lv_aload_n hx hb d_Mod_has_174 rfl (lv_at hl 1 rfl) ?_
                                      refine lv_aload_n hx hb d_Mod_has_175 rfl (lv_at hl 1 rfl) ?_
                                      refine mf_three S E hI vt_1282 d_Mod_has_176 ?_
                                      refine lv_iload_n hx hb d_Mod_has_179 rfl (lv_at hl 0 rfl) ?_
                                      by_cases c31 : x3_2 < 0 ∨ 400000 ≤ (x3_2 : Int32).toNatClampNeg
                                      · replace h := Eq.trans (if_pos c31).symm h
                                        cases h
                                      · replace h := Eq.trans (if_neg c31).symm h
                                        refine ml_three S E hI c31 d_Mod_has_180 ?_
                                        refine lv_iload_n hx hb d_Mod_has_181 rfl (lv_at hl 2 rfl) ?_
                                        obtain ⟨v32, e33, h⟩ := Option.bind_eq_some_iff.mp h
                                        refine mg_p (As := [.int (α.2 5 (x3_2 : Int32).toNatClampNeg), .int x2_2]) (rest := []) ((hk (α.2 5 (x3_2 : Int32).toNatClampNeg) x2_2 α) _ e33) S E hI kw_Mod_367 (Or.inr rfl) ⟨by omega, by omega⟩ (mv_Mod E hI) rfl hl.1 rfl (Nat.le_of_ble_eq_true rfl) d_Mod_has_182 rfl ?_
                                        refine lv_if_eq (tgt := 192) hx hb d_Mod_has_185 (by decide) (fun c34 => ?_) (fun c34 => ?_)
                                        · replace h := Eq.trans (if_pos c34).symm h
                                          refine lv_iconst (v := 0) hx hb d_Mod_has_192 (by decide) ?_
                                          exact kv_iret (w := 0) hx hb hr (by decide) hlocks (Option.some.inj h) d_Mod_has_193
                                        · replace h := Eq.trans (if_neg c34).symm h
                                          refine lv_iconst (v := 1) hx hb d_Mod_has_188 (by decide) ?_
                                          refine lv_goto (tgt := 193) hx hb d_Mod_has_189 (by decide) ?_
                                          exact kv_iret (w := 1) hx hb hr (by decide) hlocks (Option.some.inj h) d_Mod_has_193
                            · replace h := Eq.trans (if_neg c22).symm h
                              have nc22 := ksw (z := 9) rfl c22
                              refine lv_tableOut (tgt := 194) hx hb d_Mod_has_45 (by omega) (by decide) ?_
                              refine lv_iconst (v := 0) hx hb d_Mod_has_194 (by decide) ?_
                              exact kv_iret (w := 0) hx hb hr (by decide) hlocks (Option.some.inj h) d_Mod_has_195
        · replace h := Eq.trans (if_pos c2).symm h
          refine lv_aload_n hx hb d_Mod_has_13 rfl (lv_at hl 1 rfl) ?_
          refine lv_aload_n hx hb d_Mod_has_14 rfl (lv_at hl 1 rfl) ?_
          refine mf_two S E hI vt_1281 d_Mod_has_15 ?_
          refine lv_iload_n hx hb d_Mod_has_18 rfl (lv_at hl 0 rfl) ?_
          by_cases c35 : x3_2 < 0 ∨ 400000 ≤ (x3_2 : Int32).toNatClampNeg
          · replace h := Eq.trans (if_pos c35).symm h
            cases h
          · replace h := Eq.trans (if_neg c35).symm h
            refine ml_two S E hI c35 d_Mod_has_19 ?_
            refine lv_iload_n hx hb d_Mod_has_20 rfl (lv_at hl 2 rfl) ?_
            obtain ⟨v36, e37, h⟩ := Option.bind_eq_some_iff.mp h
            refine mg_p (As := [.int (α.2 4 (x3_2 : Int32).toNatClampNeg), .int x2_2]) (rest := []) ((hk (α.2 4 (x3_2 : Int32).toNatClampNeg) x2_2 α) _ e37) S E hI kw_Mod_367 (Or.inr rfl) ⟨by omega, by omega⟩ (mv_Mod E hI) rfl hl.1 rfl (Nat.le_of_ble_eq_true rfl) d_Mod_has_21 rfl ?_
            refine lv_if_eq (tgt := 29) hx hb d_Mod_has_24 (by decide) (fun c38 => ?_) (fun c38 => ?_)
            · replace h := Eq.trans (if_pos c38).symm h
              refine lv_aload_n hx hb d_Mod_has_29 rfl (lv_at hl 1 rfl) ?_
              refine mf_one S E hI vt_1280 d_Mod_has_30 ?_
              refine lv_iload_n hx hb d_Mod_has_33 rfl (lv_at hl 0 rfl) ?_
              by_cases c39 : x3_2 < 0 ∨ 400000 ≤ (x3_2 : Int32).toNatClampNeg
              · replace h := Eq.trans (if_pos c39).symm h
                cases h
              · replace h := Eq.trans (if_neg c39).symm h
                refine ml_one S E hI c39 d_Mod_has_34 ?_
                refine lv_istore_n (lv' := [(3, .int (α.2 3 (x3_2 : Int32).toNatClampNeg)), (0, .ref (mad g 0)), (2, .int x2_2)]) hx hb d_Mod_has_35 rfl hl (by decide) rfl (fun ls hl => ?_)
                refine lv_goto (tgt := 2) hx hb d_Mod_has_36 (by decide) ?_
                exact ih2 (α.2 3 (x3_2 : Int32).toNatClampNeg) x2_2 _ h (lv_sub hl [0, 1, 2] rfl)
            · replace h := Eq.trans (if_neg c38).symm h
              refine lv_iconst (v := 1) hx hb d_Mod_has_27 (by decide) ?_
              exact kv_iret (w := 1) hx hb hr (by decide) hlocks (Option.some.inj h) d_Mod_has_28
  exact L2 N a1 a2 _ h (lv_sub hl [0, 1, 3] rfl)
def G_has (N : Nat) : Nat → (Int32 → Int32 → mS → Option Int32)
  | 0 => (fun _ _ _ => none)
  | d + 1 => (f_Mod_has N (G_has N d))
theorem ok_has {l : Launch} {g : mG} (N : Nat) : ∀ d, hk_has l g (G_has N d) (1 + d) (1 + 23 * d)
  | 0 => (fun a1 a2  α x h => by cases h)
  | d + 1 => by
    have ih := ok_has (l := l) (g := g) N d
    exact (fun a1 a2  α x h => k_Mod_has (α := α) N _ d ih a1 a2  x h)
def dp_has : Nat := 260
