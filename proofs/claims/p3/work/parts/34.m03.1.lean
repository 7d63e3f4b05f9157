def hk_sizeWith (l : Launch) (g : mG) (kk : (Int32 → Int32 → Int32 → mS → Option Int32)) (fr lo : Nat) : Prop := (∀ (a1 : Int32) (a2 : Int32) (a3 : Int32)  (α : mS) (x : Int32), kk a1 a2 a3 α = some x → mV l g y_Mod_sizeWith b_Mod_sizeWith 6 (some .int) fr lo [.ref (mad g 0), .int a1, .int a2, .int a3] α x)
theorem kw_Mod_363 : kWv "FamilyKernelModel" 363 "FamilyKernelModel" y_Mod_sizeWith b_Mod_sizeWith 6 (some .int) 3 := ⟨vt_1596, vt_1597, vt_1598, vt_1349, vt_1599, by decide, by decide, by decide +kernel⟩
def f_Mod_sizeWith_j231 (N : Nat)  (kk : (Int32 → Int32 → Int32 → mS → Option Int32)) (y4 : Int32) (α : mS) : Option Int32 := some (if (y4 + 1) < 4000 then (y4 + 1) else 4000)
def f_Mod_sizeWith_j135 (N : Nat)  (kk : (Int32 → Int32 → Int32 → mS → Option Int32)) (y5 : Int32) (y4 : Int32) (y2 : Int32) (y3 : Int32) (α : mS) : Option Int32 := if y5 < 0 ∨ 400000 ≤ (y5 : Int32).toNatClampNeg then none else (((kk (α.2 3 (y5 : Int32).toNatClampNeg) y2 y3 α)).bind fun v11 => (if y5 < 0 ∨ 400000 ≤ (y5 : Int32).toNatClampNeg then none else (((kk (α.2 4 (y5 : Int32).toNatClampNeg) y2 (y3 + 1) α)).bind fun v14 => (some (if (((y4 + 1) + v11) + v14) < 4000 then (((y4 + 1) + v11) + v14) else 4000)))))
def f_Mod_sizeWith_j58 (N : Nat)  (kk : (Int32 → Int32 → Int32 → mS → Option Int32)) (y5 : Int32) (y4 : Int32) (y2 : Int32) (y3 : Int32) (α : mS) : Option Int32 := if y5 < 0 ∨ 400000 ≤ (y5 : Int32).toNatClampNeg then none else (if (α.2 2 (y5 : Int32).toNatClampNeg) = 4 then (if y5 < 0 ∨ 400000 ≤ (y5 : Int32).toNatClampNeg then none else (if (α.2 3 (y5 : Int32).toNatClampNeg) = y3 then (if y2 < 0 ∨ 400000 ≤ (y2 : Int32).toNatClampNeg then none else (some (if (y4 + (α.2 6 (y2 : Int32).toNatClampNeg)) < 4000 then (y4 + (α.2 6 (y2 : Int32).toNatClampNeg)) else 4000))) else (some (if (y4 + 1) < 4000 then (y4 + 1) else 4000)))) else (if (α.2 2 (y5 : Int32).toNatClampNeg) = 5 then (f_Mod_sizeWith_j231 N kk y4 α) else (if (α.2 2 (y5 : Int32).toNatClampNeg) = 6 then (f_Mod_sizeWith_j135 N kk y5 y4 y2 y3 α) else (if (α.2 2 (y5 : Int32).toNatClampNeg) = 7 then (f_Mod_sizeWith_j135 N kk y5 y4 y2 y3 α) else (if (α.2 2 (y5 : Int32).toNatClampNeg) = 8 then (f_Mod_sizeWith_j231 N kk y4 α) else (if (α.2 2 (y5 : Int32).toNatClampNeg) = 9 then (if y5 < 0 ∨ 400000 ≤ (y5 : Int32).toNatClampNeg then none else (((kk (α.2 3 (y5 : Int32).toNatClampNeg) y2 y3 α)).bind fun v20 => (if y5 < 0 ∨ 400000 ≤ (y5 : Int32).toNatClampNeg then none else (((kk (α.2 4 (y5 : Int32).toNatClampNeg) y2 y3 α)).bind fun v23 => (if y5 < 0 ∨ 400000 ≤ (y5 : Int32).toNatClampNeg then none else (((kk (α.2 5 (y5 : Int32).toNatClampNeg) y2 (y3 + 1) α)).bind fun v26 => (some (if ((((y4 + 1) + v20) + v23) + v26) < 4000 then ((((y4 + 1) + v20) + v23) + v26) else 4000)))))))) else (f_Mod_sizeWith_j231 N kk y4 α)))))))
def f_Mod_sizeWith_6 (N : Nat)  (kk : (Int32 → Int32 → Int32 → mS → Option Int32)) (α : mS) : Nat → Int32 → Int32 → Int32 → Int32 → Option Int32
  | 0, _, _, _, _ => none
  | n + 1, x5_6, x4_6, x2_6, x3_6 => if x5_6 < 0 ∨ 400000 ≤ (x5_6 : Int32).toNatClampNeg then none else (if (α.2 2 (x5_6 : Int32).toNatClampNeg) = 8 then (if 4000 ≤ x4_6 then (f_Mod_sizeWith_j58 N kk x5_6 x4_6 x2_6 x3_6 α) else (if x5_6 < 0 ∨ 400000 ≤ (x5_6 : Int32).toNatClampNeg then none else (((kk (α.2 4 (x5_6 : Int32).toNatClampNeg) x2_6 x3_6 α)).bind fun v30 => (if x5_6 < 0 ∨ 400000 ≤ (x5_6 : Int32).toNatClampNeg then none else (f_Mod_sizeWith_6 N kk α n (α.2 3 (x5_6 : Int32).toNatClampNeg) (x4_6 + (1 + v30)) x2_6 x3_6))))) else (f_Mod_sizeWith_j58 N kk x5_6 x4_6 x2_6 x3_6 α))
def f_Mod_sizeWith (N : Nat) (kk : (Int32 → Int32 → Int32 → mS → Option Int32)) (a1 : Int32) (a2 : Int32) (a3 : Int32) (α : mS) : Option Int32 := f_Mod_sizeWith_6 N kk α N a1 0 a2 a3
set_option maxHeartbeats 4000000 in
set_option maxRecDepth 100000 in
theorem k_Mod_sizeWith {l : Launch} {g : mG} {α : mS} (N : Nat) (kk : (Int32 → Int32 → Int32 → mS → Option Int32)) (d : Nat) (hk : hk_sizeWith l g kk (1 + d) (21 + 25 * d)) (a1 : Int32) (a2 : Int32) (a3 : Int32)  : ∀ x, f_Mod_sizeWith N kk a1 a2 a3 α = some x → mV l g y_Mod_sizeWith b_Mod_sizeWith 6 (some .int) (1 + (d + 1)) (21 + 25 * (d + 1)) [.ref (mad g 0), .int a1, .int a2, .int a3] α x := by
  intro x h
  unfold f_Mod_sizeWith at h
  refine mv_ofW (by decide) (fun A p e s m args below meth c S hr hlocks hargs E hI => ?_)
  have hx := S.1
  have hb := S.2.1
  have hown := S.2.2.2.1
  have hT := S.2.2.2.2
  subst hargs
  have hl := lv_entry ([.ref (mad g 0), .int a1, .int a2, .int a3]) (n := 6) (Nat.le_of_ble_eq_true rfl)
  rw [lg_entry_eq]
  generalize (lg_sl ([.ref (mad g 0), .int a1, .int a2, .int a3]) ++ List.replicate (6 - (lg_sl ([.ref (mad g 0), .int a1, .int a2, .int a3])).length) Slot.unset).toArray = ls at hl ⊢
  have hl : lv_has ls 6 [(0, .ref (mad g 0)), (1, .int a1), (2, .int a2), (3, .int a3)] := hl
  refine lv_iconst (v := 0) hx hb d_Mod_sizeWith_0 (by decide) ?_
  refine lv_istore (lv' := [(4, .int 0), (0, .ref (mad g 0)), (1, .int a1), (2, .int a2), (3, .int a3)]) hx hb d_Mod_sizeWith_1 hl (by decide) rfl (fun ls hl => ?_)
  refine lv_iload_n hx hb d_Mod_sizeWith_3 rfl (lv_at hl 2 rfl) ?_
  refine lv_istore (lv' := [(5, .int a1), (4, .int 0), (0, .ref (mad g 0)), (1, .int a1), (2, .int a2), (3, .int a3)]) hx hb d_Mod_sizeWith_4 hl (by decide) rfl (fun ls hl => ?_)
  have L6 : ∀ (n6 : Nat) (x5_6 : Int32) (x4_6 : Int32) (x2_6 : Int32) (x3_6 : Int32) (ls : Array Slot), f_Mod_sizeWith_6 N kk α n6 x5_6 x4_6 x2_6 x3_6 = some x → lv_has ls 6 [(5, .int x5_6), (4, .int x4_6), (0, .ref (mad g 0)), (2, .int x2_6), (3, .int x3_6)] → W p l e (mP (1 + (d + 1)) (21 + 25 * (d + 1))) s m ([.ref (mad g 0), .int a1, .int a2, .int a3]).toArray below meth c s.heap [] 0 0 (MQ below (QcRead x) ([.ref (mad g 0), .int a1, .int a2, .int a3]).toArray s 0 0 (fun _ => False)) (F0 m 6 ls []) := by
    intro n6
    induction n6 with
    | zero => intro x5_6 x4_6 x2_6 x3_6 ls h hl; rw [f_Mod_sizeWith_6] at h; cases h
    | succ n6 ih6 =>
      intro x5_6 x4_6 x2_6 x3_6 ls h hl
      rw [f_Mod_sizeWith_6] at h
      have J231 : ∀ (y4 : Int32) (ls : Array Slot), f_Mod_sizeWith_j231 N kk y4 α = some x → lv_has ls 6 [(4, .int y4)] → W p l e (mP (1 + (d + 1)) (21 + 25 * (d + 1))) s m ([.ref (mad g 0), .int a1, .int a2, .int a3]).toArray below meth c s.heap [] 0 0 (MQ below (QcRead x) ([.ref (mad g 0), .int a1, .int a2, .int a3]).toArray s 0 0 (fun _ => False)) (F0 m 231 ls []) := by
        intro y4 ls h hl
        unfold f_Mod_sizeWith_j231 at h
        refine lv_sipush (v := 4000) hx hb d_Mod_sizeWith_231 (by decide) ?_
        refine lv_iload hx hb d_Mod_sizeWith_234 (lv_at hl 0 rfl) ?_
        refine lv_iconst (v := 1) hx hb d_Mod_sizeWith_236 (by decide) ?_
        refine lv_iadd hx hb d_Mod_sizeWith_237 ?_
        refine va_mmin (x := 4000) (y := (y4 + 1)) hx hb (S.2.2.1.trans hl.1.symm) hown (hT _ vt_1509) (hT _ vt_318) (hT _ vt_317) (hT _ vt_319) (show 1 ≤ 1 + (d + 1) by omega) (show _ + 13 ≤ 21 + 25 * (d + 1) by simp only [List.map, List.sum_cons, List.sum_nil, Value.category]; omega) (Nat.zero_le _) (Nat.zero_le _) d_Mod_sizeWith_238 ?_
        exact kv_iret (w := (if (y4 + 1) < 4000 then (y4 + 1) else 4000)) hx hb hr rfl hlocks (Option.some.inj h) d_Mod_sizeWith_241
      have J135 : ∀ (y5 : Int32) (y4 : Int32) (y2 : Int32) (y3 : Int32) (ls : Array Slot), f_Mod_sizeWith_j135 N kk y5 y4 y2 y3 α = some x → lv_has ls 6 [(5, .int y5), (4, .int y4), (0, .ref (mad g 0)), (2, .int y2), (3, .int y3)] → W p l e (mP (1 + (d + 1)) (21 + 25 * (d + 1))) s m ([.ref (mad g 0), .int a1, .int a2, .int a3]).toArray below meth c s.heap [] 0 0 (MQ below (QcRead x) ([.ref (mad g 0), .int a1, .int a2, .int a3]).toArray s 0 0 (fun _ => False)) (F0 m 135 ls []) := by
        intro y5 y4 y2 y3 ls h hl
        unfold f_Mod_sizeWith_j135 at h
        refine lv_sipush (v := 4000) hx hb d_Mod_sizeWith_135 (by decide) ?_
        refine lv_iload hx hb d_Mod_sizeWith_138 (lv_at hl 1 rfl) ?_
        refine lv_iconst (v := 1) hx hb d_Mod_sizeWith_140 (by decide) ?_
        refine lv_iadd hx hb d_Mod_sizeWith_141 ?_
        refine lv_aload_n hx hb d_Mod_sizeWith_142 rfl (lv_at hl 2 rfl) ?_
        refine lv_aload_n hx hb d_Mod_sizeWith_143 rfl (lv_at hl 2 rfl) ?_
        refine mf_one S E hI vt_1280 d_Mod_sizeWith_144 ?_
        refine lv_iload hx hb d_Mod_sizeWith_147 (lv_at hl 0 rfl) ?_
        by_cases c10 : y5 < 0 ∨ 400000 ≤ (y5 : Int32).toNatClampNeg
        · replace h := Eq.trans (if_pos c10).symm h
          cases h
        · replace h := Eq.trans (if_neg c10).symm h
          refine ml_one S E hI c10 d_Mod_sizeWith_149 ?_
          refine lv_iload_n hx hb d_Mod_sizeWith_150 rfl (lv_at hl 3 rfl) ?_
          refine lv_iload_n hx hb d_Mod_sizeWith_151 rfl (lv_at hl 4 rfl) ?_
          obtain ⟨v11, e12, h⟩ := Option.bind_eq_some_iff.mp h
          refine mg_p (As := [.int (α.2 3 (y5 : Int32).toNatClampNeg), .int y2, .int y3]) (rest := [.int (y4 + 1), .int 4000]) ((hk (α.2 3 (y5 : Int32).toNatClampNeg) y2 y3 α) _ e12) S E hI kw_Mod_363 (Or.inr rfl) ⟨by omega, by omega⟩ (mv_Mod E hI) rfl hl.1 rfl (Nat.le_of_ble_eq_true rfl) d_Mod_sizeWith_152 rfl ?_
          refine lv_iadd hx hb d_Mod_sizeWith_155 ?_
          refine lv_aload_n hx hb d_Mod_sizeWith_156 rfl (lv_at hl 2 rfl) ?_
          refine lv_aload_n hx hb d_Mod_sizeWith_157 rfl (lv_at hl 2 rfl) ?_
          refine mf_two S E hI vt_1281 d_Mod_sizeWith_158 ?_
          refine lv_iload hx hb d_Mod_sizeWith_161 (lv_at hl 0 rfl) ?_
          by_cases c13 : y5 < 0 ∨ 400000 ≤ (y5 : Int32).toNatClampNeg
          · replace h := Eq.trans (if_pos c13).symm h
            cases h
          · replace h := Eq.trans (if_neg c13).symm h
            refine ml_two S E hI c13 d_Mod_sizeWith_163 ?_
            refine lv_iload_n hx hb d_Mod_sizeWith_164 rfl (lv_at hl 3 rfl) ?_
            refine lv_iload_n hx hb d_Mod_sizeWith_165 rfl (lv_at hl 4 rfl) ?_
            refine lv_iconst (v := 1) hx hb d_Mod_sizeWith_166 (by decide) ?_
            refine lv_iadd hx hb d_Mod_sizeWith_167 ?_
            obtain ⟨v14, e15, h⟩ := Option.bind_eq_some_iff.mp h
            refine mg_p (As := [.int (α.2 4 (y5 : Int32).toNatClampNeg), .int y2, .int (y3 + 1)]) (rest := [.int ((y4 + 1) + v11), .int 4000]) ((hk (α.2 4 (y5 : Int32).toNatClampNeg) y2 (y3 + 1) α) _ e15) S E hI kw_Mod_363 (Or.inr rfl) ⟨by omega, by omega⟩ (mv_Mod E hI) rfl hl.1 rfl (Nat.le_of_ble_eq_true rfl) d_Mod_sizeWith_168 rfl ?_
            refine lv_iadd hx hb d_Mod_sizeWith_171 ?_
            refine va_mmin (x := 4000) (y := (((y4 + 1) + v11) + v14)) hx hb (S.2.2.1.trans hl.1.symm) hown (hT _ vt_1509) (hT _ vt_318) (hT _ vt_317) (hT _ vt_319) (show 1 ≤ 1 + (d + 1) by omega) (show _ + 13 ≤ 21 + 25 * (d + 1) by simp only [List.map, List.sum_cons, List.sum_nil, Value.category]; omega) (Nat.zero_le _) (Nat.zero_le _) d_Mod_sizeWith_172 ?_
            exact kv_iret (w := (if (((y4 + 1) + v11) + v14) < 4000 then (((y4 + 1) + v11) + v14) else 4000)) hx hb hr rfl hlocks (Option.some.inj h) d_Mod_sizeWith_175
      have J58 : ∀ (y5 : Int32) (y4 : Int32) (y2 : Int32) (y3 : Int32) (ls : Array Slot), f_Mod_sizeWith_j58 N kk y5 y4 y2 y3 α = some x → lv_has ls 6 [(5, .int y5), (4, .int y4), (0, .ref (mad g 0)), (2, .int y2), (3, .int y3)] → W p l e (mP (1 + (d + 1)) (21 + 25 * (d + 1))) s m ([.ref (mad g 0), .int a1, .int a2, .int a3]).toArray below meth c s.heap [] 0 0 (MQ below (QcRead x) ([.ref (mad g 0), .int a1, .int a2, .int a3]).toArray s 0 0 (fun _ => False)) (F0 m 58 ls []) := by
        intro y5 y4 y2 y3 ls h hl
        unfold f_Mod_sizeWith_j58 at h
        refine lv_aload_n hx hb d_Mod_sizeWith_58 rfl (lv_at hl 2 rfl) ?_
        refine mf_kind S E hI vt_1279 d_Mod_sizeWith_59 ?_
        refine lv_iload hx hb d_Mod_sizeWith_62 (lv_at hl 0 rfl) ?_
        by_cases c3 : y5 < 0 ∨ 400000 ≤ (y5 : Int32).toNatClampNeg
        · replace h := Eq.trans (if_pos c3).symm h
          cases h
        · replace h := Eq.trans (if_neg c3).symm h
          refine ml_kind S E hI c3 d_Mod_sizeWith_64 ?_
          by_cases c4 : (α.2 2 (y5 : Int32).toNatClampNeg) = 4
          · replace h := Eq.trans (if_pos c4).symm h
            refine lv_tableIn (off := 39) (tgt := 104) hx hb d_Mod_sizeWith_65 (by rw [c4]; decide) (by rw [c4]; decide) (by rw [c4]; rfl) (by decide) ?_
            refine lv_sipush (v := 4000) hx hb d_Mod_sizeWith_104 (by decide) ?_
            refine lv_iload hx hb d_Mod_sizeWith_107 (lv_at hl 1 rfl) ?_
            refine lv_aload_n hx hb d_Mod_sizeWith_109 rfl (lv_at hl 2 rfl) ?_
            refine mf_one S E hI vt_1280 d_Mod_sizeWith_110 ?_
            refine lv_iload hx hb d_Mod_sizeWith_113 (lv_at hl 0 rfl) ?_
            by_cases c5 : y5 < 0 ∨ 400000 ≤ (y5 : Int32).toNatClampNeg
            · replace h := Eq.trans (if_pos c5).symm h
              cases h
            · replace h := Eq.trans (if_neg c5).symm h
              refine ml_one S E hI c5 d_Mod_sizeWith_115 ?_
              refine lv_iload_n hx hb d_Mod_sizeWith_116 rfl (lv_at hl 4 rfl) ?_
              refine lv_icmp_ne (tgt := 129) hx hb d_Mod_sizeWith_117 (by decide) (fun c6 => ?_) (fun c6 => ?_)
              · replace h := Eq.trans (if_neg c6).symm h
                refine lv_iconst (v := 1) hx hb d_Mod_sizeWith_129 (by decide) ?_
                refine lv_iadd hx hb d_Mod_sizeWith_130 ?_
                refine va_mmin (x := 4000) (y := (y4 + 1)) hx hb (S.2.2.1.trans hl.1.symm) hown (hT _ vt_1509) (hT _ vt_318) (hT _ vt_317) (hT _ vt_319) (show 1 ≤ 1 + (d + 1) by omega) (show _ + 13 ≤ 21 + 25 * (d + 1) by simp only [List.map, List.sum_cons, List.sum_nil, Value.category]; omega) (Nat.zero_le _) (Nat.zero_le _) d_Mod_sizeWith_131 ?_
                exact kv_iret (w := (if (y4 + 1) < 4000 then (y4 + 1) else 4000)) hx hb hr rfl hlocks (Option.some.inj h) d_Mod_sizeWith_134
              · replace h := Eq.trans (if_pos c6).symm h
                refine lv_aload_n hx hb d_Mod_sizeWith_120 rfl (lv_at hl 2 rfl) ?_
                refine mf_big S E hI vt_1283 d_Mod_sizeWith_121 ?_
                refine lv_iload_n hx hb d_Mod_sizeWith_124 rfl (lv_at hl 3 rfl) ?_
                by_cases c7 : y2 < 0 ∨ 400000 ≤ (y2 : Int32).toNatClampNeg
                · replace h := Eq.trans (if_pos c7).symm h
                  cases h
                · replace h := Eq.trans (if_neg c7).symm h
                  refine ml_big S E hI c7 d_Mod_sizeWith_125 ?_
                  refine lv_goto (tgt := 130) hx hb d_Mod_sizeWith_126 (by decide) ?_
                  refine lv_iadd hx hb d_Mod_sizeWith_130 ?_
                  refine va_mmin (x := 4000) (y := (y4 + (α.2 6 (y2 : Int32).toNatClampNeg))) hx hb (S.2.2.1.trans hl.1.symm) hown (hT _ vt_1509) (hT _ vt_318) (hT _ vt_317) (hT _ vt_319) (show 1 ≤ 1 + (d + 1) by omega) (show _ + 13 ≤ 21 + 25 * (d + 1) by simp only [List.map, List.sum_cons, List.sum_nil, Value.category]; omega) (Nat.zero_le _) (Nat.zero_le _) d_Mod_sizeWith_131 ?_
                  exact kv_iret (w := (if (y4 + (α.2 6 (y2 : Int32).toNatClampNeg)) < 4000 then (y4 + (α.2 6 (y2 : Int32).toNatClampNeg)) else 4000)) hx hb hr rfl hlocks (Option.some.inj h) d_Mod_sizeWith_134
          · replace h := Eq.trans (if_neg c4).symm h
            have nc4 := ksw (z := 4) rfl c4
            by_cases c8 : (α.2 2 (y5 : Int32).toNatClampNeg) = 5
            · replace h := Eq.trans (if_pos c8).symm h
              refine lv_tableIn (off := 166) (tgt := 231) hx hb d_Mod_sizeWith_65 (by rw [c8]; decide) (by rw [c8]; decide) (by rw [c8]; rfl) (by decide) ?_
              exact J231 y4 _ h (lv_sub hl [1] rfl)
            · replace h := Eq.trans (if_neg c8).symm h
              have nc8 := ksw (z := 5) rfl c8
              by_cases c9 : (α.2 2 (y5 : Int32).toNatClampNeg) = 6
              · replace h := Eq.trans (if_pos c9).symm h
                refine lv_tableIn (off := 70) (tgt := 135) hx hb d_Mod_sizeWith_65 (by rw [c9]; decide) (by rw [c9]; decide) (by rw [c9]; rfl) (by decide) ?_
                exact J135 y5 y4 y2 y3 _ h (lv_sub hl [0, 1, 2, 3, 4] rfl)
              · replace h := Eq.trans (if_neg c9).symm h
                have nc9 := ksw (z := 6) rfl c9
                by_cases c16 : (α.2 2 (y5 : Int32).toNatClampNeg) = 7
                · replace h := Eq.trans (if_pos c16).symm h
                  refine lv_tableIn (off := 70) (tgt := 135) hx hb d_Mod_sizeWith_65 (by rw [c16]; decide) (by rw [c16]; decide) (by rw [c16]; rfl) (by decide) ?_
                  exact J135 y5 y4 y2 y3 _ h (lv_sub hl [0, 1, 2, 3, 4] rfl)
                · replace h := Eq.trans (if_neg c16).symm h
                  have nc16 := ksw (z := 7) rfl c16
                  by_cases c17 : (α.2 2 (y5 : Int32).toNatClampNeg) = 8
                  · replace h := Eq.trans (if_pos c17).symm h
                    refine lv_tableIn (off := 166) (tgt := 231) hx hb d_Mod_sizeWith_65 (by rw [c17]; decide) (by rw [c17]; decide) (by rw [c17]; rfl) (by decide) ?_
                    exact J231 y4 _ h (lv_sub hl [1] rfl)
                  · replace h := Eq.trans (if_neg c17).symm h
                    have nc17 := ksw (z := 8) rfl c17
                    by_cases c18 : (α.2 2 (y5 : Int32).toNatClampNeg) = 9
                    · replace h := Eq.trans (if_pos c18).symm h
                      refine lv_tableIn (off := 111) (tgt := 176) hx hb d_Mod_sizeWith_65 (by rw [c18]; decide) (by rw [c18]; decide) (by rw [c18]; rfl) (by decide) ?_
                      refine lv_sipush (v := 4000) hx hb d_Mod_sizeWith_176 (by decide) ?_
                      refine lv_iload hx hb d_Mod_sizeWith_179 (lv_at hl 1 rfl) ?_
                      refine lv_iconst (v := 1) hx hb d_Mod_sizeWith_181 (by decide) ?_
                      refine lv_iadd hx hb d_Mod_sizeWith_182 ?_
                      refine lv_aload_n hx hb d_Mod_sizeWith_183 rfl (lv_at hl 2 rfl) ?_
                      refine lv_aload_n hx hb d_Mod_sizeWith_184 rfl (lv_at hl 2 rfl) ?_
                      refine mf_one S E hI vt_1280 d_Mod_sizeWith_185 ?_
                      refine lv_iload hx hb d_Mod_sizeWith_188 (lv_at hl 0 rfl) ?_
                      by_cases c19 : y5 < 0 ∨ 400000 ≤ (y5 : Int32).toNatClampNeg
                      · replace h := Eq.trans (if_pos c19).symm h
                        cases h
                      · replace h := Eq.trans (if_neg c19).symm h
                        refine ml_one S E hI c19 d_Mod_sizeWith_190 ?_
                        refine lv_iload_n hx hb d_Mod_sizeWith_191 rfl (lv_at hl 3 rfl) ?_
                        refine lv_iload_n hx hb d_Mod_sizeWith_192 rfl (lv_at hl 4 rfl) ?_
                        obtain ⟨v20, e21, h⟩ := Option.bind_eq_some_iff.mp h
                        refine mg_p (As := [.int (α.2 3 (y5 : Int32).toNatClampNeg), .int y2, .int y3]) (rest := [.int (y4 + 1), .int 4000]) ((hk (α.2 3 (y5 : Int32).toNatClampNeg) y2 y3 α) _ e21) S E hI kw_Mod_363 (Or.inr rfl) ⟨by omega, by omega⟩ (mv_Mod E hI) rfl hl.1 rfl (Nat.le_of_ble_eq_true rfl) d_Mod_sizeWith_193 rfl ?_
                        refine lv_iadd hx hb d_Mod_sizeWith_196 ?_
                        refine lv_aload_n hx hb d_Mod_sizeWith_197 rfl (lv_at hl 2 rfl) ?_
                        refine lv_aload_n hx hb d_Mod_sizeWith_198 rfl (lv_at hl 2 rfl) ?_
                        refine mf_two S E hI vt_1281 d_Mod_sizeWith_199 ?_
                        refine lv_iload hx hb d_Mod_sizeWith_202 (lv_at hl 0 rfl) ?_
                        by_cases c22 : y5 < 0 ∨ 400000 ≤ (y5 : Int32).toNatClampNeg
                        · replace h := Eq.trans (if_pos c22).symm h
                          cases h
                        · replace h := Eq.trans (if_neg c22).symm h
                          refine ml_two S E hI c22 d_Mod_sizeWith_204 ?_
                          refine lv_iload_n hx hb d_Mod_sizeWith_205 rfl (lv_at hl 3 rfl) ?_
                          refine lv_iload_n hx hb d_Mod_sizeWith_206 rfl (lv_at hl 4 rfl) ?_
                          obtain ⟨v23, e24, h⟩ := Option.bind_eq_some_iff.mp h
                          refine mg_p (As := [.int (α.2 4 (y5 : Int32).toNatClampNeg), .int y2, .int y3]) (rest := [.int ((y4 + 1) + v20), .int 4000]) ((hk (α.2 4 (y5 : Int32).toNatClampNeg) y2 y3 α) _ e24) S E hI kw_Mod_363 (Or.inr rfl) ⟨by omega, by omega⟩ (mv_Mod E hI) rfl hl.1 rfl (Nat.le_of_ble_eq_true rfl) d_Mod_sizeWith_207 rfl ?_
                          refine lv_iadd hx hb d_Mod_sizeWith_210 ?_
                          refine lv_aload_n hx hb d_Mod_sizeWith_211 rfl (lv_at hl 2 rfl) ?_
                          refine lv_aload_n hx hb d_Mod_sizeWith_212 rfl (lv_at hl 2 rfl) ?_
                          refine mf_three S E hI vt_1282 d_Mod_sizeWith_213 ?_
                          refine lv_iload hx hb d_Mod_sizeWith_216 (lv_at hl 0 rfl) ?_
                          by_cases c25 : y5 < 0 ∨ 400000 ≤ (y5 : Int32).toNatClampNeg
                          · replace h := Eq.trans (if_pos c25).symm h
                            cases h
                          · replace h := Eq.trans (if_neg c25).symm h
                            refine ml_three S E hI c25 d_Mod_sizeWith_218 ?_
                            refine lv_iload_n hx hb d_Mod_sizeWith_219 rfl (lv_at hl 3 rfl) ?_
                            refine lv_iload_n hx hb d_Mod_sizeWith_220 rfl (lv_at hl 4 rfl) ?_
                            refine lv_iconst (v := 1) hx hb d_Mod_sizeWith_221 (by decide) ?_
                            refine lv_iadd hx hb d_Mod_sizeWith_222 ?_
                            obtain ⟨v26, e27, h⟩ := Option.bind_eq_some_iff.mp h
                            refine mg_p (As := [.int (α.2 5 (y5 : Int32).toNatClampNeg), .int y2, .int (y3 + 1)]) (rest := [.int (((y4 + 1) + v20) + v23), .int 4000]) ((hk (α.2 5 (y5 : Int32).toNatClampNeg) y2 (y3 + 1) α) _ e27) S E hI kw_Mod_363 (Or.inr rfl) ⟨by omega, by omega⟩ (mv_Mod E hI) rfl hl.1 rfl (Nat.le_of_ble_eq_true rfl) d_Mod_sizeWith_223 rfl ?_
                            refine lv_iadd hx hb d_Mod_sizeWith_226 ?_
                            refine va_mmin (x := 4000) (y := ((((y4 + 1) + v20) + v23) + v26)) hx hb (S.2.2.1.trans hl.1.symm) hown (hT _ vt_1509) (hT _ vt_318) (hT _ vt_317) (hT _ vt_319) (show 1 ≤ 1 + (d + 1) by omega) (show _ + 13 ≤ 21 + 25 * (d + 1) by simp only [List.map, List.sum_cons, List.sum_nil, Value.category]; omega) (Nat.zero_le _) (Nat.zero_le _) d_Mod_sizeWith_227 ?_
                            exact kv_iret (w := (if ((((y4 + 1) + v20) + v23) + v26) < 4000 then ((((y4 + 1) + v20) + v23) + v26) else 4000)) hx hb hr rfl hlocks (Option.some.inj h) d_Mod_sizeWith_230
                    · replace h := Eq.trans (if_neg c18).symm h
                      have nc18 := ksw (z := 9) rfl c18
                      refine lv_tableOut (tgt := 231) hx hb d_Mod_sizeWith_65 (by omega) (by decide) ?_
                      exact J231 y4 _ h (lv_sub hl [1] rfl)
      refine lv_aload_n hx hb d_Mod_sizeWith_6 rfl (lv_at hl 2 rfl) ?_
      refine mf_kind S E hI vt_1279 d_Mod_sizeWith_7 ?_
      refine lv_iload hx hb d_Mod_sizeWith_10 (lv_at hl 0 rfl) ?_
      by_cases c1 : x5_6 < 0 ∨ 400000 ≤ (x5_6 : Int32).toNatClampNeg
      · replace h := Eq.trans (if_pos c1).symm h
        cases h
      · replace h := Eq.trans (if_neg c1).symm h
        refine ml_kind S E hI c1 d_Mod_sizeWith_12 ?_
        refine lv_bipush (v := 8) hx hb d_Mod_sizeWith_13 (by decide) ?_
        refine lv_icmp_ne (tgt := 58) hx hb d_Mod_sizeWith_15 (by decide) (fun c2 => ?_) (fun c2 => ?_)
        · replace h := Eq.trans (if_neg c2).symm h
          exact J58 x5_6 x4_6 x2_6 x3_6 _ h (lv_sub hl [0, 1, 2, 3, 4] rfl)
        · replace h := Eq.trans (if_pos c2).symm h
          refine lv_iload hx hb d_Mod_sizeWith_18 (lv_at hl 1 rfl) ?_
          refine lv_sipush (v := 4000) hx hb d_Mod_sizeWith_20 (by decide) ?_
          refine lv_icmp_ge (tgt := 58) hx hb d_Mod_sizeWith_23 (by decide) (fun c28 => ?_) (fun c28 => ?_)
          · replace h := Eq.trans (if_pos c28).symm h
            exact J58 x5_6 x4_6 x2_6 x3_6 _ h (lv_sub hl [0, 1, 2, 3, 4] rfl)
          · replace h := Eq.trans (if_neg c28).symm h
            refine lv_iload hx hb d_Mod_sizeWith_26 (lv_at hl 1 rfl) ?_
            refine lv_iconst (v := 1) hx hb d_Mod_sizeWith_28 (by decide) ?_
            refine lv_aload_n hx hb d_Mod_sizeWith_29 rfl (lv_at hl 2 rfl) ?_
            refine lv_aload_n hx hb d_Mod_sizeWith_30 rfl (lv_at hl 2 rfl) ?_
            refine mf_two S E hI vt_1281 d_Mod_sizeWith_31 ?_
            refine lv_iload hx hb d_Mod_sizeWith_34 (lv_at hl 0 rfl) ?_
            by_cases c29 : x5_6 < 0 ∨ 400000 ≤ (x5_6 : Int32).toNatClampNeg
            · replace h := Eq.trans (if_pos c29).symm h
              cases h
            · replace h := Eq.trans (if_neg c29).symm h
              refine ml_two S E hI c29 d_Mod_sizeWith_36 ?_
              refine lv_iload_n hx hb d_Mod_sizeWith_37 rfl (lv_at hl 3 rfl) ?_
              refine lv_iload_n hx hb d_Mod_sizeWith_38 rfl (lv_at hl 4 rfl) ?_
              obtain ⟨v30, e31, h⟩ := Option.bind_eq_some_iff.mp h
              refine mg_p (As := [.int (α.2 4 (x5_6 : Int32).toNatClampNeg), .int x2_6, .int x3_6]) (rest := [.int 1, .int x4_6]) ((hk (α.2 4 (x5_6 : Int32).toNatClampNeg) x2_6 x3_6 α) _ e31) S E hI kw_Mod_363 (Or.inr rfl) ⟨by omega, by omega⟩ (mv_Mod E hI) rfl hl.1 rfl (Nat.le_of_ble_eq_true rfl) d_Mod_sizeWith_39 rfl ?_
              refine lv_iadd hx hb d_Mod_sizeWith_42 ?_
              refine lv_iadd hx hb d_Mod_sizeWith_43 ?_
              refine lv_istore (lv' := [(4, .int (x4_6 + (1 + v30))), (5, .int x5_6), (0, .ref (mad g 0)), (2, .int x2_6), (3, .int x3_6)]) hx hb d_Mod_sizeWith_44 hl (by decide) rfl (fun ls hl => ?_)
              refine lv_aload_n hx hb d_Mod_sizeWith_46 rfl (lv_at hl 2 rfl) ?_
              refine mf_one S E hI vt_1280 d_Mod_sizeWith_47 ?_
              refine lv_iload hx hb d_Mod_sizeWith_50 (lv_at hl 1 rfl) ?_
              by_cases c32 : x5_6 < 0 ∨ 400000 ≤ (x5_6 : Int32).toNatClampNeg
              · replace h := Eq.trans (if_pos c32).symm h
                cases h
              · replace h := Eq.trans (if_neg c32).symm h
                refine ml_one S E hI c32 d_Mod_sizeWith_52 ?_
                refine lv_istore (lv' := [(5, .int (α.2 3 (x5_6 : Int32).toNatClampNeg)), (4, .int (x4_6 + (1 + v30))), (0, .ref (mad g 0)), (2, .int x2_6), (3, .int x3_6)]) hx hb d_Mod_sizeWith_53 hl (by decide) rfl (fun ls hl => ?_)
                refine lv_goto (tgt := 6) hx hb d_Mod_sizeWith_55 (by decide) ?_
                exact ih6 (α.2 3 (x5_6 : Int32).toNatClampNeg) (x4_6 + (1 + v30)) x2_6 x3_6 _ h (lv_sub hl [0, 1, 2, 3, 4] rfl)
  exact L6 N a1 0 a2 a3 _ h (lv_sub hl [0, 1, 2, 4, 5] rfl)
def G_sizeWith (N : Nat) : Nat → (Int32 → Int32 → Int32 → mS → Option Int32)
  | 0 => (fun _ _ _ _ => none)
  | d + 1 => (f_Mod_sizeWith N (G_sizeWith N d))
theorem ok_sizeWith {l : Launch} {g : mG} (N : Nat) : ∀ d, hk_sizeWith l g (G_sizeWith N d) (1 + d) (21 + 25 * d)
  | 0 => (fun a1 a2 a3  α x h => by cases h)
  | d + 1 => by
    have ih := ok_sizeWith (l := l) (g := g) N d
    exact (fun a1 a2 a3  α x h => k_Mod_sizeWith (α := α) N _ d ih a1 a2 a3  x h)
def dp_sizeWith : Nat := 260
