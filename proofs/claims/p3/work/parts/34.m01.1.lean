def hk_same (l : Launch) (g : mG) (kk : (Int32 → Int32 → mS → Option Int32)) (fr lo : Nat) : Prop := (∀ (a1 : Int32) (a2 : Int32)  (α : mS) (x : Int32), kk a1 a2 α = some x → mV l g y_Mod_same b_Mod_same 5 (some .boolean) fr lo [.ref (mad g 0), .int a1, .int a2] α x)
theorem kw_Mod_340 : kWv "FamilyKernelModel" 340 "FamilyKernelModel" y_Mod_same b_Mod_same 5 (some .boolean) 2 := ⟨vt_1612, vt_1613, vt_1614, vt_1349, vt_1615, by decide, by decide, by decide +kernel⟩
def f_Mod_same_j192 (N : Nat)  (kk : (Int32 → Int32 → mS → Option Int32)) (y4 : Int32) (y3 : Int32) (α : mS) : Option Int32 := if y3 < 0 ∨ 400000 ≤ (y3 : Int32).toNatClampNeg then none else (if y4 < 0 ∨ 400000 ≤ (y4 : Int32).toNatClampNeg then none else (if (α.2 3 (y3 : Int32).toNatClampNeg) = (α.2 3 (y4 : Int32).toNatClampNeg) then (some 1) else (some 0)))
def f_Mod_same_j318 (N : Nat)  (kk : (Int32 → Int32 → mS → Option Int32)) (y4 : Int32) (y3 : Int32) (α : mS) : Option Int32 := if y3 < 0 ∨ 400000 ≤ (y3 : Int32).toNatClampNeg then none else (if (α.2 2 (y3 : Int32).toNatClampNeg) = 8 then (some 0) else (if y3 < 0 ∨ 400000 ≤ (y3 : Int32).toNatClampNeg then none else (if y4 < 0 ∨ 400000 ≤ (y4 : Int32).toNatClampNeg then none else (((kk (α.2 3 (y3 : Int32).toNatClampNeg) (α.2 3 (y4 : Int32).toNatClampNeg) α)).bind fun v30 => (if v30 = 0 then (some 0) else (if y3 < 0 ∨ 400000 ≤ (y3 : Int32).toNatClampNeg then none else (if y4 < 0 ∨ 400000 ≤ (y4 : Int32).toNatClampNeg then none else (((kk (α.2 4 (y3 : Int32).toNatClampNeg) (α.2 4 (y4 : Int32).toNatClampNeg) α)).bind fun v35 => (if v35 = 0 then (some 0) else (some 1))))))))))
def f_Mod_same_j91 (N : Nat)  (kk : (Int32 → Int32 → mS → Option Int32)) (y4 : Int32) (y3 : Int32) (α : mS) : Option Int32 := if y3 = y4 then (some 1) else (if y3 < 0 ∨ 400000 ≤ (y3 : Int32).toNatClampNeg then none else (if y4 < 0 ∨ 400000 ≤ (y4 : Int32).toNatClampNeg then none else (if (α.2 2 (y3 : Int32).toNatClampNeg) = (α.2 2 (y4 : Int32).toNatClampNeg) then (if y3 < 0 ∨ 400000 ≤ (y3 : Int32).toNatClampNeg then none else (if y4 < 0 ∨ 400000 ≤ (y4 : Int32).toNatClampNeg then none else (if (α.2 6 (y3 : Int32).toNatClampNeg) = (α.2 6 (y4 : Int32).toNatClampNeg) then (if y3 < 0 ∨ 400000 ≤ (y3 : Int32).toNatClampNeg then none else (if (α.2 2 (y3 : Int32).toNatClampNeg) = 0 then (f_Mod_same_j192 N kk y4 y3 α) else (if (α.2 2 (y3 : Int32).toNatClampNeg) = 1 then (f_Mod_same_j192 N kk y4 y3 α) else (if (α.2 2 (y3 : Int32).toNatClampNeg) = 2 then (if y3 < 0 ∨ 400000 ≤ (y3 : Int32).toNatClampNeg then none else (if y4 < 0 ∨ 400000 ≤ (y4 : Int32).toNatClampNeg then none else (if (α.2 3 (y3 : Int32).toNatClampNeg) = (α.2 3 (y4 : Int32).toNatClampNeg) then (if y3 < 0 ∨ 400000 ≤ (y3 : Int32).toNatClampNeg then none else (if y4 < 0 ∨ 400000 ≤ (y4 : Int32).toNatClampNeg then none else (if (α.2 4 (y3 : Int32).toNatClampNeg) = (α.2 4 (y4 : Int32).toNatClampNeg) then (some 1) else (some 0)))) else (some 0)))) else (if (α.2 2 (y3 : Int32).toNatClampNeg) = 3 then (f_Mod_same_j192 N kk y4 y3 α) else (if (α.2 2 (y3 : Int32).toNatClampNeg) = 4 then (f_Mod_same_j192 N kk y4 y3 α) else (if (α.2 2 (y3 : Int32).toNatClampNeg) = 5 then (f_Mod_same_j192 N kk y4 y3 α) else (if (α.2 2 (y3 : Int32).toNatClampNeg) = 6 then (f_Mod_same_j318 N kk y4 y3 α) else (if (α.2 2 (y3 : Int32).toNatClampNeg) = 7 then (f_Mod_same_j318 N kk y4 y3 α) else (if (α.2 2 (y3 : Int32).toNatClampNeg) = 8 then (f_Mod_same_j318 N kk y4 y3 α) else (if (α.2 2 (y3 : Int32).toNatClampNeg) = 9 then (if y3 < 0 ∨ 400000 ≤ (y3 : Int32).toNatClampNeg then none else (if y4 < 0 ∨ 400000 ≤ (y4 : Int32).toNatClampNeg then none else (((kk (α.2 3 (y3 : Int32).toNatClampNeg) (α.2 3 (y4 : Int32).toNatClampNeg) α)).bind fun v43 => (if v43 = 0 then (some 0) else (if y3 < 0 ∨ 400000 ≤ (y3 : Int32).toNatClampNeg then none else (if y4 < 0 ∨ 400000 ≤ (y4 : Int32).toNatClampNeg then none else (((kk (α.2 4 (y3 : Int32).toNatClampNeg) (α.2 4 (y4 : Int32).toNatClampNeg) α)).bind fun v48 => (if v48 = 0 then (some 0) else (if y3 < 0 ∨ 400000 ≤ (y3 : Int32).toNatClampNeg then none else (if y4 < 0 ∨ 400000 ≤ (y4 : Int32).toNatClampNeg then none else (((kk (α.2 5 (y3 : Int32).toNatClampNeg) (α.2 5 (y4 : Int32).toNatClampNeg) α)).bind fun v53 => (if v53 = 0 then (some 0) else (some 1))))))))))))) else (f_Mod_same_j318 N kk y4 y3 α)))))))))))) else (some 0)))) else (some 0))))
def f_Mod_same_5 (N : Nat)  (kk : (Int32 → Int32 → mS → Option Int32)) (α : mS) : Nat → Int32 → Int32 → Option Int32
  | 0, _, _ => none
  | n + 1, x4_5, x3_5 => if x3_5 = x4_5 then (f_Mod_same_j91 N kk x4_5 x3_5 α) else (if x3_5 < 0 ∨ 400000 ≤ (x3_5 : Int32).toNatClampNeg then none else (if (α.2 2 (x3_5 : Int32).toNatClampNeg) = 8 then (if x4_5 < 0 ∨ 400000 ≤ (x4_5 : Int32).toNatClampNeg then none else (if (α.2 2 (x4_5 : Int32).toNatClampNeg) = 8 then (if x3_5 < 0 ∨ 400000 ≤ (x3_5 : Int32).toNatClampNeg then none else (if x4_5 < 0 ∨ 400000 ≤ (x4_5 : Int32).toNatClampNeg then none else (if (α.2 6 (x3_5 : Int32).toNatClampNeg) = (α.2 6 (x4_5 : Int32).toNatClampNeg) then (if x3_5 < 0 ∨ 400000 ≤ (x3_5 : Int32).toNatClampNeg then none else (if x4_5 < 0 ∨ 400000 ≤ (x4_5 : Int32).toNatClampNeg then none else (((kk (α.2 4 (x3_5 : Int32).toNatClampNeg) (α.2 4 (x4_5 : Int32).toNatClampNeg) α)).bind fun v65 => (if v65 = 0 then (some 0) else (if x3_5 < 0 ∨ 400000 ≤ (x3_5 : Int32).toNatClampNeg then none else (if x4_5 < 0 ∨ 400000 ≤ (x4_5 : Int32).toNatClampNeg then none else (f_Mod_same_5 N kk α n (α.2 3 (x4_5 : Int32).toNatClampNeg) (α.2 3 (x3_5 : Int32).toNatClampNeg)))))))) else (f_Mod_same_j91 N kk x4_5 x3_5 α)))) else (f_Mod_same_j91 N kk x4_5 x3_5 α))) else (f_Mod_same_j91 N kk x4_5 x3_5 α)))
def f_Mod_same (N : Nat) (kk : (Int32 → Int32 → mS → Option Int32)) (a1 : Int32) (a2 : Int32) (α : mS) : Option Int32 := f_Mod_same_5 N kk α N a2 a1
set_option maxHeartbeats 4000000 in
set_option maxRecDepth 100000 in
theorem k_Mod_same {l : Launch} {g : mG} {α : mS} (N : Nat) (kk : (Int32 → Int32 → mS → Option Int32)) (d : Nat) (hk : hk_same l g kk (1 + d) (1 + 24 * d)) (a1 : Int32) (a2 : Int32)  : ∀ x, f_Mod_same N kk a1 a2 α = some x → mV l g y_Mod_same b_Mod_same 5 (some .boolean) (1 + (d + 1)) (1 + 24 * (d + 1)) [.ref (mad g 0), .int a1, .int a2] α x := by
  intro x h
  unfold f_Mod_same at h
  refine mv_ofW (by decide) (fun A p e s m args below meth c S hr hlocks hargs E hI => ?_)
  have hx := S.1
  have hb := S.2.1
  have hown := S.2.2.2.1
  have hT := S.2.2.2.2
  subst hargs
  have hl := lv_entry ([.ref (mad g 0), .int a1, .int a2]) (n := 5) (Nat.le_of_ble_eq_true rfl)
  rw [lg_entry_eq]
  generalize (lg_sl ([.ref (mad g 0), .int a1, .int a2]) ++ List.replicate (5 - (lg_sl ([.ref (mad g 0), .int a1, .int a2])).length) Slot.unset).toArray = ls at hl ⊢
  have hl : lv_has ls 5 [(0, .ref (mad g 0)), (1, .int a1), (2, .int a2)] := hl
  refine lv_iload_n hx hb d_Mod_same_0 rfl (lv_at hl 1 rfl) ?_
  refine lv_istore_n (lv' := [(3, .int a1), (0, .ref (mad g 0)), (1, .int a1), (2, .int a2)]) hx hb d_Mod_same_1 rfl hl (by decide) rfl (fun ls hl => ?_)
  refine lv_iload_n hx hb d_Mod_same_2 rfl (lv_at hl 3 rfl) ?_
  refine lv_istore (lv' := [(4, .int a2), (3, .int a1), (0, .ref (mad g 0)), (1, .int a1), (2, .int a2)]) hx hb d_Mod_same_3 hl (by decide) rfl (fun ls hl => ?_)
  have L5 : ∀ (n5 : Nat) (x4_5 : Int32) (x3_5 : Int32) (ls : Array Slot), f_Mod_same_5 N kk α n5 x4_5 x3_5 = some x → lv_has ls 5 [(4, .int x4_5), (3, .int x3_5), (0, .ref (mad g 0))] → W p l e (mP (1 + (d + 1)) (1 + 24 * (d + 1))) s m ([.ref (mad g 0), .int a1, .int a2]).toArray below meth c s.heap [] 0 0 (MQ below (QcRead x) ([.ref (mad g 0), .int a1, .int a2]).toArray s 0 0 (fun _ => False)) (F0 m 5 ls []) := by
    intro n5
    induction n5 with
    | zero => intro x4_5 x3_5 ls h hl; rw [f_Mod_same_5] at h; cases h
    | succ n5 ih5 =>
      intro x4_5 x3_5 ls h hl
      rw [f_Mod_same_5] at h
      have J192 : ∀ (y4 : Int32) (y3 : Int32) (ls : Array Slot), f_Mod_same_j192 N kk y4 y3 α = some x → lv_has ls 5 [(4, .int y4), (3, .int y3), (0, .ref (mad g 0))] → W p l e (mP (1 + (d + 1)) (1 + 24 * (d + 1))) s m ([.ref (mad g 0), .int a1, .int a2]).toArray below meth c s.heap [] 0 0 (MQ below (QcRead x) ([.ref (mad g 0), .int a1, .int a2]).toArray s 0 0 (fun _ => False)) (F0 m 192 ls []) := by
        intro y4 y3 ls h hl
        unfold f_Mod_same_j192 at h
        refine lv_aload_n hx hb d_Mod_same_192 rfl (lv_at hl 2 rfl) ?_
        refine mf_one S E hI vt_1280 d_Mod_same_193 ?_
        refine lv_iload_n hx hb d_Mod_same_196 rfl (lv_at hl 1 rfl) ?_
        by_cases c11 : y3 < 0 ∨ 400000 ≤ (y3 : Int32).toNatClampNeg
        · replace h := Eq.trans (if_pos c11).symm h
          cases h
        · replace h := Eq.trans (if_neg c11).symm h
          refine ml_one S E hI c11 d_Mod_same_197 ?_
          refine lv_aload_n hx hb d_Mod_same_198 rfl (lv_at hl 2 rfl) ?_
          refine mf_one S E hI vt_1280 d_Mod_same_199 ?_
          refine lv_iload hx hb d_Mod_same_202 (lv_at hl 0 rfl) ?_
          by_cases c12 : y4 < 0 ∨ 400000 ≤ (y4 : Int32).toNatClampNeg
          · replace h := Eq.trans (if_pos c12).symm h
            cases h
          · replace h := Eq.trans (if_neg c12).symm h
            refine ml_one S E hI c12 d_Mod_same_204 ?_
            refine lv_icmp_ne (tgt := 212) hx hb d_Mod_same_205 (by decide) (fun c13 => ?_) (fun c13 => ?_)
            · replace h := Eq.trans (if_neg c13).symm h
              refine lv_iconst (v := 0) hx hb d_Mod_same_212 (by decide) ?_
              exact kv_iret (w := 0) hx hb hr (by decide) hlocks (Option.some.inj h) d_Mod_same_213
            · replace h := Eq.trans (if_pos c13).symm h
              refine lv_iconst (v := 1) hx hb d_Mod_same_208 (by decide) ?_
              refine lv_goto (tgt := 213) hx hb d_Mod_same_209 (by decide) ?_
              exact kv_iret (w := 1) hx hb hr (by decide) hlocks (Option.some.inj h) d_Mod_same_213
      have J318 : ∀ (y4 : Int32) (y3 : Int32) (ls : Array Slot), f_Mod_same_j318 N kk y4 y3 α = some x → lv_has ls 5 [(4, .int y4), (3, .int y3), (0, .ref (mad g 0))] → W p l e (mP (1 + (d + 1)) (1 + 24 * (d + 1))) s m ([.ref (mad g 0), .int a1, .int a2]).toArray below meth c s.heap [] 0 0 (MQ below (QcRead x) ([.ref (mad g 0), .int a1, .int a2]).toArray s 0 0 (fun _ => False)) (F0 m 318 ls []) := by
        intro y4 y3 ls h hl
        unfold f_Mod_same_j318 at h
        refine lv_aload_n hx hb d_Mod_same_318 rfl (lv_at hl 2 rfl) ?_
        refine mf_kind S E hI vt_1279 d_Mod_same_319 ?_
        refine lv_iload_n hx hb d_Mod_same_322 rfl (lv_at hl 1 rfl) ?_
        by_cases c26 : y3 < 0 ∨ 400000 ≤ (y3 : Int32).toNatClampNeg
        · replace h := Eq.trans (if_pos c26).symm h
          cases h
        · replace h := Eq.trans (if_neg c26).symm h
          refine ml_kind S E hI c26 d_Mod_same_323 ?_
          refine lv_bipush (v := 8) hx hb d_Mod_same_324 (by decide) ?_
          refine lv_icmp_eq (tgt := 373) hx hb d_Mod_same_326 (by decide) (fun c27 => ?_) (fun c27 => ?_)
          · replace h := Eq.trans (if_pos c27).symm h
            refine lv_iconst (v := 0) hx hb d_Mod_same_373 (by decide) ?_
            exact kv_iret (w := 0) hx hb hr (by decide) hlocks (Option.some.inj h) d_Mod_same_374
          · replace h := Eq.trans (if_neg c27).symm h
            refine lv_aload_n hx hb d_Mod_same_329 rfl (lv_at hl 2 rfl) ?_
            refine lv_aload_n hx hb d_Mod_same_330 rfl (lv_at hl 2 rfl) ?_
            refine mf_one S E hI vt_1280 d_Mod_same_331 ?_
            refine lv_iload_n hx hb d_Mod_same_334 rfl (lv_at hl 1 rfl) ?_
            by_cases c28 : y3 < 0 ∨ 400000 ≤ (y3 : Int32).toNatClampNeg
            · replace h := Eq.trans (if_pos c28).symm h
              cases h
            · replace h := Eq.trans (if_neg c28).symm h
              refine ml_one S E hI c28 d_Mod_same_335 ?_
              refine lv_aload_n hx hb d_Mod_same_336 rfl (lv_at hl 2 rfl) ?_
              refine mf_one S E hI vt_1280 d_Mod_same_337 ?_
              refine lv_iload hx hb d_Mod_same_340 (lv_at hl 0 rfl) ?_
              by_cases c29 : y4 < 0 ∨ 400000 ≤ (y4 : Int32).toNatClampNeg
              · replace h := Eq.trans (if_pos c29).symm h
                cases h
              · replace h := Eq.trans (if_neg c29).symm h
                refine ml_one S E hI c29 d_Mod_same_342 ?_
                obtain ⟨v30, e31, h⟩ := Option.bind_eq_some_iff.mp h
                refine mg_p (As := [.int (α.2 3 (y3 : Int32).toNatClampNeg), .int (α.2 3 (y4 : Int32).toNatClampNeg)]) (rest := []) ((hk (α.2 3 (y3 : Int32).toNatClampNeg) (α.2 3 (y4 : Int32).toNatClampNeg) α) _ e31) S E hI kw_Mod_340 (Or.inr rfl) ⟨by omega, by omega⟩ (mv_Mod E hI) rfl hl.1 rfl (Nat.le_of_ble_eq_true rfl) d_Mod_same_343 rfl ?_
                refine lv_if_eq (tgt := 373) hx hb d_Mod_same_346 (by decide) (fun c32 => ?_) (fun c32 => ?_)
                · replace h := Eq.trans (if_pos c32).symm h
                  refine lv_iconst (v := 0) hx hb d_Mod_same_373 (by decide) ?_
                  exact kv_iret (w := 0) hx hb hr (by decide) hlocks (Option.some.inj h) d_Mod_same_374
                · replace h := Eq.trans (if_neg c32).symm h
                  refine lv_aload_n hx hb d_Mod_same_349 rfl (lv_at hl 2 rfl) ?_
                  refine lv_aload_n hx hb d_Mod_same_350 rfl (lv_at hl 2 rfl) ?_
                  refine mf_two S E hI vt_1281 d_Mod_same_351 ?_
                  refine lv_iload_n hx hb d_Mod_same_354 rfl (lv_at hl 1 rfl) ?_
                  by_cases c33 : y3 < 0 ∨ 400000 ≤ (y3 : Int32).toNatClampNeg
                  · replace h := Eq.trans (if_pos c33).symm h
                    cases h
                  · replace h := Eq.trans (if_neg c33).symm h
                    refine ml_two S E hI c33 d_Mod_same_355 ?_
                    refine lv_aload_n hx hb d_Mod_same_356 rfl (lv_at hl 2 rfl) ?_
                    refine mf_two S E hI vt_1281 d_Mod_same_357 ?_
                    refine lv_iload hx hb d_Mod_same_360 (lv_at hl 0 rfl) ?_
                    by_cases c34 : y4 < 0 ∨ 400000 ≤ (y4 : Int32).toNatClampNeg
                    · replace h := Eq.trans (if_pos c34).symm h
                      cases h
                    · replace h := Eq.trans (if_neg c34).symm h
                      refine ml_two S E hI c34 d_Mod_same_362 ?_
                      obtain ⟨v35, e36, h⟩ := Option.bind_eq_some_iff.mp h
                      refine mg_p (As := [.int (α.2 4 (y3 : Int32).toNatClampNeg), .int (α.2 4 (y4 : Int32).toNatClampNeg)]) (rest := []) ((hk (α.2 4 (y3 : Int32).toNatClampNeg) (α.2 4 (y4 : Int32).toNatClampNeg) α) _ e36) S E hI kw_Mod_340 (Or.inr rfl) ⟨by omega, by omega⟩ (mv_Mod E hI) rfl hl.1 rfl (Nat.le_of_ble_eq_true rfl) d_Mod_same_363 rfl ?_
                      refine lv_if_eq (tgt := 373) hx hb d_Mod_same_366 (by decide) (fun c37 => ?_) (fun c37 => ?_)
                      · replace h := Eq.trans (if_pos c37).symm h
                        refine lv_iconst (v := 0) hx hb d_Mod_same_373 (by decide) ?_
                        exact kv_iret (w := 0) hx hb hr (by decide) hlocks (Option.some.inj h) d_Mod_same_374
                      · replace h := Eq.trans (if_neg c37).symm h
                        refine lv_iconst (v := 1) hx hb d_Mod_same_369 (by decide) ?_
                        refine lv_goto (tgt := 374) hx hb d_Mod_same_370 (by decide) ?_
                        exact kv_iret (w := 1) hx hb hr (by decide) hlocks (Option.some.inj h) d_Mod_same_374
      have J91 : ∀ (y4 : Int32) (y3 : Int32) (ls : Array Slot), f_Mod_same_j91 N kk y4 y3 α = some x → lv_has ls 5 [(4, .int y4), (3, .int y3), (0, .ref (mad g 0))] → W p l e (mP (1 + (d + 1)) (1 + 24 * (d + 1))) s m ([.ref (mad g 0), .int a1, .int a2]).toArray below meth c s.heap [] 0 0 (MQ below (QcRead x) ([.ref (mad g 0), .int a1, .int a2]).toArray s 0 0 (fun _ => False)) (F0 m 91 ls []) := by
        intro y4 y3 ls h hl
        unfold f_Mod_same_j91 at h
        refine lv_iload_n hx hb d_Mod_same_91 rfl (lv_at hl 1 rfl) ?_
        refine lv_iload hx hb d_Mod_same_92 (lv_at hl 0 rfl) ?_
        refine lv_icmp_ne (tgt := 99) hx hb d_Mod_same_94 (by decide) (fun c2 => ?_) (fun c2 => ?_)
        · replace h := Eq.trans (if_neg c2).symm h
          refine lv_aload_n hx hb d_Mod_same_99 rfl (lv_at hl 2 rfl) ?_
          refine mf_kind S E hI vt_1279 d_Mod_same_100 ?_
          refine lv_iload_n hx hb d_Mod_same_103 rfl (lv_at hl 1 rfl) ?_
          by_cases c3 : y3 < 0 ∨ 400000 ≤ (y3 : Int32).toNatClampNeg
          · replace h := Eq.trans (if_pos c3).symm h
            cases h
          · replace h := Eq.trans (if_neg c3).symm h
            refine ml_kind S E hI c3 d_Mod_same_104 ?_
            refine lv_aload_n hx hb d_Mod_same_105 rfl (lv_at hl 2 rfl) ?_
            refine mf_kind S E hI vt_1279 d_Mod_same_106 ?_
            refine lv_iload hx hb d_Mod_same_109 (lv_at hl 0 rfl) ?_
            by_cases c4 : y4 < 0 ∨ 400000 ≤ (y4 : Int32).toNatClampNeg
            · replace h := Eq.trans (if_pos c4).symm h
              cases h
            · replace h := Eq.trans (if_neg c4).symm h
              refine ml_kind S E hI c4 d_Mod_same_111 ?_
              refine lv_icmp_ne (tgt := 131) hx hb d_Mod_same_112 (by decide) (fun c5 => ?_) (fun c5 => ?_)
              · replace h := Eq.trans (if_neg c5).symm h
                refine lv_iconst (v := 0) hx hb d_Mod_same_131 (by decide) ?_
                exact kv_iret (w := 0) hx hb hr (by decide) hlocks (Option.some.inj h) d_Mod_same_132
              · replace h := Eq.trans (if_pos c5).symm h
                refine lv_aload_n hx hb d_Mod_same_115 rfl (lv_at hl 2 rfl) ?_
                refine mf_big S E hI vt_1283 d_Mod_same_116 ?_
                refine lv_iload_n hx hb d_Mod_same_119 rfl (lv_at hl 1 rfl) ?_
                by_cases c6 : y3 < 0 ∨ 400000 ≤ (y3 : Int32).toNatClampNeg
                · replace h := Eq.trans (if_pos c6).symm h
                  cases h
                · replace h := Eq.trans (if_neg c6).symm h
                  refine ml_big S E hI c6 d_Mod_same_120 ?_
                  refine lv_aload_n hx hb d_Mod_same_121 rfl (lv_at hl 2 rfl) ?_
                  refine mf_big S E hI vt_1283 d_Mod_same_122 ?_
                  refine lv_iload hx hb d_Mod_same_125 (lv_at hl 0 rfl) ?_
                  by_cases c7 : y4 < 0 ∨ 400000 ≤ (y4 : Int32).toNatClampNeg
                  · replace h := Eq.trans (if_pos c7).symm h
                    cases h
                  · replace h := Eq.trans (if_neg c7).symm h
                    refine ml_big S E hI c7 d_Mod_same_127 ?_
                    refine lv_icmp_eq (tgt := 133) hx hb d_Mod_same_128 (by decide) (fun c8 => ?_) (fun c8 => ?_)
                    · replace h := Eq.trans (if_pos c8).symm h
                      refine lv_aload_n hx hb d_Mod_same_133 rfl (lv_at hl 2 rfl) ?_
                      refine mf_kind S E hI vt_1279 d_Mod_same_134 ?_
                      refine lv_iload_n hx hb d_Mod_same_137 rfl (lv_at hl 1 rfl) ?_
                      by_cases c9 : y3 < 0 ∨ 400000 ≤ (y3 : Int32).toNatClampNeg
                      · replace h := Eq.trans (if_pos c9).symm h
                        cases h
                      · replace h := Eq.trans (if_neg c9).symm h
                        refine ml_kind S E hI c9 d_Mod_same_138 ?_
                        by_cases c10 : (α.2 2 (y3 : Int32).toNatClampNeg) = 0
                        · replace h := Eq.trans (if_pos c10).symm h
                          refine lv_tableIn (off := 53) (tgt := 192) hx hb d_Mod_same_139 (by rw [c10]; decide) (by rw [c10]; decide) (by rw [c10]; rfl) (by decide) ?_
                          exact J192 y4 y3 _ h (lv_sub hl [0, 1, 2] rfl)
                        · replace h := Eq.trans (if_neg c10).symm h
                          have nc10 := ksw (z := 0) rfl c10
                          by_cases c14 : (α.2 2 (y3 : Int32).toNatClampNeg) = 1
                          · replace h := Eq.trans (if_pos c14).symm h
                            refine lv_tableIn (off := 53) (tgt := 192) hx hb d_Mod_same_139 (by rw [c14]; decide) (by rw [c14]; decide) (by rw [c14]; rfl) (by decide) ?_
                            exact J192 y4 y3 _ h (lv_sub hl [0, 1, 2] rfl)
                          · replace h := Eq.trans (if_neg c14).symm h
                            have nc14 := ksw (z := 1) rfl c14
                            by_cases c15 : (α.2 2 (y3 : Int32).toNatClampNeg) = 2
                            · replace h := Eq.trans (if_pos c15).symm h
                              refine lv_tableIn (off := 75) (tgt := 214) hx hb d_Mod_same_139 (by rw [c15]; decide) (by rw [c15]; decide) (by rw [c15]; rfl) (by decide) ?_
                              refine lv_aload_n hx hb d_Mod_same_214 rfl (lv_at hl 2 rfl) ?_
                              refine mf_one S E hI vt_1280 d_Mod_same_215 ?_
                              refine lv_iload_n hx hb d_Mod_same_218 rfl (lv_at hl 1 rfl) ?_
                              by_cases c16 : y3 < 0 ∨ 400000 ≤ (y3 : Int32).toNatClampNeg
                              · replace h := Eq.trans (if_pos c16).symm h
                                cases h
                              · replace h := Eq.trans (if_neg c16).symm h
                                refine ml_one S E hI c16 d_Mod_same_219 ?_
                                refine lv_aload_n hx hb d_Mod_same_220 rfl (lv_at hl 2 rfl) ?_
                                refine mf_one S E hI vt_1280 d_Mod_same_221 ?_
                                refine lv_iload hx hb d_Mod_same_224 (lv_at hl 0 rfl) ?_
                                by_cases c17 : y4 < 0 ∨ 400000 ≤ (y4 : Int32).toNatClampNeg
                                · replace h := Eq.trans (if_pos c17).symm h
                                  cases h
                                · replace h := Eq.trans (if_neg c17).symm h
                                  refine ml_one S E hI c17 d_Mod_same_226 ?_
                                  refine lv_icmp_ne (tgt := 250) hx hb d_Mod_same_227 (by decide) (fun c18 => ?_) (fun c18 => ?_)
                                  · replace h := Eq.trans (if_neg c18).symm h
                                    refine lv_iconst (v := 0) hx hb d_Mod_same_250 (by decide) ?_
                                    exact kv_iret (w := 0) hx hb hr (by decide) hlocks (Option.some.inj h) d_Mod_same_251
                                  · replace h := Eq.trans (if_pos c18).symm h
                                    refine lv_aload_n hx hb d_Mod_same_230 rfl (lv_at hl 2 rfl) ?_
                                    refine mf_two S E hI vt_1281 d_Mod_same_231 ?_
                                    refine lv_iload_n hx hb d_Mod_same_234 rfl (lv_at hl 1 rfl) ?_
                                    by_cases c19 : y3 < 0 ∨ 400000 ≤ (y3 : Int32).toNatClampNeg
                                    · replace h := Eq.trans (if_pos c19).symm h
                                      cases h
                                    · replace h := Eq.trans (if_neg c19).symm h
                                      refine ml_two S E hI c19 d_Mod_same_235 ?_
                                      refine lv_aload_n hx hb d_Mod_same_236 rfl (lv_at hl 2 rfl) ?_
                                      refine mf_two S E hI vt_1281 d_Mod_same_237 ?_
                                      refine lv_iload hx hb d_Mod_same_240 (lv_at hl 0 rfl) ?_
                                      by_cases c20 : y4 < 0 ∨ 400000 ≤ (y4 : Int32).toNatClampNeg
                                      · replace h := Eq.trans (if_pos c20).symm h
                                        cases h
                                      · replace h := Eq.trans (if_neg c20).symm h
                                        refine ml_two S E hI c20 d_Mod_same_242 ?_
                                        refine lv_icmp_ne (tgt := 250) hx hb d_Mod_same_243 (by decide) (fun c21 => ?_) (fun c21 => ?_)
                                        · replace h := Eq.trans (if_neg c21).symm h
                                          refine lv_iconst (v := 0) hx hb d_Mod_same_250 (by decide) ?_
                                          exact kv_iret (w := 0) hx hb hr (by decide) hlocks (Option.some.inj h) d_Mod_same_251
                                        · replace h := Eq.trans (if_pos c21).symm h
                                          refine lv_iconst (v := 1) hx hb d_Mod_same_246 (by decide) ?_
                                          refine lv_goto (tgt := 251) hx hb d_Mod_same_247 (by decide) ?_
                                          exact kv_iret (w := 1) hx hb hr (by decide) hlocks (Option.some.inj h) d_Mod_same_251
                            · replace h := Eq.trans (if_neg c15).symm h
                              have nc15 := ksw (z := 2) rfl c15
                              by_cases c22 : (α.2 2 (y3 : Int32).toNatClampNeg) = 3
                              · replace h := Eq.trans (if_pos c22).symm h
                                refine lv_tableIn (off := 53) (tgt := 192) hx hb d_Mod_same_139 (by rw [c22]; decide) (by rw [c22]; decide) (by rw [c22]; rfl) (by decide) ?_
                                exact J192 y4 y3 _ h (lv_sub hl [0, 1, 2] rfl)
                              · replace h := Eq.trans (if_neg c22).symm h
                                have nc22 := ksw (z := 3) rfl c22
                                by_cases c23 : (α.2 2 (y3 : Int32).toNatClampNeg) = 4
                                · replace h := Eq.trans (if_pos c23).symm h
                                  refine lv_tableIn (off := 53) (tgt := 192) hx hb d_Mod_same_139 (by rw [c23]; decide) (by rw [c23]; decide) (by rw [c23]; rfl) (by decide) ?_
                                  exact J192 y4 y3 _ h (lv_sub hl [0, 1, 2] rfl)
                                · replace h := Eq.trans (if_neg c23).symm h
                                  have nc23 := ksw (z := 4) rfl c23
                                  by_cases c24 : (α.2 2 (y3 : Int32).toNatClampNeg) = 5
                                  · replace h := Eq.trans (if_pos c24).symm h
                                    refine lv_tableIn (off := 53) (tgt := 192) hx hb d_Mod_same_139 (by rw [c24]; decide) (by rw [c24]; decide) (by rw [c24]; rfl) (by decide) ?_
                                    exact J192 y4 y3 _ h (lv_sub hl [0, 1, 2] rfl)
                                  · replace h := Eq.trans (if_neg c24).symm h
                                    have nc24 := ksw (z := 5) rfl c24
                                    by_cases c25 : (α.2 2 (y3 : Int32).toNatClampNeg) = 6
                                    · replace h := Eq.trans (if_pos c25).symm h
                                      refine lv_tableIn (off := 179) (tgt := 318) hx hb d_Mod_same_139 (by rw [c25]; decide) (by rw [c25]; decide) (by rw [c25]; rfl) (by decide) ?_
                                      exact J318 y4 y3 _ h (lv_sub hl [0, 1, 2] rfl)
                                    · replace h := Eq.trans (if_neg c25).symm h
                                      have nc25 := ksw (z := 6) rfl c25
                                      by_cases c38 : (α.2 2 (y3 : Int32).toNatClampNeg) = 7
                                      · replace h := Eq.trans (if_pos c38).symm h
                                        refine lv_tableIn (off := 179) (tgt := 318) hx hb d_Mod_same_139 (by rw [c38]; decide) (by rw [c38]; decide) (by rw [c38]; rfl) (by decide) ?_
                                        exact J318 y4 y3 _ h (lv_sub hl [0, 1, 2] rfl)
                                      · replace h := Eq.trans (if_neg c38).symm h
                                        have nc38 := ksw (z := 7) rfl c38
                                        by_cases c39 : (α.2 2 (y3 : Int32).toNatClampNeg) = 8
                                        · replace h := Eq.trans (if_pos c39).symm h
                                          refine lv_tableIn (off := 179) (tgt := 318) hx hb d_Mod_same_139 (by rw [c39]; decide) (by rw [c39]; decide) (by rw [c39]; rfl) (by decide) ?_
                                          exact J318 y4 y3 _ h (lv_sub hl [0, 1, 2] rfl)
                                        · replace h := Eq.trans (if_neg c39).symm h
                                          have nc39 := ksw (z := 8) rfl c39
                                          by_cases c40 : (α.2 2 (y3 : Int32).toNatClampNeg) = 9
                                          · replace h := Eq.trans (if_pos c40).symm h
                                            refine lv_tableIn (off := 113) (tgt := 252) hx hb d_Mod_same_139 (by rw [c40]; decide) (by rw [c40]; decide) (by rw [c40]; rfl) (by decide) ?_
                                            refine lv_aload_n hx hb d_Mod_same_252 rfl (lv_at hl 2 rfl) ?_
                                            refine lv_aload_n hx hb d_Mod_same_253 rfl (lv_at hl 2 rfl) ?_
                                            refine mf_one S E hI vt_1280 d_Mod_same_254 ?_
                                            refine lv_iload_n hx hb d_Mod_same_257 rfl (lv_at hl 1 rfl) ?_
                                            by_cases c41 : y3 < 0 ∨ 400000 ≤ (y3 : Int32).toNatClampNeg
                                            · replace h := Eq.trans (if_pos c41).symm h
                                              cases h
                                            · replace h := Eq.trans (if_neg c41).symm h
                                              refine ml_one S E hI c41 d_Mod_same_258 ?_
                                              refine lv_aload_n hx hb d_Mod_same_259 rfl (lv_at hl 2 rfl) ?_
                                              refine mf_one S E hI vt_1280 d_Mod_same_260 ?_
                                              refine lv_iload hx hb d_Mod_same_263 (lv_at hl 0 rfl) ?_
                                              by_cases c42 : y4 < 0 ∨ 400000 ≤ (y4 : Int32).toNatClampNeg
                                              · replace h := Eq.trans (if_pos c42).symm h
                                                cases h
                                              · replace h := Eq.trans (if_neg c42).symm h
                                                refine ml_one S E hI c42 d_Mod_same_265 ?_
                                                obtain ⟨v43, e44, h⟩ := Option.bind_eq_some_iff.mp h
                                                refine mg_p (As := [.int (α.2 3 (y3 : Int32).toNatClampNeg), .int (α.2 3 (y4 : Int32).toNatClampNeg)]) (rest := []) ((hk (α.2 3 (y3 : Int32).toNatClampNeg) (α.2 3 (y4 : Int32).toNatClampNeg) α) _ e44) S E hI kw_Mod_340 (Or.inr rfl) ⟨by omega, by omega⟩ (mv_Mod E hI) rfl hl.1 rfl (Nat.le_of_ble_eq_true rfl) d_Mod_same_266 rfl ?_
                                                refine lv_if_eq (tgt := 316) hx hb d_Mod_same_269 (by decide) (fun c45 => ?_) (fun c45 => ?_)
                                                · replace h := Eq.trans (if_pos c45).symm h
                                                  refine lv_iconst (v := 0) hx hb d_Mod_same_316 (by decide) ?_
                                                  exact kv_iret (w := 0) hx hb hr (by decide) hlocks (Option.some.inj h) d_Mod_same_317
                                                · replace h := Eq.trans (if_neg c45).symm h
                                                  refine lv_aload_n hx hb d_Mod_same_272 rfl (lv_at hl 2 rfl) ?_
                                                  refine lv_aload_n hx hb d_Mod_same_273 rfl (lv_at hl 2 rfl) ?_
                                                  refine mf_two S E hI vt_1281 d_Mod_same_274 ?_
                                                  refine lv_iload_n hx hb d_Mod_same_277 rfl (lv_at hl 1 rfl) ?_
                                                  by_cases c46 : y3 < 0 ∨ 400000 ≤ (y3 : Int32).toNatClampNeg
                                                  · replace h := Eq.trans (if_pos c46).symm h
                                                    cases h
                                                  · replace h := Eq.trans (if_neg c46).symm h
                                                    refine ml_two S E hI c46 d_Mod_same_278 ?_
                                                    refine lv_aload_n hx hb d_Mod_same_279 rfl (lv_at hl 2 rfl) ?_
                                                    refine mf_two S E hI vt_1281 d_Mod_same_280 ?_
                                                    refine lv_iload hx hb d_Mod_same_283 (lv_at hl 0 rfl) ?_
                                                    by_cases c47 : y4 < 0 ∨ 400000 ≤ (y4 : Int32).toNatClampNeg
                                                    · replace h := Eq.trans (if_pos c47).symm h
                                                      cases h
                                                    · replace h := Eq.trans (if_neg c47).symm h
                                                      refine ml_two S E hI c47 d_Mod_same_285 ?_
                                                      obtain ⟨v48, e49, h⟩ := Option.bind_eq_some_iff.mp h
                                                      refine mg_p (As := [.int (α.2 4 (y3 : Int32).toNatClampNeg), .int (α.2 4 (y4 : Int32).toNatClampNeg)]) (rest := []) ((hk (α.2 4 (y3 : Int32).toNatClampNeg) (α.2 4 (y4 : Int32).toNatClampNeg) α) _ e49) S E hI kw_Mod_340 (Or.inr rfl) ⟨by omega, by omega⟩ (mv_Mod E hI) rfl hl.1 rfl (Nat.le_of_ble_eq_true rfl) d_Mod_same_286 rfl ?_
                                                      refine lv_if_eq (tgt := 316) hx hb d_Mod_same_289 (by decide) (fun c50 => ?_) (fun c50 => ?_)
                                                      · replace h := Eq.trans (if_pos c50).symm h
                                                        refine lv_iconst (v := 0) hx hb d_Mod_same_316 (by decide) ?_
                                                        exact kv_iret (w := 0) hx hb hr (by decide) hlocks (Option.some.inj h) d_Mod_same_317
                                                      · replace h := Eq.trans (if_neg c50).symm h
                                                        refine lv_aload_n hx hb d_Mod_same_292 rfl (lv_at hl 2 rfl) ?_
                                                        refine lv_aload_n hx hb d_Mod_same_293 rfl (lv_at hl 2 rfl) ?_
                                                        refine mf_three S E hI vt_1282 d_Mod_same_294 ?_
                                                        refine lv_iload_n hx hb d_Mod_same_297 rfl (lv_at hl 1 rfl) ?_
                                                        by_cases c51 : y3 < 0 ∨ 400000 ≤ (y3 : Int32).toNatClampNeg
                                                        · replace h := Eq.trans (if_pos c51).symm h
                                                          cases h
                                                        · replace h := Eq.trans (if_neg c51).symm h
                                                          refine ml_three S E hI c51 d_Mod_same_298 ?_
                                                          refine lv_aload_n hx hb d_Mod_same_299 rfl (lv_at hl 2 rfl) ?_
                                                          refine mf_three S E hI vt_1282 d_Mod_same_300 ?_
                                                          refine lv_iload hx hb d_Mod_same_303 (lv_at hl 0 rfl) ?_
                                                          by_cases c52 : y4 < 0 ∨ 400000 ≤ (y4 : Int32).toNatClampNeg
                                                          · replace h := Eq.trans (if_pos c52).symm h
                                                            cases h
                                                          · replace h := Eq.trans (if_neg c52).symm h
                                                            refine ml_three S E hI c52 d_Mod_same_305 ?_
                                                            obtain ⟨v53, e54, h⟩ := Option.bind_eq_some_iff.mp h
                                                            refine mg_p (As := [.int (α.2 5 (y3 : Int32).toNatClampNeg), .int (α.2 5 (y4 : Int32).toNatClampNeg)]) (rest := []) ((hk (α.2 5 (y3 : Int32).toNatClampNeg) (α.2 5 (y4 : Int32).toNatClampNeg) α) _ e54) S E hI kw_Mod_340 (Or.inr rfl) ⟨by omega, by omega⟩ (mv_Mod E hI) rfl hl.1 rfl (Nat.le_of_ble_eq_true rfl) d_Mod_same_306 rfl ?_
                                                            refine lv_if_eq (tgt := 316) hx hb d_Mod_same_309 (by decide) (fun c55 => ?_) (fun c55 => ?_)
                                                            · replace h := Eq.trans (if_pos c55).symm h
                                                              refine lv_iconst (v := 0) hx hb d_Mod_same_316 (by decide) ?_
                                                              exact kv_iret (w := 0) hx hb hr (by decide) hlocks (Option.some.inj h) d_Mod_same_317
                                                            · replace h := Eq.trans (if_neg c55).symm h
                                                              refine lv_iconst (v := 1) hx hb d_Mod_same_312 (by decide) ?_
                                                              refine lv_goto (tgt := 317) hx hb d_Mod_same_313 (by decide) ?_
                                                              exact kv_iret (w := 1) hx hb hr (by decide) hlocks (Option.some.inj h) d_Mod_same_317
                                          · replace h := Eq.trans (if_neg c40).symm h
                                            have nc40 := ksw (z := 9) rfl c40
                                            refine lv_tableOut (tgt := 318) hx hb d_Mod_same_139 (by omega) (by decide) ?_
                                            exact J318 y4 y3 _ h (lv_sub hl [0, 1, 2] rfl)
                    · replace h := Eq.trans (if_neg c8).symm h
                      refine lv_iconst (v := 0) hx hb d_Mod_same_131 (by decide) ?_
                      exact kv_iret (w := 0) hx hb hr (by decide) hlocks (Option.some.inj h) d_Mod_same_132
        · replace h := Eq.trans (if_pos c2).symm h
          refine lv_iconst (v := 1) hx hb d_Mod_same_97 (by decide) ?_
          exact kv_iret (w := 1) hx hb hr (by decide) hlocks (Option.some.inj h) d_Mod_same_98
      refine lv_iload_n hx hb d_Mod_same_5 rfl (lv_at hl 1 rfl) ?_
      refine lv_iload hx hb d_Mod_same_6 (lv_at hl 0 rfl) ?_
      refine lv_icmp_eq (tgt := 91) hx hb d_Mod_same_8 (by decide) (fun c1 => ?_) (fun c1 => ?_)
      · replace h := Eq.trans (if_pos c1).symm h
        exact J91 x4_5 x3_5 _ h (lv_sub hl [0, 1, 2] rfl)
      · replace h := Eq.trans (if_neg c1).symm h
        refine lv_aload_n hx hb d_Mod_same_11 rfl (lv_at hl 2 rfl) ?_
        refine mf_kind S E hI vt_1279 d_Mod_same_12 ?_
        refine lv_iload_n hx hb d_Mod_same_15 rfl (lv_at hl 1 rfl) ?_
        by_cases c56 : x3_5 < 0 ∨ 400000 ≤ (x3_5 : Int32).toNatClampNeg
        · replace h := Eq.trans (if_pos c56).symm h
          cases h
        · replace h := Eq.trans (if_neg c56).symm h
          refine ml_kind S E hI c56 d_Mod_same_16 ?_
          refine lv_bipush (v := 8) hx hb d_Mod_same_17 (by decide) ?_
          refine lv_icmp_ne (tgt := 91) hx hb d_Mod_same_19 (by decide) (fun c57 => ?_) (fun c57 => ?_)
          · replace h := Eq.trans (if_neg c57).symm h
            exact J91 x4_5 x3_5 _ h (lv_sub hl [0, 1, 2] rfl)
          · replace h := Eq.trans (if_pos c57).symm h
            refine lv_aload_n hx hb d_Mod_same_22 rfl (lv_at hl 2 rfl) ?_
            refine mf_kind S E hI vt_1279 d_Mod_same_23 ?_
            refine lv_iload hx hb d_Mod_same_26 (lv_at hl 0 rfl) ?_
            by_cases c58 : x4_5 < 0 ∨ 400000 ≤ (x4_5 : Int32).toNatClampNeg
            · replace h := Eq.trans (if_pos c58).symm h
              cases h
            · replace h := Eq.trans (if_neg c58).symm h
              refine ml_kind S E hI c58 d_Mod_same_28 ?_
              refine lv_bipush (v := 8) hx hb d_Mod_same_29 (by decide) ?_
              refine lv_icmp_ne (tgt := 91) hx hb d_Mod_same_31 (by decide) (fun c59 => ?_) (fun c59 => ?_)
              · replace h := Eq.trans (if_neg c59).symm h
                exact J91 x4_5 x3_5 _ h (lv_sub hl [0, 1, 2] rfl)
              · replace h := Eq.trans (if_pos c59).symm h
                refine lv_aload_n hx hb d_Mod_same_34 rfl (lv_at hl 2 rfl) ?_
                refine mf_big S E hI vt_1283 d_Mod_same_35 ?_
                refine lv_iload_n hx hb d_Mod_same_38 rfl (lv_at hl 1 rfl) ?_
                by_cases c60 : x3_5 < 0 ∨ 400000 ≤ (x3_5 : Int32).toNatClampNeg
                · replace h := Eq.trans (if_pos c60).symm h
                  cases h
                · replace h := Eq.trans (if_neg c60).symm h
                  refine ml_big S E hI c60 d_Mod_same_39 ?_
                  refine lv_aload_n hx hb d_Mod_same_40 rfl (lv_at hl 2 rfl) ?_
                  refine mf_big S E hI vt_1283 d_Mod_same_41 ?_
                  refine lv_iload hx hb d_Mod_same_44 (lv_at hl 0 rfl) ?_
                  by_cases c61 : x4_5 < 0 ∨ 400000 ≤ (x4_5 : Int32).toNatClampNeg
                  · replace h := Eq.trans (if_pos c61).symm h
                    cases h
                  · replace h := Eq.trans (if_neg c61).symm h
                    refine ml_big S E hI c61 d_Mod_same_46 ?_
                    refine lv_icmp_ne (tgt := 91) hx hb d_Mod_same_47 (by decide) (fun c62 => ?_) (fun c62 => ?_)
                    · replace h := Eq.trans (if_neg c62).symm h
                      exact J91 x4_5 x3_5 _ h (lv_sub hl [0, 1, 2] rfl)
                    · replace h := Eq.trans (if_pos c62).symm h
                      refine lv_aload_n hx hb d_Mod_same_50 rfl (lv_at hl 2 rfl) ?_
                      refine lv_aload_n hx hb d_Mod_same_51 rfl (lv_at hl 2 rfl) ?_
                      refine mf_two S E hI vt_1281 d_Mod_same_52 ?_
                      refine lv_iload_n hx hb d_Mod_same_55 rfl (lv_at hl 1 rfl) ?_
                      by_cases c63 : x3_5 < 0 ∨ 400000 ≤ (x3_5 : Int32).toNatClampNeg
                      · replace h := Eq.trans (if_pos c63).symm h
                        cases h
                      · replace h := Eq.trans (if_neg c63).symm h
                        refine ml_two S E hI c63 d_Mod_same_56 ?_
                        refine lv_aload_n hx hb d_Mod_same_57 rfl (lv_at hl 2 rfl) ?_
                        refine mf_two S E hI vt_1281 d_Mod_same_58 ?_
                        refine lv_iload hx hb d_Mod_same_61 (lv_at hl 0 rfl) ?_
                        by_cases c64 : x4_5 < 0 ∨ 400000 ≤ (x4_5 : Int32).toNatClampNeg
                        · replace h := Eq.trans (if_pos c64).symm h
                          cases h
                        · replace h := Eq.trans (if_neg c64).symm h
                          refine ml_two S E hI c64 d_Mod_same_63 ?_
                          obtain ⟨v65, e66, h⟩ := Option.bind_eq_some_iff.mp h
                          refine mg_p (As := [.int (α.2 4 (x3_5 : Int32).toNatClampNeg), .int (α.2 4 (x4_5 : Int32).toNatClampNeg)]) (rest := []) ((hk (α.2 4 (x3_5 : Int32).toNatClampNeg) (α.2 4 (x4_5 : Int32).toNatClampNeg) α) _ e66) S E hI kw_Mod_340 (Or.inr rfl) ⟨by omega, by omega⟩ (mv_Mod E hI) rfl hl.1 rfl (Nat.le_of_ble_eq_true rfl) d_Mod_same_64 rfl ?_
                          refine lv_if_ne (tgt := 72) hx hb d_Mod_same_67 (by decide) (fun c67 => ?_) (fun c67 => ?_)
                          · replace h := Eq.trans (if_neg c67).symm h
                            refine lv_aload_n hx hb d_Mod_same_72 rfl (lv_at hl 2 rfl) ?_
                            refine mf_one S E hI vt_1280 d_Mod_same_73 ?_
                            refine lv_iload_n hx hb d_Mod_same_76 rfl (lv_at hl 1 rfl) ?_
                            by_cases c68 : x3_5 < 0 ∨ 400000 ≤ (x3_5 : Int32).toNatClampNeg
                            · replace h := Eq.trans (if_pos c68).symm h
                              cases h
                            · replace h := Eq.trans (if_neg c68).symm h
                              refine ml_one S E hI c68 d_Mod_same_77 ?_
                              refine lv_istore_n (lv' := [(3, .int (α.2 3 (x3_5 : Int32).toNatClampNeg)), (4, .int x4_5), (0, .ref (mad g 0))]) hx hb d_Mod_same_78 rfl hl (by decide) rfl (fun ls hl => ?_)
                              refine lv_aload_n hx hb d_Mod_same_79 rfl (lv_at hl 2 rfl) ?_
                              refine mf_one S E hI vt_1280 d_Mod_same_80 ?_
                              refine lv_iload hx hb d_Mod_same_83 (lv_at hl 1 rfl) ?_
                              by_cases c69 : x4_5 < 0 ∨ 400000 ≤ (x4_5 : Int32).toNatClampNeg
                              · replace h := Eq.trans (if_pos c69).symm h
                                cases h
                              · replace h := Eq.trans (if_neg c69).symm h
                                refine ml_one S E hI c69 d_Mod_same_85 ?_
                                refine lv_istore (lv' := [(4, .int (α.2 3 (x4_5 : Int32).toNatClampNeg)), (3, .int (α.2 3 (x3_5 : Int32).toNatClampNeg)), (0, .ref (mad g 0))]) hx hb d_Mod_same_86 hl (by decide) rfl (fun ls hl => ?_)
                                refine lv_goto (tgt := 5) hx hb d_Mod_same_88 (by decide) ?_
                                exact ih5 (α.2 3 (x4_5 : Int32).toNatClampNeg) (α.2 3 (x3_5 : Int32).toNatClampNeg) _ h (lv_sub hl [0, 1, 2] rfl)
                          · replace h := Eq.trans (if_pos c67).symm h
                            refine lv_iconst (v := 0) hx hb d_Mod_same_70 (by decide) ?_
                            exact kv_iret (w := 0) hx hb hr (by decide) hlocks (Option.some.inj h) d_Mod_same_71
  exact L5 N a2 a1 _ h (lv_sub hl [0, 1, 2] rfl)
def G_same (N : Nat) : Nat → (Int32 → Int32 → mS → Option Int32)
  | 0 => (fun _ _ _ => none)
  | d + 1 => (f_Mod_same N (G_same N d))
theorem ok_same {l : Launch} {g : mG} (N : Nat) : ∀ d, hk_same l g (G_same N d) (1 + d) (1 + 24 * d)
  | 0 => (fun a1 a2  α x h => by cases h)
  | d + 1 => by
    have ih := ok_same (l := l) (g := g) N d
    exact (fun a1 a2  α x h => k_Mod_same (α := α) N _ d ih a1 a2  x h)
def dp_same : Nat := 260
