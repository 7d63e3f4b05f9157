theorem kw_Env_24 : kWv "FamilyKernel$Environment" 24 "FamilyKernel$Row" y_Row_size b_Row_size 1 (some .int) 0 := ⟨vt_323, vt_270, vt_271, vt_4, vt_272, by decide, by decide, by decide +kernel⟩
def f_Env_length  (α : kS) : Int32 := ((fR_size α 5) / 12)
set_option maxHeartbeats 4000000 in
set_option maxRecDepth 100000 in
theorem k_Env_length {l : Launch} {g : kG} {α : kS}   : kV l g y_Env_length b_Env_length 1 (some .int) 11 320 [.ref (kad g 3)] α (f_Env_length α) := by
  generalize h : f_Env_length α = x
  unfold f_Env_length at h
  refine kv_ofW (by decide) (fun A ad p e s m args below meth c S hr hlocks hargs E hJ => ?_)
  have hx := S.1
  have hb := S.2.1
  have hown := S.2.2.2.1
  have hT := S.2.2.2.2
  subst hargs
  have hl := lv_entry ([.ref (kad g 3)]) (n := 1) (Nat.le_of_ble_eq_true rfl)
  rw [lg_entry_eq]
  generalize (lg_sl ([.ref (kad g 3)]) ++ List.replicate (1 - (lg_sl ([.ref (kad g 3)])).length) Slot.unset).toArray = ls at hl ⊢
  have hl : lv_has ls 1 [(0, .ref (kad g 3))] := hl
  refine lv_aload_n hx hb d_Env_length_0 rfl (lv_at hl 0 rfl) ?_
  refine kf_Env_facts S E hJ vt_105 d_Env_length_1 ?_
  refine kg_p (As := []) (rest := []) (k_Row_size (l := l) (g := g) (α := α) (r := 5) (by decide)) S E hJ kw_Env_24 ⟨Nat.le_of_ble_eq_true rfl, Nat.le_of_ble_eq_true rfl⟩ ⟨Nat.le_refl _, Nat.le_refl _⟩ (kv_Row (r := 5) (by decide) E hJ) rfl hl.1 rfl (Nat.le_of_ble_eq_true rfl) d_Env_length_4 rfl ?_
  refine lv_bipush (v := 12) hx hb d_Env_length_7 (by decide) ?_
  refine lv_idiv hx hb d_Env_length_9 (by decide) ?_
  exact kv_iret (w := ((fR_size α 5) / 12)) hx hb hr rfl hlocks h d_Env_length_10
theorem kw_Env_36 : kWv "FamilyKernel$Environment" 36 "FamilyKernel$Row" y_Row_at b_Row_at 2 (some .int) 1 := ⟨vt_466, vt_266, vt_267, vt_4, vt_268, by decide, by decide, by decide +kernel⟩
def f_Env_fact (a1 : Int32) (a2 : Int32) (α : kS) : Int32 := (fR_at α 5 ((a1 * 12) + a2))
set_option maxHeartbeats 4000000 in
set_option maxRecDepth 100000 in
theorem k_Env_fact {l : Launch} {g : kG} {α : kS} (a1 : Int32) (a2 : Int32)  : kV l g y_Env_fact b_Env_fact 3 (some .int) 11 321 [.ref (kad g 3), .int a1, .int a2] α (f_Env_fact a1 a2 α) := by
  generalize h : f_Env_fact a1 a2 α = x
  unfold f_Env_fact at h
  refine kv_ofW (by decide) (fun A ad p e s m args below meth c S hr hlocks hargs E hJ => ?_)
  have hx := S.1
  have hb := S.2.1
  have hown := S.2.2.2.1
  have hT := S.2.2.2.2
  subst hargs
  have hl := lv_entry ([.ref (kad g 3), .int a1, .int a2]) (n := 3) (Nat.le_of_ble_eq_true rfl)
  rw [lg_entry_eq]
  generalize (lg_sl ([.ref (kad g 3), .int a1, .int a2]) ++ List.replicate (3 - (lg_sl ([.ref (kad g 3), .int a1, .int a2])).length) Slot.unset).toArray = ls at hl ⊢
  have hl : lv_has ls 3 [(0, .ref (kad g 3)), (1, .int a1), (2, .int a2)] := hl
  refine lv_aload_n hx hb d_Env_fact_0 rfl (lv_at hl 0 rfl) ?_
  refine kf_Env_facts S E hJ vt_105 d_Env_fact_1 ?_
  refine lv_iload_n hx hb d_Env_fact_4 rfl (lv_at hl 1 rfl) ?_
  refine lv_bipush (v := 12) hx hb d_Env_fact_5 (by decide) ?_
  refine lv_imul hx hb d_Env_fact_7 ?_
  refine lv_iload_n hx hb d_Env_fact_8 rfl (lv_at hl 2 rfl) ?_
  refine lv_iadd hx hb d_Env_fact_9 ?_
  refine kg_p (As := [.int ((a1 * 12) + a2)]) (rest := []) (k_Row_at (l := l) (g := g) (α := α) (r := 5) (by decide) ((a1 * 12) + a2)) S E hJ kw_Env_36 ⟨Nat.le_of_ble_eq_true rfl, Nat.le_of_ble_eq_true rfl⟩ ⟨Nat.le_refl _, Nat.le_refl _⟩ (kv_Row (r := 5) (by decide) E hJ) rfl hl.1 rfl (Nat.le_of_ble_eq_true rfl) d_Env_fact_10 rfl ?_
  exact kv_iret (w := (fR_at α 5 ((a1 * 12) + a2))) hx hb hr rfl hlocks h d_Env_fact_13
theorem kw_Env_43 : kWv "FamilyKernel$Environment" 43 "FamilyKernel$Environment" y_Env_length b_Env_length 1 (some .int) 0 := ⟨vt_457, vt_181, vt_182, vt_26, vt_183, by decide, by decide, by decide +kernel⟩
theorem kw_Env_63 : kWv "FamilyKernel$Environment" 63 "FamilyKernel$Environment" y_Env_fact b_Env_fact 3 (some .int) 2 := ⟨vt_458, vt_459, vt_460, vt_26, vt_461, by decide, by decide, by decide +kernel⟩
theorem kw_Env_70 : kWv "FamilyKernel$Environment" 70 "FamilyKernel$Lexer" y_Lex_standsAt b_Lex_standsAt 5 (some .boolean) 2 := ⟨vt_462, vt_463, vt_464, vt_33, vt_465, by decide, by decide, by decide +kernel⟩
def f_Env_find_2 (N : Nat)  (α : kS) : Nat → Int32 → Int32 → Option Int32
  | 0, _, _ => none
  | n + 1, x3, x2 => if x2 ≤ x3 then (some (-1)) else (if (f_Env_length α) ≤ x3 then (some (-1)) else (((f_Lex_standsAt N 6 (f_Env_fact x3 11 α) α)).bind fun v3 => (if v3 = 0 then (f_Env_find_2 N α n (x3 + 1) x2) else (some x3))))
def f_Env_find (N : Nat) (a2 : Int32) (α : kS) : Option Int32 := f_Env_find_2 N α N 0 a2
set_option maxHeartbeats 4000000 in
set_option maxRecDepth 100000 in
theorem k_Env_find {l : Launch} {g : kG} {α : kS} (N : Nat) (a2 : Int32)  : ∀ x, f_Env_find N a2 α = some x → kV l g y_Env_find b_Env_find 4 (some .int) 12 345 [.ref (kad g 3), .ref (kad g 4), .int a2] α x := by
  intro x h
  unfold f_Env_find at h
  refine kv_ofW (by decide) (fun A ad p e s m args below meth c S hr hlocks hargs E hJ => ?_)
  have hx := S.1
  have hb := S.2.1
  have hown := S.2.2.2.1
  have hT := S.2.2.2.2
  subst hargs
  have hl := lv_entry ([.ref (kad g 3), .ref (kad g 4), .int a2]) (n := 4) (Nat.le_of_ble_eq_true rfl)
  rw [lg_entry_eq]
  generalize (lg_sl ([.ref (kad g 3), .ref (kad g 4), .int a2]) ++ List.replicate (4 - (lg_sl ([.ref (kad g 3), .ref (kad g 4), .int a2])).length) Slot.unset).toArray = ls at hl ⊢
  have hl : lv_has ls 4 [(0, .ref (kad g 3)), (1, .ref (kad g 4)), (2, .int a2)] := hl
  refine lv_iconst (v := 0) hx hb d_Env_find_0 (by decide) ?_
  refine lv_istore_n (lv' := [(3, .int 0), (0, .ref (kad g 3)), (1, .ref (kad g 4)), (2, .int a2)]) hx hb d_Env_find_1 rfl hl (by decide) rfl (fun ls hl => ?_)
  have L2 : ∀ (n2 : Nat) (x3 : Int32) (x2 : Int32) (ls : Array Slot), f_Env_find_2 N α n2 x3 x2 = some x → lv_has ls 4 [(3, .int x3), (0, .ref (kad g 3)), (1, .ref (kad g 4)), (2, .int x2)] → W p l e { frames := 12, cells := 0, slots := 0, locals := 345 } s m ([.ref (kad g 3), .ref (kad g 4), .int a2]).toArray below meth c s.heap [] 0 0 (MQ below (QcRead x) ([.ref (kad g 3), .ref (kad g 4), .int a2]).toArray s 0 0 (fun _ => False)) (F0 m 2 ls []) := by
    intro n2
    induction n2 with
    | zero => intro x3 x2 ls h hl; rw [f_Env_find_2] at h; cases h
    | succ n2 ih2 =>
      intro x3 x2 ls h hl
      rw [f_Env_find_2] at h
      refine lv_iload_n hx hb d_Env_find_2 rfl (lv_at hl 0 rfl) ?_
      refine lv_iload_n hx hb d_Env_find_3 rfl (lv_at hl 3 rfl) ?_
      refine lv_icmp_ge (tgt := 41) hx hb d_Env_find_4 (by decide) (fun c1 => ?_) (fun c1 => ?_)
      · replace h := Eq.trans (if_pos c1).symm h
        refine lv_iconst (v := (-1)) hx hb d_Env_find_41 (by decide) ?_
        exact kv_iret (w := (-1)) hx hb hr rfl hlocks (Option.some.inj h) d_Env_find_42
      · replace h := Eq.trans (if_neg c1).symm h
        refine lv_iload_n hx hb d_Env_find_7 rfl (lv_at hl 0 rfl) ?_
        refine lv_aload_n hx hb d_Env_find_8 rfl (lv_at hl 1 rfl) ?_
        refine kg_p (As := []) (rest := [.int x3]) (k_Env_length (l := l) (g := g) (α := α) ) S E hJ kw_Env_43 ⟨Nat.le_of_ble_eq_true rfl, Nat.le_of_ble_eq_true rfl⟩ ⟨Nat.le_refl _, Nat.le_refl _⟩ (kv_Env E hJ) rfl hl.1 rfl (Nat.le_of_ble_eq_true rfl) d_Env_find_9 rfl ?_
        refine lv_icmp_ge (tgt := 41) hx hb d_Env_find_12 (by decide) (fun c2 => ?_) (fun c2 => ?_)
        · replace h := Eq.trans (if_pos c2).symm h
          refine lv_iconst (v := (-1)) hx hb d_Env_find_41 (by decide) ?_
          exact kv_iret (w := (-1)) hx hb hr rfl hlocks (Option.some.inj h) d_Env_find_42
        · replace h := Eq.trans (if_neg c2).symm h
          refine lv_aload_n hx hb d_Env_find_15 rfl (lv_at hl 2 rfl) ?_
          refine lv_aload_n hx hb d_Env_find_16 rfl (lv_at hl 1 rfl) ?_
          refine kf_Env_names S E hJ vt_106 d_Env_find_17 ?_
          refine lv_aload_n hx hb d_Env_find_20 rfl (lv_at hl 1 rfl) ?_
          refine lv_iload_n hx hb d_Env_find_21 rfl (lv_at hl 0 rfl) ?_
          refine lv_bipush (v := 11) hx hb d_Env_find_22 (by decide) ?_
          refine kg_p (As := [.int x3, .int 11]) (rest := [.ref (kad g (11 + 6)), .ref (kad g 4)]) (k_Env_fact (l := l) (g := g) (α := α) x3 11) S E hJ kw_Env_63 ⟨Nat.le_of_ble_eq_true rfl, Nat.le_of_ble_eq_true rfl⟩ ⟨Nat.le_refl _, Nat.le_refl _⟩ (kv_Env E hJ) rfl hl.1 rfl (Nat.le_of_ble_eq_true rfl) d_Env_find_24 rfl ?_
          obtain ⟨v3, e4, h⟩ := Option.bind_eq_some_iff.mp h
          refine kg_p (As := [.ref (kad g (11 + 6)), .int (f_Env_fact x3 11 α)]) (rest := []) ((k_Lex_standsAt (l := l) (g := g) (α := α) N 6 (f_Env_fact x3 11 α) (by decide)) _ e4) S E hJ kw_Env_70 ⟨Nat.le_of_ble_eq_true rfl, Nat.le_of_ble_eq_true rfl⟩ ⟨Nat.le_refl _, Nat.le_refl _⟩ (kv_Lex E hJ) rfl hl.1 rfl (Nat.le_of_ble_eq_true rfl) d_Env_find_27 rfl ?_
          refine lv_if_eq (tgt := 35) hx hb d_Env_find_30 (by decide) (fun c5 => ?_) (fun c5 => ?_)
          · replace h := Eq.trans (if_pos c5).symm h
            refine lv_iinc (v := (x3 + 1)) (lv' := [(3, .int (x3 + 1)), (0, .ref (kad g 3)), (1, .ref (kad g 4)), (2, .int x2)]) hx hb d_Env_find_35 hl (k := 0) rfl rfl (by decide) rfl (fun ls hl => ?_)
            refine lv_goto (tgt := 2) hx hb d_Env_find_38 (by decide) ?_
            exact ih2 (x3 + 1) x2 _ h (lv_sub hl [0, 1, 2, 3] rfl)
          · replace h := Eq.trans (if_neg c5).symm h
            refine lv_iload_n hx hb d_Env_find_33 rfl (lv_at hl 0 rfl) ?_
            exact kv_iret (w := x3) hx hb hr rfl hlocks (Option.some.inj h) d_Env_find_34
  exact L2 N 0 a2 _ h (lv_sub hl [0, 1, 2, 3] rfl)
theorem kw_Env_40 : kWv "FamilyKernel$Environment" 40 "FamilyKernel$Row" y_Row_put b_Row_put 3 none 2 := ⟨vt_487, vt_488, vt_489, vt_4, vt_490, by decide, by decide, by decide +kernel⟩
def f_Env_fix (a1 : Int32) (a2 : Int32) (a3 : Int32) (α : kS) : kS := (fR_put α 5 ((a1 * 12) + a2) a3)
set_option maxHeartbeats 4000000 in
set_option maxRecDepth 100000 in
theorem k_Env_fix {l : Launch} {g : kG} {α : kS} (a1 : Int32) (a2 : Int32) (a3 : Int32)  : kC l g y_Env_fix b_Env_fix 4 none 11 322 [.ref (kad g 3), .int a1, .int a2, .int a3] α (kQr (some none, f_Env_fix a1 a2 a3 α)) := by
  generalize h : f_Env_fix a1 a2 a3 α = x
  unfold f_Env_fix at h
  refine kc_ofW (by decide) (fun A ad0 p e s m args below meth c S hr hlocks hno hadm hargs E hI => ?_)
  have hx := S.1
  have hb := S.2.1
  have hown := S.2.2.2.1
  have hT := S.2.2.2.2
  subst hargs
  have hl := lv_entry ([.ref (kad g 3), .int a1, .int a2, .int a3]) (n := 4) (Nat.le_of_ble_eq_true rfl)
  rw [lg_entry_eq]
  generalize (lg_sl ([.ref (kad g 3), .int a1, .int a2, .int a3]) ++ List.replicate (4 - (lg_sl ([.ref (kad g 3), .int a1, .int a2, .int a3])).length) Slot.unset).toArray = ls at hl ⊢
  have hl : lv_has ls 4 [(0, .ref (kad g 3)), (1, .int a1), (2, .int a2), (3, .int a3)] := hl
  refine lv_aload_n hx hb d_Env_fix_0 rfl (lv_at hl 0 rfl) ?_
  refine kf_Env_facts S E hI.1 vt_105 d_Env_fix_1 ?_
  refine lv_iload_n hx hb d_Env_fix_4 rfl (lv_at hl 1 rfl) ?_
  refine lv_bipush (v := 12) hx hb d_Env_fix_5 (by decide) ?_
  refine lv_imul hx hb d_Env_fix_7 ?_
  refine lv_iload_n hx hb d_Env_fix_8 rfl (lv_at hl 2 rfl) ?_
  refine lv_iadd hx hb d_Env_fix_9 ?_
  refine lv_iload_n hx hb d_Env_fix_10 rfl (lv_at hl 3 rfl) ?_
  refine kg_tV (As := [.int ((a1 * 12) + a2), .int a3]) (rest := []) (k_Row_put (l := l) (g := g) (α := α) (r := 5) (by decide) ((a1 * 12) + a2) a3) S hlocks hno E hI kw_Env_40 ⟨Nat.le_of_ble_eq_true rfl, Nat.le_of_ble_eq_true rfl⟩ (kv_Row (r := 5) (by decide) E hI.1) rfl hl.1 rfl (Nat.le_of_ble_eq_true rfl) d_Env_fix_11 (fun ad H locs cells slots hRm hI => ?_)
  exact kc_vret hx hb hr hlocks E hI (by rw [← h]) d_Env_fix_14
theorem kw_Env_46 : kWv "FamilyKernel$Environment" 46 "FamilyKernel$Lexer" y_Lex_length b_Lex_length 1 (some .int) 0 := ⟨vt_473, vt_474, vt_475, vt_33, vt_476, by decide, by decide, by decide +kernel⟩
theorem kw_Env_49 : kWs "FamilyKernel$Environment" 49 y_Lex_named b_Lex_named 2 (some .int) 2 := ⟨vt_477, vt_249, vt_33, vt_250, by decide, by decide, by decide +kernel⟩
theorem kw_Env_59 : kWv "FamilyKernel$Environment" 59 "FamilyKernel$Environment" y_Env_fix b_Env_fix 4 none 3 := ⟨vt_483, vt_484, vt_485, vt_26, vt_486, by decide, by decide, by decide +kernel⟩
theorem kw_Env_56 : kWv "FamilyKernel$Environment" 56 "FamilyKernel$Row" y_Row_push b_Row_push 2 none 1 := ⟨vt_482, vt_252, vt_253, vt_4, vt_254, by decide, by decide, by decide +kernel⟩
theorem kw_Env_53 : kWv "FamilyKernel$Environment" 53 "FamilyKernel$Lexer" y_Lex_sign b_Lex_sign 2 (some .int) 1 := ⟨vt_478, vt_479, vt_480, vt_33, vt_481, by decide, by decide, by decide +kernel⟩
def f_Env_add_55 (N : Nat)  : Nat → Int32 → Int32 → Int32 → Int32 → kS → Option (kO × kS)
  | 0, _, _, _, _, _ => none
  | n + 1, x5_55, x4_55, x3_55, x1_55, β55 => if 12 ≤ x5_55 then (some (some (some x3_55), (f_Env_fix x3_55 11 x4_55 (f_Env_fix x3_55 2 (-1) (f_Env_fix x3_55 1 (-1) (f_Env_fix x3_55 0 x1_55 β55)))))) else (kBv (fR_push β55 5 0) fun α3 => (f_Env_add_55 N n (x5_55 + 1) x4_55 x3_55 x1_55 α3))
def f_Env_add_24 (N : Nat)  : Nat → Int32 → Int32 → Int32 → Int32 → kS → Option (kO × kS)
  | 0, _, _, _, _, _ => none
  | n + 1, x5, x4, x3, x1, β => if (f_Lex_length β) ≤ x5 then (f_Env_add_55 N N 0 x4 x3 x1 β) else (kBv (fR_push β 6 (f_Lex_sign x5 β)) fun α5 => (f_Env_add_24 N n (x5 + 1) x4 x3 x1 α5))
def f_Env_add (N : Nat) (a1 : Int32) (α : kS) : Option (kO × kS) := f_Env_add_24 N N 0 (f_Lex_named (fR_size α 6) (f_Lex_length α) α) (f_Env_length α) a1 α
set_option maxHeartbeats 4000000 in
set_option maxRecDepth 100000 in
theorem k_Env_add {l : Launch} {g : kG} {α : kS} (hfl : kFl l) (N : Nat) (a1 : Int32)  : ∀ x, f_Env_add N a1 α = some x → kC l g y_Env_add b_Env_add 6 (some .int) 31 921 [.ref (kad g 3), .int a1, .ref (kad g 4)] α (kQr x) := by
  intro x h
  unfold f_Env_add at h
  refine kc_ofW (by decide) (fun A ad0 p e s m args below meth c S hr hlocks hno hadm hargs E hI => ?_)
  have hx := S.1
  have hb := S.2.1
  have hown := S.2.2.2.1
  have hT := S.2.2.2.2
  subst hargs
  have hl := lv_entry ([.ref (kad g 3), .int a1, .ref (kad g 4)]) (n := 6) (Nat.le_of_ble_eq_true rfl)
  rw [lg_entry_eq]
  generalize (lg_sl ([.ref (kad g 3), .int a1, .ref (kad g 4)]) ++ List.replicate (6 - (lg_sl ([.ref (kad g 3), .int a1, .ref (kad g 4)])).length) Slot.unset).toArray = ls at hl ⊢
  have hl : lv_has ls 6 [(0, .ref (kad g 3)), (1, .int a1), (2, .ref (kad g 4))] := hl
  refine lv_aload_n hx hb d_Env_add_0 rfl (lv_at hl 0 rfl) ?_
  refine kg_p (As := []) (rest := []) (k_Env_length (l := l) (g := g) (α := α) ) S E hI.1 kw_Env_43 ⟨Nat.le_of_ble_eq_true rfl, Nat.le_of_ble_eq_true rfl⟩ hI.room (kv_Env E hI.1) rfl hl.1 rfl (Nat.le_of_ble_eq_true rfl) d_Env_add_1 rfl ?_
  refine lv_istore_n (lv' := [(3, .int (f_Env_length α)), (0, .ref (kad g 3)), (1, .int a1), (2, .ref (kad g 4))]) hx hb d_Env_add_4 rfl hl (by decide) rfl (fun ls hl => ?_)
  refine lv_aload_n hx hb d_Env_add_5 rfl (lv_at hl 1 rfl) ?_
  refine kf_Env_names S E hI.1 vt_106 d_Env_add_6 ?_
  refine kg_p (As := []) (rest := []) (k_Row_size (l := l) (g := g) (α := α) (r := 6) (by decide)) S E hI.1 kw_Env_24 ⟨Nat.le_of_ble_eq_true rfl, Nat.le_of_ble_eq_true rfl⟩ hI.room (kv_Row (r := 6) (by decide) E hI.1) rfl hl.1 rfl (Nat.le_of_ble_eq_true rfl) d_Env_add_9 rfl ?_
  refine lv_aload_n hx hb d_Env_add_12 rfl (lv_at hl 3 rfl) ?_
  refine kg_p (As := []) (rest := [.int (fR_size α 6)]) (k_Lex_length (l := l) (g := g) (α := α) ) S E hI.1 kw_Env_46 ⟨Nat.le_of_ble_eq_true rfl, Nat.le_of_ble_eq_true rfl⟩ hI.room (kv_Lex E hI.1) rfl hl.1 rfl (Nat.le_of_ble_eq_true rfl) d_Env_add_13 rfl ?_
  refine kg_pS (As := [.int (fR_size α 6), .int (f_Lex_length α)]) (rest := []) (k_Lex_named (l := l) (g := g) (α := α) (fR_size α 6) (f_Lex_length α)) S E hI.1 kw_Env_49 ⟨Nat.le_of_ble_eq_true rfl, Nat.le_of_ble_eq_true rfl⟩ hI.room rfl hl.1 rfl (Nat.le_of_ble_eq_true rfl) d_Env_add_16 ?_
  refine lv_istore (lv' := [(4, .int (f_Lex_named (fR_size α 6) (f_Lex_length α) α)), (3, .int (f_Env_length α)), (0, .ref (kad g 3)), (1, .int a1), (2, .ref (kad g 4))]) hx hb d_Env_add_19 hl (by decide) rfl (fun ls hl => ?_)
  refine lv_iconst (v := 0) hx hb d_Env_add_21 (by decide) ?_
  refine lv_istore (lv' := [(5, .int 0), (4, .int (f_Lex_named (fR_size α 6) (f_Lex_length α) α)), (3, .int (f_Env_length α)), (0, .ref (kad g 3)), (1, .int a1), (2, .ref (kad g 4))]) hx hb d_Env_add_22 hl (by decide) rfl (fun ls hl => ?_)
  have L24 : ∀ (n24 : Nat) (x5 : Int32) (x4 : Int32) (x3 : Int32) (x1 : Int32) (β : kS) (ad : Nat → Nat) (H : Heap) (locs : List Loc) (cells slots : Nat) (ls : Array Slot), f_Env_add_24 N n24 x5 x4 x3 x1 β = some x → kI g A s α ad0 β ad H locs cells slots → lv_has ls 6 [(5, .int x5), (4, .int x4), (3, .int x3), (0, .ref (kad g 3)), (1, .int x1), (2, .ref (kad g 4))] → W p l e (kR 31 921 α) s m ([.ref (kad g 3), .int a1, .ref (kad g 4)]).toArray below meth c H locs cells slots (vEQ below (kQ g A α ad0 (kQr x)) ([.ref (kad g 3), .int a1, .ref (kad g 4)]).toArray s A) (F0 m 24 ls []) := by
    intro n24
    induction n24 with
    | zero => intro x5 x4 x3 x1 β ad H locs cells slots ls h hI hl; rw [f_Env_add_24] at h; cases h
    | succ n24 ih24 =>
      intro x5 x4 x3 x1 β ad H locs cells slots ls h hI hl
      rw [f_Env_add_24] at h
      refine lv_iload hx hb d_Env_add_24 (lv_at hl 0 rfl) ?_
      refine lv_aload_n hx hb d_Env_add_26 rfl (lv_at hl 5 rfl) ?_
      refine kg_p (As := []) (rest := [.int x5]) (k_Lex_length (l := l) (g := g) (α := β) ) S E hI.1 kw_Env_46 ⟨Nat.le_of_ble_eq_true rfl, Nat.le_of_ble_eq_true rfl⟩ hI.room (kv_Lex E hI.1) rfl hl.1 rfl (Nat.le_of_ble_eq_true rfl) d_Env_add_27 rfl ?_
      refine lv_icmp_ge (tgt := 52) hx hb d_Env_add_30 (by decide) (fun c1 => ?_) (fun c1 => ?_)
      · replace h := Eq.trans (if_pos c1).symm h
        refine lv_iconst (v := 0) hx hb d_Env_add_52 (by decide) ?_
        refine lv_istore (lv' := [(5, .int 0), (4, .int x4), (3, .int x3), (0, .ref (kad g 3)), (1, .int x1), (2, .ref (kad g 4))]) hx hb d_Env_add_53 hl (by decide) rfl (fun ls hl => ?_)
        have L55 : ∀ (n55 : Nat) (x5_55 : Int32) (x4_55 : Int32) (x3_55 : Int32) (x1_55 : Int32) (β55 : kS) (ad : Nat → Nat) (H : Heap) (locs : List Loc) (cells slots : Nat) (ls : Array Slot), f_Env_add_55 N n55 x5_55 x4_55 x3_55 x1_55 β55 = some x → kI g A s α ad0 β55 ad H locs cells slots → lv_has ls 6 [(5, .int x5_55), (4, .int x4_55), (3, .int x3_55), (0, .ref (kad g 3)), (1, .int x1_55)] → W p l e (kR 31 921 α) s m ([.ref (kad g 3), .int a1, .ref (kad g 4)]).toArray below meth c H locs cells slots (vEQ below (kQ g A α ad0 (kQr x)) ([.ref (kad g 3), .int a1, .ref (kad g 4)]).toArray s A) (F0 m 55 ls []) := by
          intro n55
          induction n55 with
          | zero => intro x5_55 x4_55 x3_55 x1_55 β55 ad H locs cells slots ls h hI hl; rw [f_Env_add_55] at h; cases h
          | succ n55 ih55 =>
            intro x5_55 x4_55 x3_55 x1_55 β55 ad H locs cells slots ls h hI hl
            rw [f_Env_add_55] at h
            refine lv_iload hx hb d_Env_add_55 (lv_at hl 0 rfl) ?_
            refine lv_bipush (v := 12) hx hb d_Env_add_57 (by decide) ?_
            refine lv_icmp_ge (tgt := 76) hx hb d_Env_add_59 (by decide) (fun c2 => ?_) (fun c2 => ?_)
            · replace h := Eq.trans (if_pos c2).symm h
              refine lv_aload_n hx hb d_Env_add_76 rfl (lv_at hl 3 rfl) ?_
              refine lv_iload_n hx hb d_Env_add_77 rfl (lv_at hl 2 rfl) ?_
              refine lv_iconst (v := 0) hx hb d_Env_add_78 (by decide) ?_
              refine lv_iload_n hx hb d_Env_add_79 rfl (lv_at hl 4 rfl) ?_
              refine kg_tV (As := [.int x3_55, .int 0, .int x1_55]) (rest := []) (k_Env_fix (l := l) (g := g) (α := β55) x3_55 0 x1_55) S hlocks hno E hI kw_Env_59 ⟨Nat.le_of_ble_eq_true rfl, Nat.le_of_ble_eq_true rfl⟩ (kv_Env E hI.1) rfl hl.1 rfl (Nat.le_of_ble_eq_true rfl) d_Env_add_80 (fun ad H locs cells slots hRm hI => ?_)
              refine lv_aload_n hx hb d_Env_add_83 rfl (lv_at hl 3 rfl) ?_
              refine lv_iload_n hx hb d_Env_add_84 rfl (lv_at hl 2 rfl) ?_
              refine lv_iconst (v := 1) hx hb d_Env_add_85 (by decide) ?_
              refine lv_iconst (v := (-1)) hx hb d_Env_add_86 (by decide) ?_
              refine kg_tV (As := [.int x3_55, .int 1, .int (-1)]) (rest := []) (k_Env_fix (l := l) (g := g) (α := (f_Env_fix x3_55 0 x1_55 β55)) x3_55 1 (-1)) S hlocks hno E hI kw_Env_59 ⟨Nat.le_of_ble_eq_true rfl, Nat.le_of_ble_eq_true rfl⟩ (kv_Env E hI.1) rfl hl.1 rfl (Nat.le_of_ble_eq_true rfl) d_Env_add_87 (fun ad H locs cells slots hRm hI => ?_)
              refine lv_aload_n hx hb d_Env_add_90 rfl (lv_at hl 3 rfl) ?_
              refine lv_iload_n hx hb d_Env_add_91 rfl (lv_at hl 2 rfl) ?_
              refine lv_iconst (v := 2) hx hb d_Env_add_92 (by decide) ?_
              refine lv_iconst (v := (-1)) hx hb d_Env_add_93 (by decide) ?_
              refine kg_tV (As := [.int x3_55, .int 2, .int (-1)]) (rest := []) (k_Env_fix (l := l) (g := g) (α := (f_Env_fix x3_55 1 (-1) (f_Env_fix x3_55 0 x1_55 β55))) x3_55 2 (-1)) S hlocks hno E hI kw_Env_59 ⟨Nat.le_of_ble_eq_true rfl, Nat.le_of_ble_eq_true rfl⟩ (kv_Env E hI.1) rfl hl.1 rfl (Nat.le_of_ble_eq_true rfl) d_Env_add_94 (fun ad H locs cells slots hRm hI => ?_)
              refine lv_aload_n hx hb d_Env_add_97 rfl (lv_at hl 3 rfl) ?_
              refine lv_iload_n hx hb d_Env_add_98 rfl (lv_at hl 2 rfl) ?_
              refine lv_bipush (v := 11) hx hb d_Env_add_99 (by decide) ?_
              refine lv_iload hx hb d_Env_add_101 (lv_at hl 1 rfl) ?_
              refine kg_tV (As := [.int x3_55, .int 11, .int x4_55]) (rest := []) (k_Env_fix (l := l) (g := g) (α := (f_Env_fix x3_55 2 (-1) (f_Env_fix x3_55 1 (-1) (f_Env_fix x3_55 0 x1_55 β55)))) x3_55 11 x4_55) S hlocks hno E hI kw_Env_59 ⟨Nat.le_of_ble_eq_true rfl, Nat.le_of_ble_eq_true rfl⟩ (kv_Env E hI.1) rfl hl.1 rfl (Nat.le_of_ble_eq_true rfl) d_Env_add_103 (fun ad H locs cells slots hRm hI => ?_)
              refine lv_iload_n hx hb d_Env_add_106 rfl (lv_at hl 2 rfl) ?_
              exact kc_iret (w := x3_55) hx hb hr rfl hlocks E hI h d_Env_add_107
            · replace h := Eq.trans (if_neg c2).symm h
              refine lv_aload_n hx hb d_Env_add_62 rfl (lv_at hl 3 rfl) ?_
              refine kf_Env_facts S E hI.1 vt_105 d_Env_add_63 ?_
              refine lv_iconst (v := 0) hx hb d_Env_add_66 (by decide) ?_
              refine kg_cV (As := [.int 0]) (rest := []) h (k_Row_push (l := l) (g := g) (α := β55) (r := 5) (by decide) 0) S hlocks hno E hI kw_Env_56 ⟨Nat.le_of_ble_eq_true rfl, Nat.le_of_ble_eq_true rfl⟩ (kv_Row (r := 5) (by decide) E hI.1) rfl hl.1 rfl (Nat.le_of_ble_eq_true rfl) d_Env_add_67 (fun α3 ad H locs cells slots e4 h hRm hI => ?_)
              refine lv_iinc (v := (x5_55 + 1)) (lv' := [(5, .int (x5_55 + 1)), (4, .int x4_55), (3, .int x3_55), (0, .ref (kad g 3)), (1, .int x1_55)]) hx hb d_Env_add_70 hl (k := 0) rfl rfl (by decide) rfl (fun ls hl => ?_)
              refine lv_goto (tgt := 55) hx hb d_Env_add_73 (by decide) ?_
              exact ih55 (x5_55 + 1) x4_55 x3_55 x1_55 _ _ _ _ _ _ _ h hI (lv_sub hl [0, 1, 2, 3, 4] rfl)
        exact L55 N 0 x4 x3 x1 _ _ _ _ _ _ _ h hI (lv_sub hl [0, 1, 2, 3, 4] rfl)
      · replace h := Eq.trans (if_neg c1).symm h
        refine lv_aload_n hx hb d_Env_add_33 rfl (lv_at hl 3 rfl) ?_
        refine kf_Env_names S E hI.1 vt_106 d_Env_add_34 ?_
        refine lv_aload_n hx hb d_Env_add_37 rfl (lv_at hl 5 rfl) ?_
        refine lv_iload hx hb d_Env_add_38 (lv_at hl 0 rfl) ?_
        refine kg_p (As := [.int x5]) (rest := [.ref (kad g (11 + 6))]) (k_Lex_sign (l := l) (g := g) (α := β) x5) S E hI.1 kw_Env_53 ⟨Nat.le_of_ble_eq_true rfl, Nat.le_of_ble_eq_true rfl⟩ hI.room (kv_Lex E hI.1) rfl hl.1 rfl (Nat.le_of_ble_eq_true rfl) d_Env_add_40 rfl ?_
        refine kg_cV (As := [.int (f_Lex_sign x5 β)]) (rest := []) h (k_Row_push (l := l) (g := g) (α := β) (r := 6) (by decide) (f_Lex_sign x5 β)) S hlocks hno E hI kw_Env_56 ⟨Nat.le_of_ble_eq_true rfl, Nat.le_of_ble_eq_true rfl⟩ (kv_Row (r := 6) (by decide) E hI.1) rfl hl.1 rfl (Nat.le_of_ble_eq_true rfl) d_Env_add_43 (fun α5 ad H locs cells slots e6 h hRm hI => ?_)
        refine lv_iinc (v := (x5 + 1)) (lv' := [(5, .int (x5 + 1)), (4, .int x4), (3, .int x3), (0, .ref (kad g 3)), (1, .int x1), (2, .ref (kad g 4))]) hx hb d_Env_add_46 hl (k := 0) rfl rfl (by decide) rfl (fun ls hl => ?_)
        refine lv_goto (tgt := 24) hx hb d_Env_add_49 (by decide) ?_
        exact ih24 (x5 + 1) x4 x3 x1 _ _ _ _ _ _ _ h hI (lv_sub hl [0, 1, 2, 3, 4, 5] rfl)
  exact L24 N 0 (f_Lex_named (fR_size α 6) (f_Lex_length α) α) (f_Env_length α) a1 _ _ _ _ _ _ _ h hI (lv_sub hl [0, 1, 2, 3, 4, 5] rfl)
def f_Env_allows (a1 : Int32) (a2 : Int32) (α : kS) : Int32 := if a2 = 0 then (1) else (if (f_Env_fact a1 9 α) = 1 then (1) else (0))
set_option maxHeartbeats 4000000 in
set_option maxRecDepth 100000 in
theorem k_Env_allows {l : Launch} {g : kG} {α : kS} (a1 : Int32) (a2 : Int32)  : kV l g y_Env_allows b_Env_allows 3 (some .boolean) 12 343 [.ref (kad g 3), .int a1, .int a2] α (f_Env_allows a1 a2 α) := by
  generalize h : f_Env_allows a1 a2 α = x
  unfold f_Env_allows at h
  refine kv_ofW (by decide) (fun A ad p e s m args below meth c S hr hlocks hargs E hJ => ?_)
  have hx := S.1
  have hb := S.2.1
  have hown := S.2.2.2.1
  have hT := S.2.2.2.2
  subst hargs
  have hl := lv_entry ([.ref (kad g 3), .int a1, .int a2]) (n := 3) (Nat.le_of_ble_eq_true rfl)
  rw [lg_entry_eq]
  generalize (lg_sl ([.ref (kad g 3), .int a1, .int a2]) ++ List.replicate (3 - (lg_sl ([.ref (kad g 3), .int a1, .int a2])).length) Slot.unset).toArray = ls at hl ⊢
  have hl : lv_has ls 3 [(0, .ref (kad g 3)), (1, .int a1), (2, .int a2)] := hl
  refine lv_iload_n hx hb d_Env_allows_0 rfl (lv_at hl 2 rfl) ?_
  refine lv_if_eq (tgt := 15) hx hb d_Env_allows_1 (by decide) (fun c1 => ?_) (fun c1 => ?_)
  · replace h := Eq.trans (if_pos c1).symm h
    refine lv_iconst (v := 1) hx hb d_Env_allows_15 (by decide) ?_
    refine lv_goto (tgt := 20) hx hb d_Env_allows_16 (by decide) ?_
    exact kv_iret (w := 1) hx hb hr (by decide) hlocks h d_Env_allows_20
  · replace h := Eq.trans (if_neg c1).symm h
    refine lv_aload_n hx hb d_Env_allows_4 rfl (lv_at hl 0 rfl) ?_
    refine lv_iload_n hx hb d_Env_allows_5 rfl (lv_at hl 1 rfl) ?_
    refine lv_bipush (v := 9) hx hb d_Env_allows_6 (by decide) ?_
    refine kg_p (As := [.int a1, .int 9]) (rest := []) (k_Env_fact (l := l) (g := g) (α := α) a1 9) S E hJ kw_Env_63 ⟨Nat.le_of_ble_eq_true rfl, Nat.le_of_ble_eq_true rfl⟩ ⟨Nat.le_refl _, Nat.le_refl _⟩ (kv_Env E hJ) rfl hl.1 rfl (Nat.le_of_ble_eq_true rfl) d_Env_allows_8 rfl ?_
    refine lv_iconst (v := 1) hx hb d_Env_allows_11 (by decide) ?_
    refine lv_icmp_ne (tgt := 19) hx hb d_Env_allows_12 (by decide) (fun c2 => ?_) (fun c2 => ?_)
    · replace h := Eq.trans (if_neg c2).symm h
      refine lv_iconst (v := 0) hx hb d_Env_allows_19 (by decide) ?_
      exact kv_iret (w := 0) hx hb hr (by decide) hlocks h d_Env_allows_20
    · replace h := Eq.trans (if_pos c2).symm h
      refine lv_iconst (v := 1) hx hb d_Env_allows_15 (by decide) ?_
      refine lv_goto (tgt := 20) hx hb d_Env_allows_16 (by decide) ?_
      exact kv_iret (w := 1) hx hb hr (by decide) hlocks h d_Env_allows_20
def f_Env_sizes  (α : kS) : Int32 := (α.1 7)
set_option maxHeartbeats 4000000 in
set_option maxRecDepth 100000 in
theorem k_Env_sizes {l : Launch} {g : kG} {α : kS}   : kV l g y_Env_sizes b_Env_sizes 1 (some .int) 1 1 [.ref (kad g 3)] α (f_Env_sizes α) := by
  generalize h : f_Env_sizes α = x
  unfold f_Env_sizes at h
  refine kv_ofW (by decide) (fun A ad p e s m args below meth c S hr hlocks hargs E hJ => ?_)
  have hx := S.1
  have hb := S.2.1
  have hown := S.2.2.2.1
  have hT := S.2.2.2.2
  subst hargs
  have hl := lv_entry ([.ref (kad g 3)]) (n := 1) (Nat.le_of_ble_eq_true rfl)
  rw [lg_entry_eq]
  generalize (lg_sl ([.ref (kad g 3)]) ++ List.replicate (1 - (lg_sl ([.ref (kad g 3)])).length) Slot.unset).toArray = ls at hl ⊢
  have hl : lv_has ls 1 [(0, .ref (kad g 3))] := hl
  refine lv_aload_n hx hb d_Env_sizes_0 rfl (lv_at hl 0 rfl) ?_
  refine kf_Env_sizes S E hJ vt_1108 d_Env_sizes_1 ?_
  exact kv_iret (w := (α.1 7)) hx hb hr rfl hlocks h d_Env_sizes_4
def f_Env_addSizes (a1 : Int32) (α : kS) : kS := (kSi α 7 ((α.1 7) + a1))
set_option maxHeartbeats 4000000 in
set_option maxRecDepth 100000 in
theorem k_Env_addSizes {l : Launch} {g : kG} {α : kS} (a1 : Int32)  : kC l g y_Env_addSizes b_Env_addSizes 2 none 1 1 [.ref (kad g 3), .int a1] α (kQr (some none, f_Env_addSizes a1 α)) := by
  generalize h : f_Env_addSizes a1 α = x
  unfold f_Env_addSizes at h
  refine kc_ofW (by decide) (fun A ad0 p e s m args below meth c S hr hlocks hno hadm hargs E hI => ?_)
  have hx := S.1
  have hb := S.2.1
  have hown := S.2.2.2.1
  have hT := S.2.2.2.2
  subst hargs
  have hl := lv_entry ([.ref (kad g 3), .int a1]) (n := 2) (Nat.le_of_ble_eq_true rfl)
  rw [lg_entry_eq]
  generalize (lg_sl ([.ref (kad g 3), .int a1]) ++ List.replicate (2 - (lg_sl ([.ref (kad g 3), .int a1])).length) Slot.unset).toArray = ls at hl ⊢
  have hl : lv_has ls 2 [(0, .ref (kad g 3)), (1, .int a1)] := hl
  refine lv_aload_n hx hb d_Env_addSizes_0 rfl (lv_at hl 0 rfl) ?_
  refine lv_dup hx hb d_Env_addSizes_1 rfl ?_
  refine kf_Env_sizes S E hI.1 vt_1108 d_Env_addSizes_2 ?_
  refine lv_iload_n hx hb d_Env_addSizes_5 rfl (lv_at hl 1 rfl) ?_
  refine lv_iadd hx hb d_Env_addSizes_6 ?_
  refine kp_Env_sizes S E hI vt_1108 d_Env_addSizes_7 (fun H locs hI => ?_)
  exact kc_vret hx hb hr hlocks E hI (by rw [← h]) d_Env_addSizes_10
theorem kw_Env_74 : kWs "FamilyKernel$Environment" 74 y_Lex_lengthOf b_Lex_lengthOf 1 (some .int) 1 := ⟨vt_1175, vt_468, vt_33, vt_469, by decide, by decide, by decide +kernel⟩
def f_Env_nameLength (a1 : Int32) (α : kS) : Int32 := (f_Lex_lengthOf (f_Env_fact a1 11 α) α)
set_option maxHeartbeats 4000000 in
set_option maxRecDepth 100000 in
theorem k_Env_nameLength {l : Launch} {g : kG} {α : kS} (a1 : Int32)  : kV l g y_Env_nameLength b_Env_nameLength 2 (some .int) 12 343 [.ref (kad g 3), .int a1] α (f_Env_nameLength a1 α) := by
  generalize h : f_Env_nameLength a1 α = x
  unfold f_Env_nameLength at h
  refine kv_ofW (by decide) (fun A ad p e s m args below meth c S hr hlocks hargs E hJ => ?_)
  have hx := S.1
  have hb := S.2.1
  have hown := S.2.2.2.1
  have hT := S.2.2.2.2
  subst hargs
  have hl := lv_entry ([.ref (kad g 3), .int a1]) (n := 2) (Nat.le_of_ble_eq_true rfl)
  rw [lg_entry_eq]
  generalize (lg_sl ([.ref (kad g 3), .int a1]) ++ List.replicate (2 - (lg_sl ([.ref (kad g 3), .int a1])).length) Slot.unset).toArray = ls at hl ⊢
  have hl : lv_has ls 2 [(0, .ref (kad g 3)), (1, .int a1)] := hl
  refine lv_aload_n hx hb d_Env_nameLength_0 rfl (lv_at hl 0 rfl) ?_
  refine lv_iload_n hx hb d_Env_nameLength_1 rfl (lv_at hl 1 rfl) ?_
  refine lv_bipush (v := 11) hx hb d_Env_nameLength_2 (by decide) ?_
  refine kg_p (As := [.int a1, .int 11]) (rest := []) (k_Env_fact (l := l) (g := g) (α := α) a1 11) S E hJ kw_Env_63 ⟨Nat.le_of_ble_eq_true rfl, Nat.le_of_ble_eq_true rfl⟩ ⟨Nat.le_refl _, Nat.le_refl _⟩ (kv_Env E hJ) rfl hl.1 rfl (Nat.le_of_ble_eq_true rfl) d_Env_nameLength_4 rfl ?_
  refine kg_pS (As := [.int (f_Env_fact a1 11 α)]) (rest := []) (k_Lex_lengthOf (l := l) (g := g) (α := α) (f_Env_fact a1 11 α)) S E hJ kw_Env_74 ⟨Nat.le_of_ble_eq_true rfl, Nat.le_of_ble_eq_true rfl⟩ ⟨Nat.le_refl _, Nat.le_refl _⟩ rfl hl.1 rfl (Nat.le_of_ble_eq_true rfl) d_Env_nameLength_7 ?_
  exact kv_iret (w := (f_Lex_lengthOf (f_Env_fact a1 11 α) α)) hx hb hr rfl hlocks h d_Env_nameLength_10
theorem kw_Env_66 : kWs "FamilyKernel$Environment" 66 y_Lex_startOf b_Lex_startOf 1 (some .int) 1 := ⟨vt_1176, vt_471, vt_33, vt_472, by decide, by decide, by decide +kernel⟩
def f_Env_nameByte (a1 : Int32) (a2 : Int32) (α : kS) : Int32 := (fR_at α 6 ((f_Lex_startOf (f_Env_fact a1 11 α) α) + a2))
set_option maxHeartbeats 4000000 in
set_option maxRecDepth 100000 in
theorem k_Env_nameByte {l : Launch} {g : kG} {α : kS} (a1 : Int32) (a2 : Int32)  : kV l g y_Env_nameByte b_Env_nameByte 3 (some .int) 12 343 [.ref (kad g 3), .int a1, .int a2] α (f_Env_nameByte a1 a2 α) := by
  generalize h : f_Env_nameByte a1 a2 α = x
  unfold f_Env_nameByte at h
  refine kv_ofW (by decide) (fun A ad p e s m args below meth c S hr hlocks hargs E hJ => ?_)
  have hx := S.1
  have hb := S.2.1
  have hown := S.2.2.2.1
  have hT := S.2.2.2.2
  subst hargs
  have hl := lv_entry ([.ref (kad g 3), .int a1, .int a2]) (n := 3) (Nat.le_of_ble_eq_true rfl)
  rw [lg_entry_eq]
  generalize (lg_sl ([.ref (kad g 3), .int a1, .int a2]) ++ List.replicate (3 - (lg_sl ([.ref (kad g 3), .int a1, .int a2])).length) Slot.unset).toArray = ls at hl ⊢
  have hl : lv_has ls 3 [(0, .ref (kad g 3)), (1, .int a1), (2, .int a2)] := hl
  refine lv_aload_n hx hb d_Env_nameByte_0 rfl (lv_at hl 0 rfl) ?_
  refine kf_Env_names S E hJ vt_106 d_Env_nameByte_1 ?_
  refine lv_aload_n hx hb d_Env_nameByte_4 rfl (lv_at hl 0 rfl) ?_
  refine lv_iload_n hx hb d_Env_nameByte_5 rfl (lv_at hl 1 rfl) ?_
  refine lv_bipush (v := 11) hx hb d_Env_nameByte_6 (by decide) ?_
  refine kg_p (As := [.int a1, .int 11]) (rest := [.ref (kad g (11 + 6))]) (k_Env_fact (l := l) (g := g) (α := α) a1 11) S E hJ kw_Env_63 ⟨Nat.le_of_ble_eq_true rfl, Nat.le_of_ble_eq_true rfl⟩ ⟨Nat.le_refl _, Nat.le_refl _⟩ (kv_Env E hJ) rfl hl.1 rfl (Nat.le_of_ble_eq_true rfl) d_Env_nameByte_8 rfl ?_
  refine kg_pS (As := [.int (f_Env_fact a1 11 α)]) (rest := [.ref (kad g (11 + 6))]) (k_Lex_startOf (l := l) (g := g) (α := α) (f_Env_fact a1 11 α)) S E hJ kw_Env_66 ⟨Nat.le_of_ble_eq_true rfl, Nat.le_of_ble_eq_true rfl⟩ ⟨Nat.le_refl _, Nat.le_refl _⟩ rfl hl.1 rfl (Nat.le_of_ble_eq_true rfl) d_Env_nameByte_11 ?_
  refine lv_iload_n hx hb d_Env_nameByte_14 rfl (lv_at hl 2 rfl) ?_
  refine lv_iadd hx hb d_Env_nameByte_15 ?_
  refine kg_p (As := [.int ((f_Lex_startOf (f_Env_fact a1 11 α) α) + a2)]) (rest := []) (k_Row_at (l := l) (g := g) (α := α) (r := 6) (by decide) ((f_Lex_startOf (f_Env_fact a1 11 α) α) + a2)) S E hJ kw_Env_36 ⟨Nat.le_of_ble_eq_true rfl, Nat.le_of_ble_eq_true rfl⟩ ⟨Nat.le_refl _, Nat.le_refl _⟩ (kv_Row (r := 6) (by decide) E hJ) rfl hl.1 rfl (Nat.le_of_ble_eq_true rfl) d_Env_nameByte_16 rfl ?_
  exact kv_iret (w := (fR_at α 6 ((f_Lex_startOf (f_Env_fact a1 11 α) α) + a2))) hx hb hr rfl hlocks h d_Env_nameByte_19
theorem kw_Env_69 : kWv "FamilyKernel$Environment" 69 "FamilyKernel$Row" y_Row_cut b_Row_cut 2 none 1 := ⟨vt_1183, vt_232, vt_233, vt_4, vt_234, by decide, by decide, by decide +kernel⟩
def f_Env_cut (a1 : Int32) (α : kS) : kS := if (f_Env_length α) ≤ a1 then (α) else ((fR_cut (fR_cut α 6 (f_Lex_startOf (f_Env_fact a1 11 α) α)) 5 (a1 * 12)))
set_option maxHeartbeats 4000000 in
set_option maxRecDepth 100000 in
theorem k_Env_cut {l : Launch} {g : kG} {α : kS} (a1 : Int32)  : kC l g y_Env_cut b_Env_cut 2 none 12 343 [.ref (kad g 3), .int a1] α (kQr (some none, f_Env_cut a1 α)) := by
  generalize h : f_Env_cut a1 α = x
  unfold f_Env_cut at h
  refine kc_ofW (by decide) (fun A ad0 p e s m args below meth c S hr hlocks hno hadm hargs E hI => ?_)
  have hx := S.1
  have hb := S.2.1
  have hown := S.2.2.2.1
  have hT := S.2.2.2.2
  subst hargs
  have hl := lv_entry ([.ref (kad g 3), .int a1]) (n := 2) (Nat.le_of_ble_eq_true rfl)
  rw [lg_entry_eq]
  generalize (lg_sl ([.ref (kad g 3), .int a1]) ++ List.replicate (2 - (lg_sl ([.ref (kad g 3), .int a1])).length) Slot.unset).toArray = ls at hl ⊢
  have hl : lv_has ls 2 [(0, .ref (kad g 3)), (1, .int a1)] := hl
  refine lv_iload_n hx hb d_Env_cut_0 rfl (lv_at hl 1 rfl) ?_
  refine lv_aload_n hx hb d_Env_cut_1 rfl (lv_at hl 0 rfl) ?_
  refine kg_p (As := []) (rest := [.int a1]) (k_Env_length (l := l) (g := g) (α := α) ) S E hI.1 kw_Env_43 ⟨Nat.le_of_ble_eq_true rfl, Nat.le_of_ble_eq_true rfl⟩ hI.room (kv_Env E hI.1) rfl hl.1 rfl (Nat.le_of_ble_eq_true rfl) d_Env_cut_2 rfl ?_
  refine lv_icmp_ge (tgt := 36) hx hb d_Env_cut_5 (by decide) (fun c1 => ?_) (fun c1 => ?_)
  · replace h := Eq.trans (if_pos c1).symm h
    exact kc_vret hx hb hr hlocks E hI (by rw [← h]) d_Env_cut_36
  · replace h := Eq.trans (if_neg c1).symm h
    refine lv_aload_n hx hb d_Env_cut_8 rfl (lv_at hl 0 rfl) ?_
    refine kf_Env_names S E hI.1 vt_106 d_Env_cut_9 ?_
    refine lv_aload_n hx hb d_Env_cut_12 rfl (lv_at hl 0 rfl) ?_
    refine lv_iload_n hx hb d_Env_cut_13 rfl (lv_at hl 1 rfl) ?_
    refine lv_bipush (v := 11) hx hb d_Env_cut_14 (by decide) ?_
    refine kg_p (As := [.int a1, .int 11]) (rest := [.ref (kad g (11 + 6))]) (k_Env_fact (l := l) (g := g) (α := α) a1 11) S E hI.1 kw_Env_63 ⟨Nat.le_of_ble_eq_true rfl, Nat.le_of_ble_eq_true rfl⟩ hI.room (kv_Env E hI.1) rfl hl.1 rfl (Nat.le_of_ble_eq_true rfl) d_Env_cut_16 rfl ?_
    refine kg_pS (As := [.int (f_Env_fact a1 11 α)]) (rest := [.ref (kad g (11 + 6))]) (k_Lex_startOf (l := l) (g := g) (α := α) (f_Env_fact a1 11 α)) S E hI.1 kw_Env_66 ⟨Nat.le_of_ble_eq_true rfl, Nat.le_of_ble_eq_true rfl⟩ hI.room rfl hl.1 rfl (Nat.le_of_ble_eq_true rfl) d_Env_cut_19 ?_
    refine kg_tV (As := [.int (f_Lex_startOf (f_Env_fact a1 11 α) α)]) (rest := []) (k_Row_cut (l := l) (g := g) (α := α) (r := 6) (by decide) (f_Lex_startOf (f_Env_fact a1 11 α) α)) S hlocks hno E hI kw_Env_69 ⟨Nat.le_of_ble_eq_true rfl, Nat.le_of_ble_eq_true rfl⟩ (kv_Row (r := 6) (by decide) E hI.1) rfl hl.1 rfl (Nat.le_of_ble_eq_true rfl) d_Env_cut_22 (fun ad H locs cells slots hRm hI => ?_)
    refine lv_aload_n hx hb d_Env_cut_25 rfl (lv_at hl 0 rfl) ?_
    refine kf_Env_facts S E hI.1 vt_105 d_Env_cut_26 ?_
    refine lv_iload_n hx hb d_Env_cut_29 rfl (lv_at hl 1 rfl) ?_
    refine lv_bipush (v := 12) hx hb d_Env_cut_30 (by decide) ?_
    refine lv_imul hx hb d_Env_cut_32 ?_
    refine kg_tV (As := [.int (a1 * 12)]) (rest := []) (k_Row_cut (l := l) (g := g) (α := (fR_cut α 6 (f_Lex_startOf (f_Env_fact a1 11 α) α))) (r := 5) (by decide) (a1 * 12)) S hlocks hno E hI kw_Env_69 ⟨Nat.le_of_ble_eq_true rfl, Nat.le_of_ble_eq_true rfl⟩ (kv_Row (r := 5) (by decide) E hI.1) rfl hl.1 rfl (Nat.le_of_ble_eq_true rfl) d_Env_cut_33 (fun ad H locs cells slots hRm hI => ?_)
    exact kc_vret hx hb hr hlocks E hI (by rw [← h]) d_Env_cut_36
theorem kw_Env_32 : kWv "FamilyKernel$Environment" 32 "FamilyKernel$Environment" y_Env_cut b_Env_cut 2 none 1 := ⟨vt_1198, vt_218, vt_219, vt_26, vt_220, by decide, by decide, by decide +kernel⟩
def f_Env_clear  (α : kS) : kS := (kSi (f_Env_cut 0 α) 7 0)
set_option maxHeartbeats 4000000 in
set_option maxRecDepth 100000 in
theorem k_Env_clear {l : Launch} {g : kG} {α : kS}   : kC l g y_Env_clear b_Env_clear 1 none 13 364 [.ref (kad g 3)] α (kQr (some none, f_Env_clear α)) := by
  generalize h : f_Env_clear α = x
  unfold f_Env_clear at h
  refine kc_ofW (by decide) (fun A ad0 p e s m args below meth c S hr hlocks hno hadm hargs E hI => ?_)
  have hx := S.1
  have hb := S.2.1
  have hown := S.2.2.2.1
  have hT := S.2.2.2.2
  subst hargs
  have hl := lv_entry ([.ref (kad g 3)]) (n := 1) (Nat.le_of_ble_eq_true rfl)
  rw [lg_entry_eq]
  generalize (lg_sl ([.ref (kad g 3)]) ++ List.replicate (1 - (lg_sl ([.ref (kad g 3)])).length) Slot.unset).toArray = ls at hl ⊢
  have hl : lv_has ls 1 [(0, .ref (kad g 3))] := hl
  refine lv_aload_n hx hb d_Env_clear_0 rfl (lv_at hl 0 rfl) ?_
  refine lv_iconst (v := 0) hx hb d_Env_clear_1 (by decide) ?_
  refine kg_tV (As := [.int 0]) (rest := []) (k_Env_cut (l := l) (g := g) (α := α) 0) S hlocks hno E hI kw_Env_32 ⟨Nat.le_of_ble_eq_true rfl, Nat.le_of_ble_eq_true rfl⟩ (kv_Env E hI.1) rfl hl.1 rfl (Nat.le_of_ble_eq_true rfl) d_Env_clear_2 (fun ad H locs cells slots hRm hI => ?_)
  refine lv_aload_n hx hb d_Env_clear_5 rfl (lv_at hl 0 rfl) ?_
  refine lv_iconst (v := 0) hx hb d_Env_clear_6 (by decide) ?_
  refine kp_Env_sizes S E hI vt_1108 d_Env_clear_7 (fun H locs hI => ?_)
  exact kc_vret hx hb hr hlocks E hI (by rw [← h]) d_Env_clear_10
