theorem kw_Par_190 : kWv "FamilyKernel$Parser" 190 "FamilyKernel$Lexer" y_Lex_start b_Lex_start 1 (some .int) 0 := ⟨vt_430, vt_189, vt_190, vt_33, vt_191, by decide, by decide, by decide +kernel⟩
theorem kw_Par_193 : kWv "FamilyKernel$Parser" 193 "FamilyKernel$Meter" y_Meter_failAt b_Meter_failAt 3 none 2 := ⟨vt_431, vt_432, vt_433, vt_13, vt_434, by decide, by decide, by decide +kernel⟩
def f_Par_refuse (N : Nat)  (α : kS) : Option (kO × kS) := kBv (f_Meter_failAt N 1 (f_Lex_start α) α) fun α1 => (some (some none, α1))
set_option maxHeartbeats 4000000 in
set_option maxRecDepth 100000 in
theorem k_Par_refuse {l : Launch} {g : kG} {α : kS} (hfl : kFl l) (N : Nat)   : ∀ x, f_Par_refuse N α = some x → kC l g y_Par_refuse b_Par_refuse 1 none 7 103 [.ref (kad g 5)] α (kQr x) := by
  intro x h
  unfold f_Par_refuse at h
  refine kc_ofW (by decide) (fun A ad0 p e s m args below meth c S hr hlocks hno hadm hargs E hI => ?_)
  have hx := S.1
  have hb := S.2.1
  have hown := S.2.2.2.1
  have hT := S.2.2.2.2
  subst hargs
  have hl := lv_entry ([.ref (kad g 5)]) (n := 1) (Nat.le_of_ble_eq_true rfl)
  rw [lg_entry_eq]
  generalize (lg_sl ([.ref (kad g 5)]) ++ List.replicate (1 - (lg_sl ([.ref (kad g 5)])).length) Slot.unset).toArray = ls at hl ⊢
  have hl : lv_has ls 1 [(0, .ref (kad g 5))] := hl
  refine lv_aload_n hx hb d_Par_refuse_0 rfl (lv_at hl 0 rfl) ?_
  refine kf_Par_meter S E hI.1 vt_116 d_Par_refuse_1 ?_
  refine lv_iconst (v := 1) hx hb d_Par_refuse_4 (by decide) ?_
  refine lv_aload_n hx hb d_Par_refuse_5 rfl (lv_at hl 0 rfl) ?_
  refine kf_Par_lexer S E hI.1 vt_115 d_Par_refuse_6 ?_
  refine kg_p (As := []) (rest := [.int 1, .ref (kad g 1)]) (k_Lex_start (l := l) (g := g) (α := α) ) S E hI.1 kw_Par_190 ⟨Nat.le_of_ble_eq_true rfl, Nat.le_of_ble_eq_true rfl⟩ hI.room (kv_Lex E hI.1) rfl hl.1 rfl (Nat.le_of_ble_eq_true rfl) d_Par_refuse_9 rfl ?_
  refine kg_cV (As := [.int 1, .int (f_Lex_start α)]) (rest := []) h (k_Meter_failAt (l := l) (g := g) (α := α) hfl N 1 (f_Lex_start α)) S hlocks hno E hI kw_Par_193 ⟨Nat.le_of_ble_eq_true rfl, Nat.le_of_ble_eq_true rfl⟩ (kv_Meter E hI.1) rfl hl.1 rfl (Nat.le_of_ble_eq_true rfl) d_Par_refuse_12 (fun α1 ad H locs cells slots e2 h hRm hI => ?_)
  exact kc_vret hx hb hr hlocks E hI h d_Par_refuse_15
theorem kw_Par_160 : kWv "FamilyKernel$Parser" 160 "FamilyKernel$Lexer" y_Lex_kind b_Lex_kind 1 (some .int) 0 := ⟨vt_411, vt_177, vt_178, vt_33, vt_179, by decide, by decide, by decide +kernel⟩
theorem kw_Par_196 : kWv "FamilyKernel$Parser" 196 "FamilyKernel$Environment" y_Env_find b_Env_find 4 (some .int) 2 := ⟨vt_449, vt_450, vt_451, vt_26, vt_452, by decide, by decide, by decide +kernel⟩
theorem kw_Par_92 : kWv "FamilyKernel$Parser" 92 "FamilyKernel$Environment" y_Env_length b_Env_length 1 (some .int) 0 := ⟨vt_331, vt_181, vt_182, vt_26, vt_183, by decide, by decide, by decide +kernel⟩
theorem kw_Par_200 : kWv "FamilyKernel$Parser" 200 "FamilyKernel$Environment" y_Env_add b_Env_add 6 (some .int) 2 := ⟨vt_453, vt_454, vt_455, vt_26, vt_456, by decide, by decide, by decide +kernel⟩
theorem kw_Par_168 : kWv "FamilyKernel$Parser" 168 "FamilyKernel$Lexer" y_Lex_advance b_Lex_advance 2 none 0 := ⟨vt_416, vt_257, vt_258, vt_33, vt_259, by decide, by decide, by decide +kernel⟩
theorem kw_Par_154 : kWv "FamilyKernel$Parser" 154 "FamilyKernel$Meter" y_Meter_fail b_Meter_fail 2 none 1 := ⟨vt_405, vt_406, vt_407, vt_13, vt_408, by decide, by decide, by decide +kernel⟩
theorem kw_Par_165 : kWv "FamilyKernel$Parser" 165 "FamilyKernel$Parser" y_Par_refuse b_Par_refuse 1 none 0 := ⟨vt_412, vt_413, vt_414, vt_40, vt_415, by decide, by decide, by decide +kernel⟩
def f_Par_takeNewName_j70 (N : Nat)  (y1 : Int32) (γ : kS) : Option (kO × kS) := kBi (f_Env_add N y1 γ) fun v8 α6 => (some (some (some v8), (f_Lex_advance α6)))
def f_Par_takeNewName_j48 (N : Nat)  (y1 : Int32) (γ : kS) : Option (kO × kS) := if (f_Env_length γ) < 300 then (f_Par_takeNewName_j70 N y1 γ) else (kBv (f_Meter_fail N 10 γ) fun α9 => (f_Par_takeNewName_j70 N y1 α9))
def f_Par_takeNewName_j15 (N : Nat)  (y1 : Int32) (γ : kS) : Option (kO × kS) := ((f_Env_find N 300 γ)).bind fun v2 => (if v2 = (-1) then (f_Par_takeNewName_j48 N y1 γ) else (kBv (f_Meter_failAt N 2 (f_Lex_start γ) γ) fun α11 => (f_Par_takeNewName_j48 N y1 α11)))
def f_Par_takeNewName (N : Nat) (a1 : Int32) (α : kS) : Option (kO × kS) := if (f_Lex_kind α) = 2 then (f_Par_takeNewName_j15 N a1 α) else (kBv (f_Par_refuse N α) fun α13 => (f_Par_takeNewName_j15 N a1 α13))
set_option maxHeartbeats 4000000 in
set_option maxRecDepth 100000 in
theorem k_Par_takeNewName {l : Launch} {g : kG} {α : kS} (hfl : kFl l) (N : Nat) (a1 : Int32)  : ∀ x, f_Par_takeNewName N a1 α = some x → kC l g y_Par_takeNewName b_Par_takeNewName 3 (some .int) 32 946 [.ref (kad g 5), .int a1] α (kQr x) := by
  intro x h
  unfold f_Par_takeNewName at h
  refine kc_ofW (by decide) (fun A ad0 p e s m args below meth c S hr hlocks hno hadm hargs E hI => ?_)
  have hx := S.1
  have hb := S.2.1
  have hown := S.2.2.2.1
  have hT := S.2.2.2.2
  subst hargs
  have hl := lv_entry ([.ref (kad g 5), .int a1]) (n := 3) (Nat.le_of_ble_eq_true rfl)
  rw [lg_entry_eq]
  generalize (lg_sl ([.ref (kad g 5), .int a1]) ++ List.replicate (3 - (lg_sl ([.ref (kad g 5), .int a1])).length) Slot.unset).toArray = ls at hl ⊢
  have hl : lv_has ls 3 [(0, .ref (kad g 5)), (1, .int a1)] := hl
  have J70 : ∀ (y1 : Int32) (γ : kS) (ad : Nat → Nat) (H : Heap) (locs : List Loc) (cells slots : Nat) (ls : Array Slot), f_Par_takeNewName_j70 N y1 γ = some x → kI g A s α ad0 γ ad H locs cells slots → lv_has ls 3 [(0, .ref (kad g 5)), (1, .int y1)] → W p l e (kR 32 946 α) s m ([.ref (kad g 5), .int a1]).toArray below meth c H locs cells slots (vEQ below (kQ g A α ad0 (kQr x)) ([.ref (kad g 5), .int a1]).toArray s A) (F0 m 70 ls []) := by
    intro y1 γ ad H locs cells slots ls h hI hl
    unfold f_Par_takeNewName_j70 at h
    refine lv_aload_n hx hb d_Par_takeNewName_70 rfl (lv_at hl 0 rfl) ?_
    refine kf_Par_environment S E hI.1 vt_118 d_Par_takeNewName_71 ?_
    refine lv_iload_n hx hb d_Par_takeNewName_74 rfl (lv_at hl 1 rfl) ?_
    refine lv_aload_n hx hb d_Par_takeNewName_75 rfl (lv_at hl 0 rfl) ?_
    refine kf_Par_lexer S E hI.1 vt_115 d_Par_takeNewName_76 ?_
    refine kg_cI (As := [.int y1, .ref (kad g 4)]) (rest := []) h (k_Env_add (l := l) (g := g) (α := γ) hfl N y1) S hlocks hno E hI kw_Par_200 ⟨Nat.le_of_ble_eq_true rfl, Nat.le_of_ble_eq_true rfl⟩ (kv_Env E hI.1) rfl hl.1 rfl (Nat.le_of_ble_eq_true rfl) d_Par_takeNewName_79 (fun v8 α6 ad H locs cells slots e7 h hRm hI => ?_)
    refine lv_istore_n (lv' := [(2, .int v8), (0, .ref (kad g 5)), (1, .int y1)]) hx hb d_Par_takeNewName_82 rfl hl (by decide) rfl (fun ls hl => ?_)
    refine lv_aload_n hx hb d_Par_takeNewName_83 rfl (lv_at hl 1 rfl) ?_
    refine kf_Par_lexer S E hI.1 vt_115 d_Par_takeNewName_84 ?_
    refine kg_tV (As := []) (rest := []) (k_Lex_advance (l := l) (g := g) (α := α6) ) S hlocks hno E hI kw_Par_168 ⟨Nat.le_of_ble_eq_true rfl, Nat.le_of_ble_eq_true rfl⟩ (kv_Lex E hI.1) rfl hl.1 rfl (Nat.le_of_ble_eq_true rfl) d_Par_takeNewName_87 (fun ad H locs cells slots hRm hI => ?_)
    refine lv_iload_n hx hb d_Par_takeNewName_90 rfl (lv_at hl 0 rfl) ?_
    exact kc_iret (w := v8) hx hb hr rfl hlocks E hI h d_Par_takeNewName_91
  have J48 : ∀ (y1 : Int32) (γ : kS) (ad : Nat → Nat) (H : Heap) (locs : List Loc) (cells slots : Nat) (ls : Array Slot), f_Par_takeNewName_j48 N y1 γ = some x → kI g A s α ad0 γ ad H locs cells slots → lv_has ls 3 [(0, .ref (kad g 5)), (1, .int y1)] → W p l e (kR 32 946 α) s m ([.ref (kad g 5), .int a1]).toArray below meth c H locs cells slots (vEQ below (kQ g A α ad0 (kQr x)) ([.ref (kad g 5), .int a1]).toArray s A) (F0 m 48 ls []) := by
    intro y1 γ ad H locs cells slots ls h hI hl
    unfold f_Par_takeNewName_j48 at h
    refine lv_aload_n hx hb d_Par_takeNewName_48 rfl (lv_at hl 0 rfl) ?_
    refine kf_Par_environment S E hI.1 vt_118 d_Par_takeNewName_49 ?_
    refine kg_p (As := []) (rest := []) (k_Env_length (l := l) (g := g) (α := γ) ) S E hI.1 kw_Par_92 ⟨Nat.le_of_ble_eq_true rfl, Nat.le_of_ble_eq_true rfl⟩ hI.room (kv_Env E hI.1) rfl hl.1 rfl (Nat.le_of_ble_eq_true rfl) d_Par_takeNewName_52 rfl ?_
    refine lv_sipush (v := 300) hx hb d_Par_takeNewName_55 (by decide) ?_
    refine lv_icmp_lt (tgt := 70) hx hb d_Par_takeNewName_58 (by decide) (fun c5 => ?_) (fun c5 => ?_)
    · replace h := Eq.trans (if_pos c5).symm h
      exact J70 y1 _ _ _ _ _ _ _ h hI (lv_sub hl [0, 1] rfl)
    · replace h := Eq.trans (if_neg c5).symm h
      refine lv_aload_n hx hb d_Par_takeNewName_61 rfl (lv_at hl 0 rfl) ?_
      refine kf_Par_meter S E hI.1 vt_116 d_Par_takeNewName_62 ?_
      refine lv_bipush (v := 10) hx hb d_Par_takeNewName_65 (by decide) ?_
      refine kg_cV (As := [.int 10]) (rest := []) h (k_Meter_fail (l := l) (g := g) (α := γ) hfl N 10) S hlocks hno E hI kw_Par_154 ⟨Nat.le_of_ble_eq_true rfl, Nat.le_of_ble_eq_true rfl⟩ (kv_Meter E hI.1) rfl hl.1 rfl (Nat.le_of_ble_eq_true rfl) d_Par_takeNewName_67 (fun α9 ad H locs cells slots e10 h hRm hI => ?_)
      exact J70 y1 _ _ _ _ _ _ _ h hI (lv_sub hl [0, 1] rfl)
  have J15 : ∀ (y1 : Int32) (γ : kS) (ad : Nat → Nat) (H : Heap) (locs : List Loc) (cells slots : Nat) (ls : Array Slot), f_Par_takeNewName_j15 N y1 γ = some x → kI g A s α ad0 γ ad H locs cells slots → lv_has ls 3 [(0, .ref (kad g 5)), (1, .int y1)] → W p l e (kR 32 946 α) s m ([.ref (kad g 5), .int a1]).toArray below meth c H locs cells slots (vEQ below (kQ g A α ad0 (kQr x)) ([.ref (kad g 5), .int a1]).toArray s A) (F0 m 15 ls []) := by
    intro y1 γ ad H locs cells slots ls h hI hl
    unfold f_Par_takeNewName_j15 at h
    refine lv_aload_n hx hb d_Par_takeNewName_15 rfl (lv_at hl 0 rfl) ?_
    refine kf_Par_environment S E hI.1 vt_118 d_Par_takeNewName_16 ?_
    refine lv_aload_n hx hb d_Par_takeNewName_19 rfl (lv_at hl 0 rfl) ?_
    refine kf_Par_lexer S E hI.1 vt_115 d_Par_takeNewName_20 ?_
    refine lv_sipush (v := 300) hx hb d_Par_takeNewName_23 (by decide) ?_
    obtain ⟨v2, e3, h⟩ := Option.bind_eq_some_iff.mp h
    refine kg_p (As := [.ref (kad g 4), .int 300]) (rest := []) ((k_Env_find (l := l) (g := g) (α := γ) N 300) _ e3) S E hI.1 kw_Par_196 ⟨Nat.le_of_ble_eq_true rfl, Nat.le_of_ble_eq_true rfl⟩ hI.room (kv_Env E hI.1) rfl hl.1 rfl (Nat.le_of_ble_eq_true rfl) d_Par_takeNewName_26 rfl ?_
    refine lv_iconst (v := (-1)) hx hb d_Par_takeNewName_29 (by decide) ?_
    refine lv_icmp_eq (tgt := 48) hx hb d_Par_takeNewName_30 (by decide) (fun c4 => ?_) (fun c4 => ?_)
    · replace h := Eq.trans (if_pos c4).symm h
      exact J48 y1 _ _ _ _ _ _ _ h hI (lv_sub hl [0, 1] rfl)
    · replace h := Eq.trans (if_neg c4).symm h
      refine lv_aload_n hx hb d_Par_takeNewName_33 rfl (lv_at hl 0 rfl) ?_
      refine kf_Par_meter S E hI.1 vt_116 d_Par_takeNewName_34 ?_
      refine lv_iconst (v := 2) hx hb d_Par_takeNewName_37 (by decide) ?_
      refine lv_aload_n hx hb d_Par_takeNewName_38 rfl (lv_at hl 0 rfl) ?_
      refine kf_Par_lexer S E hI.1 vt_115 d_Par_takeNewName_39 ?_
      refine kg_p (As := []) (rest := [.int 2, .ref (kad g 1)]) (k_Lex_start (l := l) (g := g) (α := γ) ) S E hI.1 kw_Par_190 ⟨Nat.le_of_ble_eq_true rfl, Nat.le_of_ble_eq_true rfl⟩ hI.room (kv_Lex E hI.1) rfl hl.1 rfl (Nat.le_of_ble_eq_true rfl) d_Par_takeNewName_42 rfl ?_
      refine kg_cV (As := [.int 2, .int (f_Lex_start γ)]) (rest := []) h (k_Meter_failAt (l := l) (g := g) (α := γ) hfl N 2 (f_Lex_start γ)) S hlocks hno E hI kw_Par_193 ⟨Nat.le_of_ble_eq_true rfl, Nat.le_of_ble_eq_true rfl⟩ (kv_Meter E hI.1) rfl hl.1 rfl (Nat.le_of_ble_eq_true rfl) d_Par_takeNewName_45 (fun α11 ad H locs cells slots e12 h hRm hI => ?_)
      exact J48 y1 _ _ _ _ _ _ _ h hI (lv_sub hl [0, 1] rfl)
  refine lv_aload_n hx hb d_Par_takeNewName_0 rfl (lv_at hl 0 rfl) ?_
  refine kf_Par_lexer S E hI.1 vt_115 d_Par_takeNewName_1 ?_
  refine kg_p (As := []) (rest := []) (k_Lex_kind (l := l) (g := g) (α := α) ) S E hI.1 kw_Par_160 ⟨Nat.le_of_ble_eq_true rfl, Nat.le_of_ble_eq_true rfl⟩ hI.room (kv_Lex E hI.1) rfl hl.1 rfl (Nat.le_of_ble_eq_true rfl) d_Par_takeNewName_4 rfl ?_
  refine lv_iconst (v := 2) hx hb d_Par_takeNewName_7 (by decide) ?_
  refine lv_icmp_eq (tgt := 15) hx hb d_Par_takeNewName_8 (by decide) (fun c1 => ?_) (fun c1 => ?_)
  · replace h := Eq.trans (if_pos c1).symm h
    exact J15 a1 _ _ _ _ _ _ _ h hI (lv_sub hl [0, 1] rfl)
  · replace h := Eq.trans (if_neg c1).symm h
    refine lv_aload_n hx hb d_Par_takeNewName_11 rfl (lv_at hl 0 rfl) ?_
    refine kg_cV (As := []) (rest := []) h (k_Par_refuse (l := l) (g := g) (α := α) hfl N) S hlocks hno E hI kw_Par_165 ⟨Nat.le_of_ble_eq_true rfl, Nat.le_of_ble_eq_true rfl⟩ (kv_Par E hI.1) rfl hl.1 rfl (Nat.le_of_ble_eq_true rfl) d_Par_takeNewName_12 (fun α13 ad H locs cells slots e14 h hRm hI => ?_)
    exact J15 a1 _ _ _ _ _ _ _ h hI (lv_sub hl [0, 1] rfl)
def f_Par_expect (N : Nat) (a1 : Int32) (α : kS) : Option (kO × kS) := if (f_Lex_kind α) = a1 then (some (some none, (f_Lex_advance α))) else (kBv (f_Par_refuse N α) fun α2 => (some (some none, (f_Lex_advance α2))))
set_option maxHeartbeats 4000000 in
set_option maxRecDepth 100000 in
theorem k_Par_expect {l : Launch} {g : kG} {α : kS} (hfl : kFl l) (N : Nat) (a1 : Int32)  : ∀ x, f_Par_expect N a1 α = some x → kC l g y_Par_expect b_Par_expect 2 none 12 342 [.ref (kad g 5), .int a1] α (kQr x) := by
  intro x h
  unfold f_Par_expect at h
  refine kc_ofW (by decide) (fun A ad0 p e s m args below meth c S hr hlocks hno hadm hargs E hI => ?_)
  have hx := S.1
  have hb := S.2.1
  have hown := S.2.2.2.1
  have hT := S.2.2.2.2
  subst hargs
  have hl := lv_entry ([.ref (kad g 5), .int a1]) (n := 2) (Nat.le_of_ble_eq_true rfl)
  rw [lg_entry_eq]
  generalize (lg_sl ([.ref (kad g 5), .int a1]) ++ List.replicate (2 - (lg_sl ([.ref (kad g 5), .int a1])).length) Slot.unset).toArray = ls at hl ⊢
  have hl : lv_has ls 2 [(0, .ref (kad g 5)), (1, .int a1)] := hl
  refine lv_aload_n hx hb d_Par_expect_0 rfl (lv_at hl 0 rfl) ?_
  refine kf_Par_lexer S E hI.1 vt_115 d_Par_expect_1 ?_
  refine kg_p (As := []) (rest := []) (k_Lex_kind (l := l) (g := g) (α := α) ) S E hI.1 kw_Par_160 ⟨Nat.le_of_ble_eq_true rfl, Nat.le_of_ble_eq_true rfl⟩ hI.room (kv_Lex E hI.1) rfl hl.1 rfl (Nat.le_of_ble_eq_true rfl) d_Par_expect_4 rfl ?_
  refine lv_iload_n hx hb d_Par_expect_7 rfl (lv_at hl 1 rfl) ?_
  refine lv_icmp_eq (tgt := 15) hx hb d_Par_expect_8 (by decide) (fun c1 => ?_) (fun c1 => ?_)
  · replace h := Eq.trans (if_pos c1).symm h
    refine lv_aload_n hx hb d_Par_expect_15 rfl (lv_at hl 0 rfl) ?_
    refine kf_Par_lexer S E hI.1 vt_115 d_Par_expect_16 ?_
    refine kg_tV (As := []) (rest := []) (k_Lex_advance (l := l) (g := g) (α := α) ) S hlocks hno E hI kw_Par_168 ⟨Nat.le_of_ble_eq_true rfl, Nat.le_of_ble_eq_true rfl⟩ (kv_Lex E hI.1) rfl hl.1 rfl (Nat.le_of_ble_eq_true rfl) d_Par_expect_19 (fun ad H locs cells slots hRm hI => ?_)
    exact kc_vret hx hb hr hlocks E hI h d_Par_expect_22
  · replace h := Eq.trans (if_neg c1).symm h
    refine lv_aload_n hx hb d_Par_expect_11 rfl (lv_at hl 0 rfl) ?_
    refine kg_cV (As := []) (rest := []) h (k_Par_refuse (l := l) (g := g) (α := α) hfl N) S hlocks hno E hI kw_Par_165 ⟨Nat.le_of_ble_eq_true rfl, Nat.le_of_ble_eq_true rfl⟩ (kv_Par E hI.1) rfl hl.1 rfl (Nat.le_of_ble_eq_true rfl) d_Par_expect_12 (fun α2 ad H locs cells slots e3 h hRm hI => ?_)
    refine lv_aload_n hx hb d_Par_expect_15 rfl (lv_at hl 0 rfl) ?_
    refine kf_Par_lexer S E hI.1 vt_115 d_Par_expect_16 ?_
    refine kg_tV (As := []) (rest := []) (k_Lex_advance (l := l) (g := g) (α := α2) ) S hlocks hno E hI kw_Par_168 ⟨Nat.le_of_ble_eq_true rfl, Nat.le_of_ble_eq_true rfl⟩ (kv_Lex E hI.1) rfl hl.1 rfl (Nat.le_of_ble_eq_true rfl) d_Par_expect_19 (fun ad H locs cells slots hRm hI => ?_)
    exact kc_vret hx hb hr hlocks E hI h d_Par_expect_22
theorem kw_Par_204 : kWv "FamilyKernel$Parser" 204 "FamilyKernel$Row" y_Row_push b_Row_push 2 none 1 := ⟨vt_495, vt_252, vt_253, vt_4, vt_254, by decide, by decide, by decide +kernel⟩
def f_Par_hold (N : Nat) (a1 : Int32) (a2 : Int32) (a3 : Int32) (α : kS) : Option (kO × kS) := kBv (fR_push α 8 a1) fun α1 => (kBv (fR_push α1 8 a2) fun α3 => (kBv (fR_push α3 8 a3) fun α5 => (some (some none, α5))))
set_option maxHeartbeats 4000000 in
set_option maxRecDepth 100000 in
theorem k_Par_hold {l : Launch} {g : kG} {α : kS} (hfl : kFl l) (N : Nat) (a1 : Int32) (a2 : Int32) (a3 : Int32)  : ∀ x, f_Par_hold N a1 a2 a3 α = some x → kC l g y_Par_hold b_Par_hold 4 none 31 921 [.ref (kad g 5), .int a1, .int a2, .int a3] α (kQr x) := by
  intro x h
  unfold f_Par_hold at h
  refine kc_ofW (by decide) (fun A ad0 p e s m args below meth c S hr hlocks hno hadm hargs E hI => ?_)
  have hx := S.1
  have hb := S.2.1
  have hown := S.2.2.2.1
  have hT := S.2.2.2.2
  subst hargs
  have hl := lv_entry ([.ref (kad g 5), .int a1, .int a2, .int a3]) (n := 4) (Nat.le_of_ble_eq_true rfl)
  rw [lg_entry_eq]
  generalize (lg_sl ([.ref (kad g 5), .int a1, .int a2, .int a3]) ++ List.replicate (4 - (lg_sl ([.ref (kad g 5), .int a1, .int a2, .int a3])).length) Slot.unset).toArray = ls at hl ⊢
  have hl : lv_has ls 4 [(0, .ref (kad g 5)), (1, .int a1), (2, .int a2), (3, .int a3)] := hl
  refine lv_aload_n hx hb d_Par_hold_0 rfl (lv_at hl 0 rfl) ?_
  refine kf_Par_open S E hI.1 vt_122 d_Par_hold_1 ?_
  refine lv_iload_n hx hb d_Par_hold_4 rfl (lv_at hl 1 rfl) ?_
  refine kg_cV (As := [.int a1]) (rest := []) h (k_Row_push (l := l) (g := g) (α := α) (r := 8) (by decide) a1) S hlocks hno E hI kw_Par_204 ⟨Nat.le_of_ble_eq_true rfl, Nat.le_of_ble_eq_true rfl⟩ (kv_Row (r := 8) (by decide) E hI.1) rfl hl.1 rfl (Nat.le_of_ble_eq_true rfl) d_Par_hold_5 (fun α1 ad H locs cells slots e2 h hRm hI => ?_)
  refine lv_aload_n hx hb d_Par_hold_8 rfl (lv_at hl 0 rfl) ?_
  refine kf_Par_open S E hI.1 vt_122 d_Par_hold_9 ?_
  refine lv_iload_n hx hb d_Par_hold_12 rfl (lv_at hl 2 rfl) ?_
  refine kg_cV (As := [.int a2]) (rest := []) h (k_Row_push (l := l) (g := g) (α := α1) (r := 8) (by decide) a2) S hlocks hno E hI kw_Par_204 ⟨Nat.le_of_ble_eq_true rfl, Nat.le_of_ble_eq_true rfl⟩ (kv_Row (r := 8) (by decide) E hI.1) rfl hl.1 rfl (Nat.le_of_ble_eq_true rfl) d_Par_hold_13 (fun α3 ad H locs cells slots e4 h hRm hI => ?_)
  refine lv_aload_n hx hb d_Par_hold_16 rfl (lv_at hl 0 rfl) ?_
  refine kf_Par_open S E hI.1 vt_122 d_Par_hold_17 ?_
  refine lv_iload_n hx hb d_Par_hold_20 rfl (lv_at hl 3 rfl) ?_
  refine kg_cV (As := [.int a3]) (rest := []) h (k_Row_push (l := l) (g := g) (α := α3) (r := 8) (by decide) a3) S hlocks hno E hI kw_Par_204 ⟨Nat.le_of_ble_eq_true rfl, Nat.le_of_ble_eq_true rfl⟩ (kv_Row (r := 8) (by decide) E hI.1) rfl hl.1 rfl (Nat.le_of_ble_eq_true rfl) d_Par_hold_21 (fun α5 ad H locs cells slots e6 h hRm hI => ?_)
  exact kc_vret hx hb hr hlocks E hI h d_Par_hold_24
theorem kw_Par_187 : kWv "FamilyKernel$Parser" 187 "FamilyKernel$Parser" y_Par_hold b_Par_hold 4 none 3 := ⟨vt_491, vt_492, vt_493, vt_40, vt_494, by decide, by decide, by decide +kernel⟩
def f_Par_await (N : Nat) (a1 : Int32) (a2 : Int32) (a3 : Int32) (α : kS) : Option (kO × kS) := kBv (f_Par_hold N a1 a2 a3 α) fun α1 => (some (some none, (kSi α1 13 1)))
set_option maxHeartbeats 4000000 in
set_option maxRecDepth 100000 in
theorem k_Par_await {l : Launch} {g : kG} {α : kS} (hfl : kFl l) (N : Nat) (a1 : Int32) (a2 : Int32) (a3 : Int32)  : ∀ x, f_Par_await N a1 a2 a3 α = some x → kC l g y_Par_await b_Par_await 4 none 32 944 [.ref (kad g 5), .int a1, .int a2, .int a3] α (kQr x) := by
  intro x h
  unfold f_Par_await at h
  refine kc_ofW (by decide) (fun A ad0 p e s m args below meth c S hr hlocks hno hadm hargs E hI => ?_)
  have hx := S.1
  have hb := S.2.1
  have hown := S.2.2.2.1
  have hT := S.2.2.2.2
  subst hargs
  have hl := lv_entry ([.ref (kad g 5), .int a1, .int a2, .int a3]) (n := 4) (Nat.le_of_ble_eq_true rfl)
  rw [lg_entry_eq]
  generalize (lg_sl ([.ref (kad g 5), .int a1, .int a2, .int a3]) ++ List.replicate (4 - (lg_sl ([.ref (kad g 5), .int a1, .int a2, .int a3])).length) Slot.unset).toArray = ls at hl ⊢
  have hl : lv_has ls 4 [(0, .ref (kad g 5)), (1, .int a1), (2, .int a2), (3, .int a3)] := hl
  refine lv_aload_n hx hb d_Par_await_0 rfl (lv_at hl 0 rfl) ?_
  refine lv_iload_n hx hb d_Par_await_1 rfl (lv_at hl 1 rfl) ?_
  refine lv_iload_n hx hb d_Par_await_2 rfl (lv_at hl 2 rfl) ?_
  refine lv_iload_n hx hb d_Par_await_3 rfl (lv_at hl 3 rfl) ?_
  refine kg_cV (As := [.int a1, .int a2, .int a3]) (rest := []) h (k_Par_hold (l := l) (g := g) (α := α) hfl N a1 a2 a3) S hlocks hno E hI kw_Par_187 ⟨Nat.le_of_ble_eq_true rfl, Nat.le_of_ble_eq_true rfl⟩ (kv_Par E hI.1) rfl hl.1 rfl (Nat.le_of_ble_eq_true rfl) d_Par_await_4 (fun α1 ad H locs cells slots e2 h hRm hI => ?_)
  refine lv_aload_n hx hb d_Par_await_7 rfl (lv_at hl 0 rfl) ?_
  refine lv_iconst (v := 1) hx hb d_Par_await_8 (by decide) ?_
  refine kp_Par_state S E hI vt_340 d_Par_await_9 (fun H locs hI => ?_)
  exact kc_vret hx hb hr hlocks E hI h d_Par_await_12
theorem kw_Par_181 : kWv "FamilyKernel$Parser" 181 "FamilyKernel$Parser" y_Par_takeNewName b_Par_takeNewName 3 (some .int) 1 := ⟨vt_441, vt_442, vt_443, vt_40, vt_444, by decide, by decide, by decide +kernel⟩
theorem kw_Par_184 : kWv "FamilyKernel$Parser" 184 "FamilyKernel$Parser" y_Par_expect b_Par_expect 2 none 1 := ⟨vt_445, vt_446, vt_447, vt_40, vt_448, by decide, by decide, by decide +kernel⟩
theorem kw_Par_177 : kWv "FamilyKernel$Parser" 177 "FamilyKernel$Parser" y_Par_await b_Par_await 4 none 3 := ⟨vt_426, vt_427, vt_428, vt_40, vt_429, by decide, by decide, by decide +kernel⟩
def f_Par_beginConstant (N : Nat) (a1 : Int32) (α : kS) : Option (kO × kS) := kBi (f_Par_takeNewName N a1 α) fun v3 α1 => (kBv (f_Par_expect N 21 (kSi α1 19 v3)) fun α4 => (kBv (f_Par_await N 12 a1 0 α4) fun α6 => (some (some none, α6))))
set_option maxHeartbeats 4000000 in
set_option maxRecDepth 100000 in
theorem k_Par_beginConstant {l : Launch} {g : kG} {α : kS} (hfl : kFl l) (N : Nat) (a1 : Int32)  : ∀ x, f_Par_beginConstant N a1 α = some x → kC l g y_Par_beginConstant b_Par_beginConstant 2 none 33 968 [.ref (kad g 5), .int a1] α (kQr x) := by
  intro x h
  unfold f_Par_beginConstant at h
  refine kc_ofW (by decide) (fun A ad0 p e s m args below meth c S hr hlocks hno hadm hargs E hI => ?_)
  have hx := S.1
  have hb := S.2.1
  have hown := S.2.2.2.1
  have hT := S.2.2.2.2
  subst hargs
  have hl := lv_entry ([.ref (kad g 5), .int a1]) (n := 2) (Nat.le_of_ble_eq_true rfl)
  rw [lg_entry_eq]
  generalize (lg_sl ([.ref (kad g 5), .int a1]) ++ List.replicate (2 - (lg_sl ([.ref (kad g 5), .int a1])).length) Slot.unset).toArray = ls at hl ⊢
  have hl : lv_has ls 2 [(0, .ref (kad g 5)), (1, .int a1)] := hl
  refine lv_aload_n hx hb d_Par_beginConstant_0 rfl (lv_at hl 0 rfl) ?_
  refine lv_aload_n hx hb d_Par_beginConstant_1 rfl (lv_at hl 0 rfl) ?_
  refine lv_iload_n hx hb d_Par_beginConstant_2 rfl (lv_at hl 1 rfl) ?_
  refine kg_cI (As := [.int a1]) (rest := [.ref (kad g 5)]) h (k_Par_takeNewName (l := l) (g := g) (α := α) hfl N a1) S hlocks hno E hI kw_Par_181 ⟨Nat.le_of_ble_eq_true rfl, Nat.le_of_ble_eq_true rfl⟩ (kv_Par E hI.1) rfl hl.1 rfl (Nat.le_of_ble_eq_true rfl) d_Par_beginConstant_3 (fun v3 α1 ad H locs cells slots e2 h hRm hI => ?_)
  refine kp_Par_constant S E hI vt_333 d_Par_beginConstant_6 (fun H locs hI => ?_)
  refine lv_aload_n hx hb d_Par_beginConstant_9 rfl (lv_at hl 0 rfl) ?_
  refine lv_bipush (v := 21) hx hb d_Par_beginConstant_10 (by decide) ?_
  refine kg_cV (As := [.int 21]) (rest := []) h (k_Par_expect (l := l) (g := g) (α := (kSi α1 19 v3)) hfl N 21) S hlocks hno E hI kw_Par_184 ⟨Nat.le_of_ble_eq_true rfl, Nat.le_of_ble_eq_true rfl⟩ (kv_Par E hI.1) rfl hl.1 rfl (Nat.le_of_ble_eq_true rfl) d_Par_beginConstant_12 (fun α4 ad H locs cells slots e5 h hRm hI => ?_)
  refine lv_aload_n hx hb d_Par_beginConstant_15 rfl (lv_at hl 0 rfl) ?_
  refine lv_bipush (v := 12) hx hb d_Par_beginConstant_16 (by decide) ?_
  refine lv_iload_n hx hb d_Par_beginConstant_18 rfl (lv_at hl 1 rfl) ?_
  refine lv_iconst (v := 0) hx hb d_Par_beginConstant_19 (by decide) ?_
  refine kg_cV (As := [.int 12, .int a1, .int 0]) (rest := []) h (k_Par_await (l := l) (g := g) (α := α4) hfl N 12 a1 0) S hlocks hno E hI kw_Par_177 ⟨Nat.le_of_ble_eq_true rfl, Nat.le_of_ble_eq_true rfl⟩ (kv_Par E hI.1) rfl hl.1 rfl (Nat.le_of_ble_eq_true rfl) d_Par_beginConstant_20 (fun α6 ad H locs cells slots e7 h hRm hI => ?_)
  exact kc_vret hx hb hr hlocks E hI h d_Par_beginConstant_23
def f_Par_beginFamily (N : Nat)  (α : kS) : Option (kO × kS) := kBi (f_Par_takeNewName N 3 (kSi α 20 32)) fun v3 α1 => (if (f_Lex_kind (kSi α1 19 v3)) = 17 then (kBv (f_Par_hold N 8 0 0 (kSi α1 19 v3)) fun α9 => (some (some none, (kSi α9 13 3)))) else (kBv (f_Par_expect N 21 (kSi α1 19 v3)) fun α5 => (kBv (f_Par_await N 15 0 0 α5) fun α7 => (some (some none, α7)))))
set_option maxHeartbeats 4000000 in
set_option maxRecDepth 100000 in
theorem k_Par_beginFamily {l : Launch} {g : kG} {α : kS} (hfl : kFl l) (N : Nat)   : ∀ x, f_Par_beginFamily N α = some x → kC l g y_Par_beginFamily b_Par_beginFamily 1 none 33 968 [.ref (kad g 5)] α (kQr x) := by
  intro x h
  unfold f_Par_beginFamily at h
  refine kc_ofW (by decide) (fun A ad0 p e s m args below meth c S hr hlocks hno hadm hargs E hI => ?_)
  have hx := S.1
  have hb := S.2.1
  have hown := S.2.2.2.1
  have hT := S.2.2.2.2
  subst hargs
  have hl := lv_entry ([.ref (kad g 5)]) (n := 1) (Nat.le_of_ble_eq_true rfl)
  rw [lg_entry_eq]
  generalize (lg_sl ([.ref (kad g 5)]) ++ List.replicate (1 - (lg_sl ([.ref (kad g 5)])).length) Slot.unset).toArray = ls at hl ⊢
  have hl : lv_has ls 1 [(0, .ref (kad g 5))] := hl
  refine lv_aload_n hx hb d_Par_beginFamily_0 rfl (lv_at hl 0 rfl) ?_
  refine lv_bipush (v := 32) hx hb d_Par_beginFamily_1 (by decide) ?_
  refine kp_Par_task S E hI vt_417 d_Par_beginFamily_3 (fun H locs hI => ?_)
  refine lv_aload_n hx hb d_Par_beginFamily_6 rfl (lv_at hl 0 rfl) ?_
  refine lv_aload_n hx hb d_Par_beginFamily_7 rfl (lv_at hl 0 rfl) ?_
  refine lv_iconst (v := 3) hx hb d_Par_beginFamily_8 (by decide) ?_
  refine kg_cI (As := [.int 3]) (rest := [.ref (kad g 5)]) h (k_Par_takeNewName (l := l) (g := g) (α := (kSi α 20 32)) hfl N 3) S hlocks hno E hI kw_Par_181 ⟨Nat.le_of_ble_eq_true rfl, Nat.le_of_ble_eq_true rfl⟩ (kv_Par E hI.1) rfl hl.1 rfl (Nat.le_of_ble_eq_true rfl) d_Par_beginFamily_9 (fun v3 α1 ad H locs cells slots e2 h hRm hI => ?_)
  refine kp_Par_constant S E hI vt_333 d_Par_beginFamily_12 (fun H locs hI => ?_)
  refine lv_aload_n hx hb d_Par_beginFamily_15 rfl (lv_at hl 0 rfl) ?_
  refine kf_Par_lexer S E hI.1 vt_115 d_Par_beginFamily_16 ?_
  refine kg_p (As := []) (rest := []) (k_Lex_kind (l := l) (g := g) (α := (kSi α1 19 v3)) ) S E hI.1 kw_Par_160 ⟨Nat.le_of_ble_eq_true rfl, Nat.le_of_ble_eq_true rfl⟩ hI.room (kv_Lex E hI.1) rfl hl.1 rfl (Nat.le_of_ble_eq_true rfl) d_Par_beginFamily_19 rfl ?_
  refine lv_bipush (v := 17) hx hb d_Par_beginFamily_22 (by decide) ?_
  refine lv_icmp_ne (tgt := 43) hx hb d_Par_beginFamily_24 (by decide) (fun c4 => ?_) (fun c4 => ?_)
  · replace h := Eq.trans (if_neg c4).symm h
    refine lv_aload_n hx hb d_Par_beginFamily_43 rfl (lv_at hl 0 rfl) ?_
    refine lv_bipush (v := 21) hx hb d_Par_beginFamily_44 (by decide) ?_
    refine kg_cV (As := [.int 21]) (rest := []) h (k_Par_expect (l := l) (g := g) (α := (kSi α1 19 v3)) hfl N 21) S hlocks hno E hI kw_Par_184 ⟨Nat.le_of_ble_eq_true rfl, Nat.le_of_ble_eq_true rfl⟩ (kv_Par E hI.1) rfl hl.1 rfl (Nat.le_of_ble_eq_true rfl) d_Par_beginFamily_46 (fun α5 ad H locs cells slots e6 h hRm hI => ?_)
    refine lv_aload_n hx hb d_Par_beginFamily_49 rfl (lv_at hl 0 rfl) ?_
    refine lv_bipush (v := 15) hx hb d_Par_beginFamily_50 (by decide) ?_
    refine lv_iconst (v := 0) hx hb d_Par_beginFamily_52 (by decide) ?_
    refine lv_iconst (v := 0) hx hb d_Par_beginFamily_53 (by decide) ?_
    refine kg_cV (As := [.int 15, .int 0, .int 0]) (rest := []) h (k_Par_await (l := l) (g := g) (α := α5) hfl N 15 0 0) S hlocks hno E hI kw_Par_177 ⟨Nat.le_of_ble_eq_true rfl, Nat.le_of_ble_eq_true rfl⟩ (kv_Par E hI.1) rfl hl.1 rfl (Nat.le_of_ble_eq_true rfl) d_Par_beginFamily_54 (fun α7 ad H locs cells slots e8 h hRm hI => ?_)
    exact kc_vret hx hb hr hlocks E hI h d_Par_beginFamily_57
  · replace h := Eq.trans (if_pos c4).symm h
    refine lv_aload_n hx hb d_Par_beginFamily_27 rfl (lv_at hl 0 rfl) ?_
    refine lv_bipush (v := 8) hx hb d_Par_beginFamily_28 (by decide) ?_
    refine lv_iconst (v := 0) hx hb d_Par_beginFamily_30 (by decide) ?_
    refine lv_iconst (v := 0) hx hb d_Par_beginFamily_31 (by decide) ?_
    refine kg_cV (As := [.int 8, .int 0, .int 0]) (rest := []) h (k_Par_hold (l := l) (g := g) (α := (kSi α1 19 v3)) hfl N 8 0 0) S hlocks hno E hI kw_Par_187 ⟨Nat.le_of_ble_eq_true rfl, Nat.le_of_ble_eq_true rfl⟩ (kv_Par E hI.1) rfl hl.1 rfl (Nat.le_of_ble_eq_true rfl) d_Par_beginFamily_32 (fun α9 ad H locs cells slots e10 h hRm hI => ?_)
    refine lv_aload_n hx hb d_Par_beginFamily_35 rfl (lv_at hl 0 rfl) ?_
    refine lv_iconst (v := 3) hx hb d_Par_beginFamily_36 (by decide) ?_
    refine kp_Par_state S E hI vt_340 d_Par_beginFamily_37 (fun H locs hI => ?_)
    refine lv_goto (tgt := 57) hx hb d_Par_beginFamily_40 (by decide) ?_
    exact kc_vret hx hb hr hlocks E hI h d_Par_beginFamily_57
theorem kw_Par_171 : kWv "FamilyKernel$Parser" 171 "FamilyKernel$Parser" y_Par_beginConstant b_Par_beginConstant 2 none 1 := ⟨vt_418, vt_419, vt_420, vt_40, vt_421, by decide, by decide, by decide +kernel⟩
theorem kw_Par_174 : kWv "FamilyKernel$Parser" 174 "FamilyKernel$Parser" y_Par_beginFamily b_Par_beginFamily 1 none 0 := ⟨vt_422, vt_423, vt_424, vt_40, vt_425, by decide, by decide, by decide +kernel⟩
def f_Par_begin_j23 (N : Nat)  (y1 : Int32) (γ : kS) : Option (kO × kS) := if y1 = 4 then (kBv (f_Par_beginConstant N 0 (kSi (f_Lex_advance γ) 20 28)) fun α5 => (some (some none, α5))) else (if y1 = 5 then (kBv (f_Par_beginConstant N 1 (kSi (f_Lex_advance γ) 20 28)) fun α8 => (some (some none, α8))) else (if y1 = 6 then (kBv (f_Par_beginConstant N 2 (kSi (f_Lex_advance γ) 20 28)) fun α11 => (some (some none, α11))) else (if y1 = 7 then (kBv (f_Par_beginFamily N (kSi (f_Lex_advance γ) 20 28)) fun α14 => (some (some none, α14))) else (if y1 = 8 then (kBv (f_Par_await N 14 0 0 (kSi (f_Lex_advance γ) 20 28)) fun α17 => (some (some none, α17))) else (kBv (f_Par_await N 13 0 0 (kSi (kSi (f_Lex_advance γ) 20 28) 20 30)) fun α19 => (some (some none, α19)))))))
def f_Par_begin_j19 (N : Nat)  (y1 : Int32) (γ : kS) : Option (kO × kS) := kBv (f_Par_refuse N γ) fun α2 => (f_Par_begin_j23 N y1 α2)
def f_Par_begin (N : Nat)  (α : kS) : Option (kO × kS) := if (f_Lex_kind α) < 4 then (f_Par_begin_j19 N (f_Lex_kind α) α) else (if (f_Lex_kind α) ≤ 9 then (f_Par_begin_j23 N (f_Lex_kind α) α) else (f_Par_begin_j19 N (f_Lex_kind α) α))
set_option maxHeartbeats 4000000 in
set_option maxRecDepth 100000 in
theorem k_Par_begin {l : Launch} {g : kG} {α : kS} (hfl : kFl l) (N : Nat)   : ∀ x, f_Par_begin N α = some x → kC l g y_Par_begin b_Par_begin 2 none 34 989 [.ref (kad g 5)] α (kQr x) := by
  intro x h
  unfold f_Par_begin at h
  refine kc_ofW (by decide) (fun A ad0 p e s m args below meth c S hr hlocks hno hadm hargs E hI => ?_)
  have hx := S.1
  have hb := S.2.1
  have hown := S.2.2.2.1
  have hT := S.2.2.2.2
  subst hargs
  have hl := lv_entry ([.ref (kad g 5)]) (n := 2) (Nat.le_of_ble_eq_true rfl)
  rw [lg_entry_eq]
  generalize (lg_sl ([.ref (kad g 5)]) ++ List.replicate (2 - (lg_sl ([.ref (kad g 5)])).length) Slot.unset).toArray = ls at hl ⊢
  have hl : lv_has ls 2 [(0, .ref (kad g 5))] := hl
  have J23 : ∀ (y1 : Int32) (γ : kS) (ad : Nat → Nat) (H : Heap) (locs : List Loc) (cells slots : Nat) (ls : Array Slot), f_Par_begin_j23 N y1 γ = some x → kI g A s α ad0 γ ad H locs cells slots → lv_has ls 2 [(1, .int y1), (0, .ref (kad g 5))] → W p l e (kR 34 989 α) s m ([.ref (kad g 5)]).toArray below meth c H locs cells slots (vEQ below (kQ g A α ad0 (kQr x)) ([.ref (kad g 5)]).toArray s A) (F0 m 23 ls []) := by
    intro y1 γ ad H locs cells slots ls h hI hl
    unfold f_Par_begin_j23 at h
    refine lv_aload_n hx hb d_Par_begin_23 rfl (lv_at hl 1 rfl) ?_
    refine kf_Par_lexer S E hI.1 vt_115 d_Par_begin_24 ?_
    refine kg_tV (As := []) (rest := []) (k_Lex_advance (l := l) (g := g) (α := γ) ) S hlocks hno E hI kw_Par_168 ⟨Nat.le_of_ble_eq_true rfl, Nat.le_of_ble_eq_true rfl⟩ (kv_Lex E hI.1) rfl hl.1 rfl (Nat.le_of_ble_eq_true rfl) d_Par_begin_27 (fun ad H locs cells slots hRm hI => ?_)
    refine lv_aload_n hx hb d_Par_begin_30 rfl (lv_at hl 1 rfl) ?_
    refine lv_bipush (v := 28) hx hb d_Par_begin_31 (by decide) ?_
    refine kp_Par_task S E hI vt_417 d_Par_begin_33 (fun H locs hI => ?_)
    refine lv_iload_n hx hb d_Par_begin_36 rfl (lv_at hl 0 rfl) ?_
    by_cases c4 : y1 = 4
    · replace h := Eq.trans (if_pos c4).symm h
      refine lv_tableIn (off := 35) (tgt := 72) hx hb d_Par_begin_37 (by rw [c4]; decide) (by rw [c4]; decide) (by rw [c4]; rfl) (by decide) ?_
      refine lv_aload_n hx hb d_Par_begin_72 rfl (lv_at hl 1 rfl) ?_
      refine lv_iconst (v := 0) hx hb d_Par_begin_73 (by decide) ?_
      refine kg_cV (As := [.int 0]) (rest := []) h (k_Par_beginConstant (l := l) (g := g) (α := (kSi (f_Lex_advance γ) 20 28)) hfl N 0) S hlocks hno E hI kw_Par_171 ⟨Nat.le_of_ble_eq_true rfl, Nat.le_of_ble_eq_true rfl⟩ (kv_Par E hI.1) rfl hl.1 rfl (Nat.le_of_ble_eq_true rfl) d_Par_begin_74 (fun α5 ad H locs cells slots e6 h hRm hI => ?_)
      refine lv_goto (tgt := 128) hx hb d_Par_begin_77 (by decide) ?_
      exact kc_vret hx hb hr hlocks E hI h d_Par_begin_128
    · replace h := Eq.trans (if_neg c4).symm h
      have nc4 := ksw (z := 4) rfl c4
      by_cases c7 : y1 = 5
      · replace h := Eq.trans (if_pos c7).symm h
        refine lv_tableIn (off := 43) (tgt := 80) hx hb d_Par_begin_37 (by rw [c7]; decide) (by rw [c7]; decide) (by rw [c7]; rfl) (by decide) ?_
        refine lv_aload_n hx hb d_Par_begin_80 rfl (lv_at hl 1 rfl) ?_
        refine lv_iconst (v := 1) hx hb d_Par_begin_81 (by decide) ?_
        refine kg_cV (As := [.int 1]) (rest := []) h (k_Par_beginConstant (l := l) (g := g) (α := (kSi (f_Lex_advance γ) 20 28)) hfl N 1) S hlocks hno E hI kw_Par_171 ⟨Nat.le_of_ble_eq_true rfl, Nat.le_of_ble_eq_true rfl⟩ (kv_Par E hI.1) rfl hl.1 rfl (Nat.le_of_ble_eq_true rfl) d_Par_begin_82 (fun α8 ad H locs cells slots e9 h hRm hI => ?_)
        refine lv_goto (tgt := 128) hx hb d_Par_begin_85 (by decide) ?_
        exact kc_vret hx hb hr hlocks E hI h d_Par_begin_128
      · replace h := Eq.trans (if_neg c7).symm h
        have nc7 := ksw (z := 5) rfl c7
        by_cases c10 : y1 = 6
        · replace h := Eq.trans (if_pos c10).symm h
          refine lv_tableIn (off := 51) (tgt := 88) hx hb d_Par_begin_37 (by rw [c10]; decide) (by rw [c10]; decide) (by rw [c10]; rfl) (by decide) ?_
          refine lv_aload_n hx hb d_Par_begin_88 rfl (lv_at hl 1 rfl) ?_
          refine lv_iconst (v := 2) hx hb d_Par_begin_89 (by decide) ?_
          refine kg_cV (As := [.int 2]) (rest := []) h (k_Par_beginConstant (l := l) (g := g) (α := (kSi (f_Lex_advance γ) 20 28)) hfl N 2) S hlocks hno E hI kw_Par_171 ⟨Nat.le_of_ble_eq_true rfl, Nat.le_of_ble_eq_true rfl⟩ (kv_Par E hI.1) rfl hl.1 rfl (Nat.le_of_ble_eq_true rfl) d_Par_begin_90 (fun α11 ad H locs cells slots e12 h hRm hI => ?_)
          refine lv_goto (tgt := 128) hx hb d_Par_begin_93 (by decide) ?_
          exact kc_vret hx hb hr hlocks E hI h d_Par_begin_128
        · replace h := Eq.trans (if_neg c10).symm h
          have nc10 := ksw (z := 6) rfl c10
          by_cases c13 : y1 = 7
          · replace h := Eq.trans (if_pos c13).symm h
            refine lv_tableIn (off := 59) (tgt := 96) hx hb d_Par_begin_37 (by rw [c13]; decide) (by rw [c13]; decide) (by rw [c13]; rfl) (by decide) ?_
            refine lv_aload_n hx hb d_Par_begin_96 rfl (lv_at hl 1 rfl) ?_
            refine kg_cV (As := []) (rest := []) h (k_Par_beginFamily (l := l) (g := g) (α := (kSi (f_Lex_advance γ) 20 28)) hfl N) S hlocks hno E hI kw_Par_174 ⟨Nat.le_of_ble_eq_true rfl, Nat.le_of_ble_eq_true rfl⟩ (kv_Par E hI.1) rfl hl.1 rfl (Nat.le_of_ble_eq_true rfl) d_Par_begin_97 (fun α14 ad H locs cells slots e15 h hRm hI => ?_)
            refine lv_goto (tgt := 128) hx hb d_Par_begin_100 (by decide) ?_
            exact kc_vret hx hb hr hlocks E hI h d_Par_begin_128
          · replace h := Eq.trans (if_neg c13).symm h
            have nc13 := ksw (z := 7) rfl c13
            by_cases c16 : y1 = 8
            · replace h := Eq.trans (if_pos c16).symm h
              refine lv_tableIn (off := 66) (tgt := 103) hx hb d_Par_begin_37 (by rw [c16]; decide) (by rw [c16]; decide) (by rw [c16]; rfl) (by decide) ?_
              refine lv_aload_n hx hb d_Par_begin_103 rfl (lv_at hl 1 rfl) ?_
              refine lv_bipush (v := 14) hx hb d_Par_begin_104 (by decide) ?_
              refine lv_iconst (v := 0) hx hb d_Par_begin_106 (by decide) ?_
              refine lv_iconst (v := 0) hx hb d_Par_begin_107 (by decide) ?_
              refine kg_cV (As := [.int 14, .int 0, .int 0]) (rest := []) h (k_Par_await (l := l) (g := g) (α := (kSi (f_Lex_advance γ) 20 28)) hfl N 14 0 0) S hlocks hno E hI kw_Par_177 ⟨Nat.le_of_ble_eq_true rfl, Nat.le_of_ble_eq_true rfl⟩ (kv_Par E hI.1) rfl hl.1 rfl (Nat.le_of_ble_eq_true rfl) d_Par_begin_108 (fun α17 ad H locs cells slots e18 h hRm hI => ?_)
              refine lv_goto (tgt := 128) hx hb d_Par_begin_111 (by decide) ?_
              exact kc_vret hx hb hr hlocks E hI h d_Par_begin_128
            · replace h := Eq.trans (if_neg c16).symm h
              have nc16 := ksw (z := 8) rfl c16
              refine lv_tableOut (tgt := 114) hx hb d_Par_begin_37 (by omega) (by decide) ?_
              refine lv_aload_n hx hb d_Par_begin_114 rfl (lv_at hl 1 rfl) ?_
              refine lv_bipush (v := 30) hx hb d_Par_begin_115 (by decide) ?_
              refine kp_Par_task S E hI vt_417 d_Par_begin_117 (fun H locs hI => ?_)
              refine lv_aload_n hx hb d_Par_begin_120 rfl (lv_at hl 1 rfl) ?_
              refine lv_bipush (v := 13) hx hb d_Par_begin_121 (by decide) ?_
              refine lv_iconst (v := 0) hx hb d_Par_begin_123 (by decide) ?_
              refine lv_iconst (v := 0) hx hb d_Par_begin_124 (by decide) ?_
              refine kg_cV (As := [.int 13, .int 0, .int 0]) (rest := []) h (k_Par_await (l := l) (g := g) (α := (kSi (kSi (f_Lex_advance γ) 20 28) 20 30)) hfl N 13 0 0) S hlocks hno E hI kw_Par_177 ⟨Nat.le_of_ble_eq_true rfl, Nat.le_of_ble_eq_true rfl⟩ (kv_Par E hI.1) rfl hl.1 rfl (Nat.le_of_ble_eq_true rfl) d_Par_begin_125 (fun α19 ad H locs cells slots e20 h hRm hI => ?_)
              exact kc_vret hx hb hr hlocks E hI h d_Par_begin_128
  have J19 : ∀ (y1 : Int32) (γ : kS) (ad : Nat → Nat) (H : Heap) (locs : List Loc) (cells slots : Nat) (ls : Array Slot), f_Par_begin_j19 N y1 γ = some x → kI g A s α ad0 γ ad H locs cells slots → lv_has ls 2 [(1, .int y1), (0, .ref (kad g 5))] → W p l e (kR 34 989 α) s m ([.ref (kad g 5)]).toArray below meth c H locs cells slots (vEQ below (kQ g A α ad0 (kQr x)) ([.ref (kad g 5)]).toArray s A) (F0 m 19 ls []) := by
    intro y1 γ ad H locs cells slots ls h hI hl
    unfold f_Par_begin_j19 at h
    refine lv_aload_n hx hb d_Par_begin_19 rfl (lv_at hl 1 rfl) ?_
    refine kg_cV (As := []) (rest := []) h (k_Par_refuse (l := l) (g := g) (α := γ) hfl N) S hlocks hno E hI kw_Par_165 ⟨Nat.le_of_ble_eq_true rfl, Nat.le_of_ble_eq_true rfl⟩ (kv_Par E hI.1) rfl hl.1 rfl (Nat.le_of_ble_eq_true rfl) d_Par_begin_20 (fun α2 ad H locs cells slots e3 h hRm hI => ?_)
    exact J23 y1 _ _ _ _ _ _ _ h hI (lv_sub hl [0, 1] rfl)
  refine lv_aload_n hx hb d_Par_begin_0 rfl (lv_at hl 0 rfl) ?_
  refine kf_Par_lexer S E hI.1 vt_115 d_Par_begin_1 ?_
  refine kg_p (As := []) (rest := []) (k_Lex_kind (l := l) (g := g) (α := α) ) S E hI.1 kw_Par_160 ⟨Nat.le_of_ble_eq_true rfl, Nat.le_of_ble_eq_true rfl⟩ hI.room (kv_Lex E hI.1) rfl hl.1 rfl (Nat.le_of_ble_eq_true rfl) d_Par_begin_4 rfl ?_
  refine lv_istore_n (lv' := [(1, .int (f_Lex_kind α)), (0, .ref (kad g 5))]) hx hb d_Par_begin_7 rfl hl (by decide) rfl (fun ls hl => ?_)
  refine lv_iload_n hx hb d_Par_begin_8 rfl (lv_at hl 0 rfl) ?_
  refine lv_iconst (v := 4) hx hb d_Par_begin_9 (by decide) ?_
  refine lv_icmp_lt (tgt := 19) hx hb d_Par_begin_10 (by decide) (fun c1 => ?_) (fun c1 => ?_)
  · replace h := Eq.trans (if_pos c1).symm h
    exact J19 (f_Lex_kind α) _ _ _ _ _ _ _ h hI (lv_sub hl [0, 1] rfl)
  · replace h := Eq.trans (if_neg c1).symm h
    refine lv_iload_n hx hb d_Par_begin_13 rfl (lv_at hl 0 rfl) ?_
    refine lv_bipush (v := 9) hx hb d_Par_begin_14 (by decide) ?_
    refine lv_icmp_le (tgt := 23) hx hb d_Par_begin_16 (by decide) (fun c21 => ?_) (fun c21 => ?_)
    · replace h := Eq.trans (if_pos c21).symm h
      exact J23 (f_Lex_kind α) _ _ _ _ _ _ _ h hI (lv_sub hl [0, 1] rfl)
    · replace h := Eq.trans (if_neg c21).symm h
      exact J19 (f_Lex_kind α) _ _ _ _ _ _ _ h hI (lv_sub hl [0, 1] rfl)
def f_Par_nest (N : Nat) (a1 : Int32) (a2 : Int32) (a3 : Int32) (α : kS) : Option (kO × kS) := kBv (f_Par_await N a1 a2 a3 α) fun α1 => (some (some none, (kSi α1 14 ((α1.1 14) + 1))))
set_option maxHeartbeats 4000000 in
set_option maxRecDepth 100000 in
theorem k_Par_nest {l : Launch} {g : kG} {α : kS} (hfl : kFl l) (N : Nat) (a1 : Int32) (a2 : Int32) (a3 : Int32)  : ∀ x, f_Par_nest N a1 a2 a3 α = some x → kC l g y_Par_nest b_Par_nest 4 none 33 967 [.ref (kad g 5), .int a1, .int a2, .int a3] α (kQr x) := by
  intro x h
  unfold f_Par_nest at h
  refine kc_ofW (by decide) (fun A ad0 p e s m args below meth c S hr hlocks hno hadm hargs E hI => ?_)
  have hx := S.1
  have hb := S.2.1
  have hown := S.2.2.2.1
  have hT := S.2.2.2.2
  subst hargs
  have hl := lv_entry ([.ref (kad g 5), .int a1, .int a2, .int a3]) (n := 4) (Nat.le_of_ble_eq_true rfl)
  rw [lg_entry_eq]
  generalize (lg_sl ([.ref (kad g 5), .int a1, .int a2, .int a3]) ++ List.replicate (4 - (lg_sl ([.ref (kad g 5), .int a1, .int a2, .int a3])).length) Slot.unset).toArray = ls at hl ⊢
  have hl : lv_has ls 4 [(0, .ref (kad g 5)), (1, .int a1), (2, .int a2), (3, .int a3)] := hl
  refine lv_aload_n hx hb d_Par_nest_0 rfl (lv_at hl 0 rfl) ?_
  refine lv_iload_n hx hb d_Par_nest_1 rfl (lv_at hl 1 rfl) ?_
  refine lv_iload_n hx hb d_Par_nest_2 rfl (lv_at hl 2 rfl) ?_
  refine lv_iload_n hx hb d_Par_nest_3 rfl (lv_at hl 3 rfl) ?_
  refine kg_cV (As := [.int a1, .int a2, .int a3]) (rest := []) h (k_Par_await (l := l) (g := g) (α := α) hfl N a1 a2 a3) S hlocks hno E hI kw_Par_177 ⟨Nat.le_of_ble_eq_true rfl, Nat.le_of_ble_eq_true rfl⟩ (kv_Par E hI.1) rfl hl.1 rfl (Nat.le_of_ble_eq_true rfl) d_Par_nest_4 (fun α1 ad H locs cells slots e2 h hRm hI => ?_)
  refine lv_aload_n hx hb d_Par_nest_7 rfl (lv_at hl 0 rfl) ?_
  refine lv_dup hx hb d_Par_nest_8 rfl ?_
  refine kf_Par_nest S E hI.1 vt_328 d_Par_nest_9 ?_
  refine lv_iconst (v := 1) hx hb d_Par_nest_12 (by decide) ?_
  refine lv_iadd hx hb d_Par_nest_13 ?_
  refine kp_Par_nest S E hI vt_328 d_Par_nest_14 (fun H locs hI => ?_)
  exact kc_vret hx hb hr hlocks E hI h d_Par_nest_17
theorem kw_Par_216 : kWv "FamilyKernel$Parser" 216 "FamilyKernel$Lexer" y_Lex_word b_Lex_word 1 (some .int) 0 := ⟨vt_497, vt_498, vt_499, vt_33, vt_500, by decide, by decide, by decide +kernel⟩
theorem kw_Par_219 : kWv "FamilyKernel$Parser" 219 "FamilyKernel$Parser" y_Par_nest b_Par_nest 4 none 3 := ⟨vt_501, vt_502, vt_503, vt_40, vt_504, by decide, by decide, by decide +kernel⟩
def f_Par_startTerm_j77 (N : Nat)  (t0 : Int32) (t1 : Int32) (γ : kS) : Option (kO × kS) := kBv (f_Par_hold N t1 t0 0 γ) fun α4 => (some (some none, (kSi α4 13 3)))
def f_Par_startTerm_j54 (N : Nat)  (y1 : Int32) (γ : kS) : Option (kO × kS) := if y1 = 10 then (f_Par_startTerm_j77 N 7 8 (f_Lex_advance γ)) else (f_Par_startTerm_j77 N 6 8 (f_Lex_advance γ))
def f_Par_startTerm_j24 (N : Nat)  (γ : kS) : Option (kO × kS) := if (f_Lex_kind γ) = 10 then (f_Par_startTerm_j54 N (f_Lex_kind γ) (kSi (kSi γ 15 (-1)) 13 2)) else (if (f_Lex_kind γ) = 11 then (f_Par_startTerm_j54 N (f_Lex_kind γ) (kSi (kSi γ 15 (-1)) 13 2)) else (if (f_Lex_kind γ) = 12 then (kBv (f_Par_expect N 2 (f_Lex_advance (kSi (kSi γ 15 (-1)) 13 2))) fun α8 => (kBv (f_Par_expect N 21 α8) fun α10 => (kBv (f_Par_nest N 9 (f_Lex_word (f_Lex_advance (kSi (kSi γ 15 (-1)) 13 2))) 0 α10) fun α12 => (some (some none, α12))))) else (some (some none, (kSi (kSi γ 15 (-1)) 13 2)))))
def f_Par_startTerm (N : Nat)  (α : kS) : Option (kO × kS) := if (α.1 14) ≤ 100 then (f_Par_startTerm_j24 N  α) else (kBv (f_Meter_failAt N 3 (f_Lex_start α) α) fun α14 => (f_Par_startTerm_j24 N  α14))
set_option maxHeartbeats 4000000 in
set_option maxRecDepth 100000 in
theorem k_Par_startTerm {l : Launch} {g : kG} {α : kS} (hfl : kFl l) (N : Nat)   : ∀ x, f_Par_startTerm N α = some x → kC l g y_Par_startTerm b_Par_startTerm 3 none 34 990 [.ref (kad g 5)] α (kQr x) := by
  intro x h
  unfold f_Par_startTerm at h
  refine kc_ofW (by decide) (fun A ad0 p e s m args below meth c S hr hlocks hno hadm hargs E hI => ?_)
  have hx := S.1
  have hb := S.2.1
  have hown := S.2.2.2.1
  have hT := S.2.2.2.2
  subst hargs
  have hl := lv_entry ([.ref (kad g 5)]) (n := 3) (Nat.le_of_ble_eq_true rfl)
  rw [lg_entry_eq]
  generalize (lg_sl ([.ref (kad g 5)]) ++ List.replicate (3 - (lg_sl ([.ref (kad g 5)])).length) Slot.unset).toArray = ls at hl ⊢
  have hl : lv_has ls 3 [(0, .ref (kad g 5))] := hl
  have J77 : ∀ (t0 : Int32) (t1 : Int32) (γ : kS) (ad : Nat → Nat) (H : Heap) (locs : List Loc) (cells slots : Nat) (ls : Array Slot), f_Par_startTerm_j77 N t0 t1 γ = some x → kI g A s α ad0 γ ad H locs cells slots → lv_has ls 3 [(0, .ref (kad g 5))] → W p l e (kR 34 990 α) s m ([.ref (kad g 5)]).toArray below meth c H locs cells slots (vEQ below (kQ g A α ad0 (kQr x)) ([.ref (kad g 5)]).toArray s A) (F0 m 77 ls [.int t0, .int t1, .ref (kad g 5)]) := by
    intro t0 t1 γ ad H locs cells slots ls h hI hl
    unfold f_Par_startTerm_j77 at h
    refine lv_iconst (v := 0) hx hb d_Par_startTerm_77 (by decide) ?_
    refine kg_cV (As := [.int t1, .int t0, .int 0]) (rest := []) h (k_Par_hold (l := l) (g := g) (α := γ) hfl N t1 t0 0) S hlocks hno E hI kw_Par_187 ⟨Nat.le_of_ble_eq_true rfl, Nat.le_of_ble_eq_true rfl⟩ (kv_Par E hI.1) rfl hl.1 rfl (Nat.le_of_ble_eq_true rfl) d_Par_startTerm_78 (fun α4 ad H locs cells slots e5 h hRm hI => ?_)
    refine lv_aload_n hx hb d_Par_startTerm_81 rfl (lv_at hl 0 rfl) ?_
    refine lv_iconst (v := 3) hx hb d_Par_startTerm_82 (by decide) ?_
    refine kp_Par_state S E hI vt_340 d_Par_startTerm_83 (fun H locs hI => ?_)
    refine lv_goto (tgt := 129) hx hb d_Par_startTerm_86 (by decide) ?_
    exact kc_vret hx hb hr hlocks E hI h d_Par_startTerm_129
  have J54 : ∀ (y1 : Int32) (γ : kS) (ad : Nat → Nat) (H : Heap) (locs : List Loc) (cells slots : Nat) (ls : Array Slot), f_Par_startTerm_j54 N y1 γ = some x → kI g A s α ad0 γ ad H locs cells slots → lv_has ls 3 [(1, .int y1), (0, .ref (kad g 5))] → W p l e (kR 34 990 α) s m ([.ref (kad g 5)]).toArray below meth c H locs cells slots (vEQ below (kQ g A α ad0 (kQr x)) ([.ref (kad g 5)]).toArray s A) (F0 m 54 ls []) := by
    intro y1 γ ad H locs cells slots ls h hI hl
    unfold f_Par_startTerm_j54 at h
    refine lv_aload_n hx hb d_Par_startTerm_54 rfl (lv_at hl 1 rfl) ?_
    refine kf_Par_lexer S E hI.1 vt_115 d_Par_startTerm_55 ?_
    refine kg_tV (As := []) (rest := []) (k_Lex_advance (l := l) (g := g) (α := γ) ) S hlocks hno E hI kw_Par_168 ⟨Nat.le_of_ble_eq_true rfl, Nat.le_of_ble_eq_true rfl⟩ (kv_Lex E hI.1) rfl hl.1 rfl (Nat.le_of_ble_eq_true rfl) d_Par_startTerm_58 (fun ad H locs cells slots hRm hI => ?_)
    refine lv_aload_n hx hb d_Par_startTerm_61 rfl (lv_at hl 1 rfl) ?_
    refine lv_bipush (v := 8) hx hb d_Par_startTerm_62 (by decide) ?_
    refine lv_iload_n hx hb d_Par_startTerm_64 rfl (lv_at hl 0 rfl) ?_
    refine lv_bipush (v := 10) hx hb d_Par_startTerm_65 (by decide) ?_
    refine lv_icmp_ne (tgt := 75) hx hb d_Par_startTerm_67 (by decide) (fun c3 => ?_) (fun c3 => ?_)
    · replace h := Eq.trans (if_neg c3).symm h
      refine lv_bipush (v := 6) hx hb d_Par_startTerm_75 (by decide) ?_
      exact J77 6 8 _ _ _ _ _ _ _ h hI (lv_sub hl [1] rfl)
    · replace h := Eq.trans (if_pos c3).symm h
      refine lv_bipush (v := 7) hx hb d_Par_startTerm_70 (by decide) ?_
      refine lv_goto (tgt := 77) hx hb d_Par_startTerm_72 (by decide) ?_
      exact J77 7 8 _ _ _ _ _ _ _ h hI (lv_sub hl [1] rfl)
  have J24 : ∀ (γ : kS) (ad : Nat → Nat) (H : Heap) (locs : List Loc) (cells slots : Nat) (ls : Array Slot), f_Par_startTerm_j24 N γ = some x → kI g A s α ad0 γ ad H locs cells slots → lv_has ls 3 [(0, .ref (kad g 5))] → W p l e (kR 34 990 α) s m ([.ref (kad g 5)]).toArray below meth c H locs cells slots (vEQ below (kQ g A α ad0 (kQr x)) ([.ref (kad g 5)]).toArray s A) (F0 m 24 ls []) := by
    intro  γ ad H locs cells slots ls h hI hl
    unfold f_Par_startTerm_j24 at h
    refine lv_aload_n hx hb d_Par_startTerm_24 rfl (lv_at hl 0 rfl) ?_
    refine kf_Par_lexer S E hI.1 vt_115 d_Par_startTerm_25 ?_
    refine kg_p (As := []) (rest := []) (k_Lex_kind (l := l) (g := g) (α := γ) ) S E hI.1 kw_Par_160 ⟨Nat.le_of_ble_eq_true rfl, Nat.le_of_ble_eq_true rfl⟩ hI.room (kv_Lex E hI.1) rfl hl.1 rfl (Nat.le_of_ble_eq_true rfl) d_Par_startTerm_28 rfl ?_
    refine lv_istore_n (lv' := [(1, .int (f_Lex_kind γ)), (0, .ref (kad g 5))]) hx hb d_Par_startTerm_31 rfl hl (by decide) rfl (fun ls hl => ?_)
    refine lv_aload_n hx hb d_Par_startTerm_32 rfl (lv_at hl 1 rfl) ?_
    refine lv_iconst (v := (-1)) hx hb d_Par_startTerm_33 (by decide) ?_
    refine kp_Par_current S E hI vt_496 d_Par_startTerm_34 (fun H locs hI => ?_)
    refine lv_aload_n hx hb d_Par_startTerm_37 rfl (lv_at hl 1 rfl) ?_
    refine lv_iconst (v := 2) hx hb d_Par_startTerm_38 (by decide) ?_
    refine kp_Par_state S E hI vt_340 d_Par_startTerm_39 (fun H locs hI => ?_)
    refine lv_iload_n hx hb d_Par_startTerm_42 rfl (lv_at hl 0 rfl) ?_
    refine lv_bipush (v := 10) hx hb d_Par_startTerm_43 (by decide) ?_
    refine lv_icmp_eq (tgt := 54) hx hb d_Par_startTerm_45 (by decide) (fun c2 => ?_) (fun c2 => ?_)
    · replace h := Eq.trans (if_pos c2).symm h
      exact J54 (f_Lex_kind γ) _ _ _ _ _ _ _ h hI (lv_sub hl [0, 1] rfl)
    · replace h := Eq.trans (if_neg c2).symm h
      refine lv_iload_n hx hb d_Par_startTerm_48 rfl (lv_at hl 0 rfl) ?_
      refine lv_bipush (v := 11) hx hb d_Par_startTerm_49 (by decide) ?_
      refine lv_icmp_ne (tgt := 89) hx hb d_Par_startTerm_51 (by decide) (fun c6 => ?_) (fun c6 => ?_)
      · replace h := Eq.trans (if_neg c6).symm h
        refine lv_iload_n hx hb d_Par_startTerm_89 rfl (lv_at hl 0 rfl) ?_
        refine lv_bipush (v := 12) hx hb d_Par_startTerm_90 (by decide) ?_
        refine lv_icmp_ne (tgt := 129) hx hb d_Par_startTerm_92 (by decide) (fun c7 => ?_) (fun c7 => ?_)
        · replace h := Eq.trans (if_neg c7).symm h
          exact kc_vret hx hb hr hlocks E hI h d_Par_startTerm_129
        · replace h := Eq.trans (if_pos c7).symm h
          refine lv_aload_n hx hb d_Par_startTerm_95 rfl (lv_at hl 1 rfl) ?_
          refine kf_Par_lexer S E hI.1 vt_115 d_Par_startTerm_96 ?_
          refine kg_tV (As := []) (rest := []) (k_Lex_advance (l := l) (g := g) (α := (kSi (kSi γ 15 (-1)) 13 2)) ) S hlocks hno E hI kw_Par_168 ⟨Nat.le_of_ble_eq_true rfl, Nat.le_of_ble_eq_true rfl⟩ (kv_Lex E hI.1) rfl hl.1 rfl (Nat.le_of_ble_eq_true rfl) d_Par_startTerm_99 (fun ad H locs cells slots hRm hI => ?_)
          refine lv_aload_n hx hb d_Par_startTerm_102 rfl (lv_at hl 1 rfl) ?_
          refine kf_Par_lexer S E hI.1 vt_115 d_Par_startTerm_103 ?_
          refine kg_p (As := []) (rest := []) (k_Lex_word (l := l) (g := g) (α := (f_Lex_advance (kSi (kSi γ 15 (-1)) 13 2))) ) S E hI.1 kw_Par_216 ⟨Nat.le_of_ble_eq_true rfl, Nat.le_of_ble_eq_true rfl⟩ hI.room (kv_Lex E hI.1) rfl hl.1 rfl (Nat.le_of_ble_eq_true rfl) d_Par_startTerm_106 rfl ?_
          refine lv_istore_n (lv' := [(2, .int (f_Lex_word (f_Lex_advance (kSi (kSi γ 15 (-1)) 13 2)))), (1, .int (f_Lex_kind γ)), (0, .ref (kad g 5))]) hx hb d_Par_startTerm_109 rfl hl (by decide) rfl (fun ls hl => ?_)
          refine lv_aload_n hx hb d_Par_startTerm_110 rfl (lv_at hl 2 rfl) ?_
          refine lv_iconst (v := 2) hx hb d_Par_startTerm_111 (by decide) ?_
          refine kg_cV (As := [.int 2]) (rest := []) h (k_Par_expect (l := l) (g := g) (α := (f_Lex_advance (kSi (kSi γ 15 (-1)) 13 2))) hfl N 2) S hlocks hno E hI kw_Par_184 ⟨Nat.le_of_ble_eq_true rfl, Nat.le_of_ble_eq_true rfl⟩ (kv_Par E hI.1) rfl hl.1 rfl (Nat.le_of_ble_eq_true rfl) d_Par_startTerm_112 (fun α8 ad H locs cells slots e9 h hRm hI => ?_)
          refine lv_aload_n hx hb d_Par_startTerm_115 rfl (lv_at hl 2 rfl) ?_
          refine lv_bipush (v := 21) hx hb d_Par_startTerm_116 (by decide) ?_
          refine kg_cV (As := [.int 21]) (rest := []) h (k_Par_expect (l := l) (g := g) (α := α8) hfl N 21) S hlocks hno E hI kw_Par_184 ⟨Nat.le_of_ble_eq_true rfl, Nat.le_of_ble_eq_true rfl⟩ (kv_Par E hI.1) rfl hl.1 rfl (Nat.le_of_ble_eq_true rfl) d_Par_startTerm_118 (fun α10 ad H locs cells slots e11 h hRm hI => ?_)
          refine lv_aload_n hx hb d_Par_startTerm_121 rfl (lv_at hl 2 rfl) ?_
          refine lv_bipush (v := 9) hx hb d_Par_startTerm_122 (by decide) ?_
          refine lv_iload_n hx hb d_Par_startTerm_124 rfl (lv_at hl 0 rfl) ?_
          refine lv_iconst (v := 0) hx hb d_Par_startTerm_125 (by decide) ?_
          refine kg_cV (As := [.int 9, .int (f_Lex_word (f_Lex_advance (kSi (kSi γ 15 (-1)) 13 2))), .int 0]) (rest := []) h (k_Par_nest (l := l) (g := g) (α := α10) hfl N 9 (f_Lex_word (f_Lex_advance (kSi (kSi γ 15 (-1)) 13 2))) 0) S hlocks hno E hI kw_Par_219 ⟨Nat.le_of_ble_eq_true rfl, Nat.le_of_ble_eq_true rfl⟩ (kv_Par E hI.1) rfl hl.1 rfl (Nat.le_of_ble_eq_true rfl) d_Par_startTerm_126 (fun α12 ad H locs cells slots e13 h hRm hI => ?_)
          exact kc_vret hx hb hr hlocks E hI h d_Par_startTerm_129
      · replace h := Eq.trans (if_pos c6).symm h
        exact J54 (f_Lex_kind γ) _ _ _ _ _ _ _ h hI (lv_sub hl [0, 1] rfl)
  refine lv_aload_n hx hb d_Par_startTerm_0 rfl (lv_at hl 0 rfl) ?_
  refine kf_Par_nest S E hI.1 vt_328 d_Par_startTerm_1 ?_
  refine lv_bipush (v := 100) hx hb d_Par_startTerm_4 (by decide) ?_
  refine lv_icmp_le (tgt := 24) hx hb d_Par_startTerm_6 (by decide) (fun c1 => ?_) (fun c1 => ?_)
  · replace h := Eq.trans (if_pos c1).symm h
    exact J24  _ _ _ _ _ _ _ h hI (lv_sub hl [0] rfl)
  · replace h := Eq.trans (if_neg c1).symm h
    refine lv_aload_n hx hb d_Par_startTerm_9 rfl (lv_at hl 0 rfl) ?_
    refine kf_Par_meter S E hI.1 vt_116 d_Par_startTerm_10 ?_
    refine lv_iconst (v := 3) hx hb d_Par_startTerm_13 (by decide) ?_
    refine lv_aload_n hx hb d_Par_startTerm_14 rfl (lv_at hl 0 rfl) ?_
    refine kf_Par_lexer S E hI.1 vt_115 d_Par_startTerm_15 ?_
    refine kg_p (As := []) (rest := [.int 3, .ref (kad g 1)]) (k_Lex_start (l := l) (g := g) (α := α) ) S E hI.1 kw_Par_190 ⟨Nat.le_of_ble_eq_true rfl, Nat.le_of_ble_eq_true rfl⟩ hI.room (kv_Lex E hI.1) rfl hl.1 rfl (Nat.le_of_ble_eq_true rfl) d_Par_startTerm_18 rfl ?_
    refine kg_cV (As := [.int 3, .int (f_Lex_start α)]) (rest := []) h (k_Meter_failAt (l := l) (g := g) (α := α) hfl N 3 (f_Lex_start α)) S hlocks hno E hI kw_Par_193 ⟨Nat.le_of_ble_eq_true rfl, Nat.le_of_ble_eq_true rfl⟩ (kv_Meter E hI.1) rfl hl.1 rfl (Nat.le_of_ble_eq_true rfl) d_Par_startTerm_21 (fun α14 ad H locs cells slots e15 h hRm hI => ?_)
    exact J24  _ _ _ _ _ _ _ h hI (lv_sub hl [0] rfl)
theorem kw_Par_65 : kWv "FamilyKernel$Parser" 65 "FamilyKernel$Row" y_Row_size b_Row_size 1 (some .int) 0 := ⟨vt_533, vt_270, vt_271, vt_4, vt_272, by decide, by decide, by decide +kernel⟩
theorem kw_Par_69 : kWv "FamilyKernel$Parser" 69 "FamilyKernel$Row" y_Row_at b_Row_at 2 (some .int) 1 := ⟨vt_534, vt_266, vt_267, vt_4, vt_268, by decide, by decide, by decide +kernel⟩
theorem kw_Par_236 : kWv "FamilyKernel$Parser" 236 "FamilyKernel$Lexer" y_Lex_standsAt b_Lex_standsAt 5 (some .boolean) 2 := ⟨vt_535, vt_463, vt_464, vt_33, vt_465, by decide, by decide, by decide +kernel⟩
def f_Par_boundAt_10 (N : Nat)  (α : kS) : Nat → Int32 → Option Int32
  | 0, _ => none
  | n + 1, x1 => if x1 < 0 then (some x1) else (if (fR_at α 9 x1) = (-1) then (f_Par_boundAt_10 N α n (x1 + (-1))) else (((f_Lex_standsAt N 0 (fR_at α 9 x1) α)).bind fun v3 => (if v3 = 0 then (f_Par_boundAt_10 N α n (x1 + (-1))) else (some x1))))
def f_Par_boundAt (N : Nat)  (α : kS) : Option Int32 := f_Par_boundAt_10 N α N ((fR_size α 9) - 1)
set_option maxHeartbeats 4000000 in
set_option maxRecDepth 100000 in
theorem k_Par_boundAt {l : Launch} {g : kG} {α : kS} (N : Nat)   : ∀ x, f_Par_boundAt N α = some x → kV l g y_Par_boundAt b_Par_boundAt 2 (some .int) 12 345 [.ref (kad g 5)] α x := by
  intro x h
  unfold f_Par_boundAt at h
  refine kv_ofW (by decide) (fun A ad p e s m args below meth c S hr hlocks hargs E hJ => ?_)
  have hx := S.1
  have hb := S.2.1
  have hown := S.2.2.2.1
  have hT := S.2.2.2.2
  subst hargs
  have hl := lv_entry ([.ref (kad g 5)]) (n := 2) (Nat.le_of_ble_eq_true rfl)
  rw [lg_entry_eq]
  generalize (lg_sl ([.ref (kad g 5)]) ++ List.replicate (2 - (lg_sl ([.ref (kad g 5)])).length) Slot.unset).toArray = ls at hl ⊢
  have hl : lv_has ls 2 [(0, .ref (kad g 5))] := hl
  refine lv_aload_n hx hb d_Par_boundAt_0 rfl (lv_at hl 0 rfl) ?_
  refine kf_Par_scope S E hJ vt_123 d_Par_boundAt_1 ?_
  refine kg_p (As := []) (rest := []) (k_Row_size (l := l) (g := g) (α := α) (r := 9) (by decide)) S E hJ kw_Par_65 ⟨Nat.le_of_ble_eq_true rfl, Nat.le_of_ble_eq_true rfl⟩ ⟨Nat.le_refl _, Nat.le_refl _⟩ (kv_Row (r := 9) (by decide) E hJ) rfl hl.1 rfl (Nat.le_of_ble_eq_true rfl) d_Par_boundAt_4 rfl ?_
  refine lv_iconst (v := 1) hx hb d_Par_boundAt_7 (by decide) ?_
  refine lv_isub hx hb d_Par_boundAt_8 ?_
  refine lv_istore_n (lv' := [(1, .int ((fR_size α 9) - 1)), (0, .ref (kad g 5))]) hx hb d_Par_boundAt_9 rfl hl (by decide) rfl (fun ls hl => ?_)
  have L10 : ∀ (n10 : Nat) (x1 : Int32) (ls : Array Slot), f_Par_boundAt_10 N α n10 x1 = some x → lv_has ls 2 [(1, .int x1), (0, .ref (kad g 5))] → W p l e { frames := 12, cells := 0, slots := 0, locals := 345 } s m ([.ref (kad g 5)]).toArray below meth c s.heap [] 0 0 (MQ below (QcRead x) ([.ref (kad g 5)]).toArray s 0 0 (fun _ => False)) (F0 m 10 ls []) := by
    intro n10
    induction n10 with
    | zero => intro x1 ls h hl; rw [f_Par_boundAt_10] at h; cases h
    | succ n10 ih10 =>
      intro x1 ls h hl
      rw [f_Par_boundAt_10] at h
      refine lv_iload_n hx hb d_Par_boundAt_10 rfl (lv_at hl 0 rfl) ?_
      refine lv_if_lt (tgt := 54) hx hb d_Par_boundAt_11 (by decide) (fun c1 => ?_) (fun c1 => ?_)
      · replace h := Eq.trans (if_pos c1).symm h
        refine lv_iload_n hx hb d_Par_boundAt_54 rfl (lv_at hl 0 rfl) ?_
        exact kv_iret (w := x1) hx hb hr rfl hlocks (Option.some.inj h) d_Par_boundAt_55
      · replace h := Eq.trans (if_neg c1).symm h
        refine lv_aload_n hx hb d_Par_boundAt_14 rfl (lv_at hl 1 rfl) ?_
        refine kf_Par_scope S E hJ vt_123 d_Par_boundAt_15 ?_
        refine lv_iload_n hx hb d_Par_boundAt_18 rfl (lv_at hl 0 rfl) ?_
        refine kg_p (As := [.int x1]) (rest := []) (k_Row_at (l := l) (g := g) (α := α) (r := 9) (by decide) x1) S E hJ kw_Par_69 ⟨Nat.le_of_ble_eq_true rfl, Nat.le_of_ble_eq_true rfl⟩ ⟨Nat.le_refl _, Nat.le_refl _⟩ (kv_Row (r := 9) (by decide) E hJ) rfl hl.1 rfl (Nat.le_of_ble_eq_true rfl) d_Par_boundAt_19 rfl ?_
        refine lv_iconst (v := (-1)) hx hb d_Par_boundAt_22 (by decide) ?_
        refine lv_icmp_eq (tgt := 48) hx hb d_Par_boundAt_23 (by decide) (fun c2 => ?_) (fun c2 => ?_)
        · replace h := Eq.trans (if_pos c2).symm h
          refine lv_iinc (v := (x1 + (-1))) (lv' := [(1, .int (x1 + (-1))), (0, .ref (kad g 5))]) hx hb d_Par_boundAt_48 hl (k := 0) rfl rfl (by decide) rfl (fun ls hl => ?_)
          refine lv_goto (tgt := 10) hx hb d_Par_boundAt_51 (by decide) ?_
          exact ih10 (x1 + (-1)) _ h (lv_sub hl [0, 1] rfl)
        · replace h := Eq.trans (if_neg c2).symm h
          refine lv_aload_n hx hb d_Par_boundAt_26 rfl (lv_at hl 1 rfl) ?_
          refine kf_Par_lexer S E hJ vt_115 d_Par_boundAt_27 ?_
          refine lv_aload_n hx hb d_Par_boundAt_30 rfl (lv_at hl 1 rfl) ?_
          refine kf_Par_text S E hJ vt_114 d_Par_boundAt_31 ?_
          refine lv_aload_n hx hb d_Par_boundAt_34 rfl (lv_at hl 1 rfl) ?_
          refine kf_Par_scope S E hJ vt_123 d_Par_boundAt_35 ?_
          refine lv_iload_n hx hb d_Par_boundAt_38 rfl (lv_at hl 0 rfl) ?_
          refine kg_p (As := [.int x1]) (rest := [.ref (kad g (11 + 0)), .ref (kad g 4)]) (k_Row_at (l := l) (g := g) (α := α) (r := 9) (by decide) x1) S E hJ kw_Par_69 ⟨Nat.le_of_ble_eq_true rfl, Nat.le_of_ble_eq_true rfl⟩ ⟨Nat.le_refl _, Nat.le_refl _⟩ (kv_Row (r := 9) (by decide) E hJ) rfl hl.1 rfl (Nat.le_of_ble_eq_true rfl) d_Par_boundAt_39 rfl ?_
          obtain ⟨v3, e4, h⟩ := Option.bind_eq_some_iff.mp h
          refine kg_p (As := [.ref (kad g (11 + 0)), .int (fR_at α 9 x1)]) (rest := []) ((k_Lex_standsAt (l := l) (g := g) (α := α) N 0 (fR_at α 9 x1) (by decide)) _ e4) S E hJ kw_Par_236 ⟨Nat.le_of_ble_eq_true rfl, Nat.le_of_ble_eq_true rfl⟩ ⟨Nat.le_refl _, Nat.le_refl _⟩ (kv_Lex E hJ) rfl hl.1 rfl (Nat.le_of_ble_eq_true rfl) d_Par_boundAt_42 rfl ?_
          refine lv_if_ne (tgt := 54) hx hb d_Par_boundAt_45 (by decide) (fun c5 => ?_) (fun c5 => ?_)
          · replace h := Eq.trans (if_neg c5).symm h
            refine lv_iload_n hx hb d_Par_boundAt_54 rfl (lv_at hl 0 rfl) ?_
            exact kv_iret (w := x1) hx hb hr rfl hlocks (Option.some.inj h) d_Par_boundAt_55
          · replace h := Eq.trans (if_pos c5).symm h
            refine lv_iinc (v := (x1 + (-1))) (lv' := [(1, .int (x1 + (-1))), (0, .ref (kad g 5))]) hx hb d_Par_boundAt_48 hl (k := 0) rfl rfl (by decide) rfl (fun ls hl => ?_)
            refine lv_goto (tgt := 10) hx hb d_Par_boundAt_51 (by decide) ?_
            exact ih10 (x1 + (-1)) _ h (lv_sub hl [0, 1] rfl)
  exact L10 N ((fR_size α 9) - 1) _ h (lv_sub hl [0, 1] rfl)
theorem kw_Par_240 : kWv "FamilyKernel$Parser" 240 "FamilyKernel$Parser" y_Par_boundAt b_Par_boundAt 2 (some .int) 0 := ⟨vt_529, vt_530, vt_531, vt_40, vt_532, by decide, by decide, by decide +kernel⟩
theorem kw_Par_73 : kWv "FamilyKernel$Parser" 73 "FamilyKernel$Terms" y_Terms_make b_Terms_make 10 (some .int) 3 := ⟨vt_517, vt_518, vt_519, vt_19, vt_520, by decide, by decide, by decide +kernel⟩
def f_Par_resolve_j49 (N : Nat)  (y2 : Int32) (y1 : Int32) (γ : kS) : Option (kO × kS) := if y1 < 0 then (kBi (f_Terms_make N 3 y2 0 (f_Lex_advance γ)) fun v10 α8 => (some (some (some v10), α8))) else (kBi (f_Terms_make N 0 (((fR_size (f_Lex_advance γ) 9) - 1) - y1) 0 (f_Lex_advance γ)) fun v13 α11 => (some (some (some v13), α11)))
def f_Par_resolve_j28 (N : Nat)  (y1 : Int32) (t0 : Int32) (γ : kS) : Option (kO × kS) := if t0 = (-1) then (kBv (f_Meter_failAt N 2 (f_Lex_start γ) γ) fun α14 => (f_Par_resolve_j49 N t0 y1 α14)) else (f_Par_resolve_j49 N t0 y1 γ)
def f_Par_resolve (N : Nat)  (α : kS) : Option (kO × kS) := ((f_Par_boundAt N α)).bind fun v1 => (if v1 < 0 then (((f_Env_find N (α.1 18) α)).bind fun v4 => (f_Par_resolve_j28 N v1 v4 α)) else (f_Par_resolve_j28 N v1 v1 α))
set_option maxHeartbeats 4000000 in
set_option maxRecDepth 100000 in
theorem k_Par_resolve {l : Launch} {g : kG} {α : kS} (hfl : kFl l) (N : Nat)   : ∀ x, f_Par_resolve N α = some x → kC l g y_Par_resolve b_Par_resolve 3 (some .int) 23 692 [.ref (kad g 5)] α (kQr x) := by
  intro x h
  unfold f_Par_resolve at h
  refine kc_ofW (by decide) (fun A ad0 p e s m args below meth c S hr hlocks hno hadm hargs E hI => ?_)
  have hx := S.1
  have hb := S.2.1
  have hown := S.2.2.2.1
  have hT := S.2.2.2.2
  subst hargs
  have hl := lv_entry ([.ref (kad g 5)]) (n := 3) (Nat.le_of_ble_eq_true rfl)
  rw [lg_entry_eq]
  generalize (lg_sl ([.ref (kad g 5)]) ++ List.replicate (3 - (lg_sl ([.ref (kad g 5)])).length) Slot.unset).toArray = ls at hl ⊢
  have hl : lv_has ls 3 [(0, .ref (kad g 5))] := hl
  have J49 : ∀ (y2 : Int32) (y1 : Int32) (γ : kS) (ad : Nat → Nat) (H : Heap) (locs : List Loc) (cells slots : Nat) (ls : Array Slot), f_Par_resolve_j49 N y2 y1 γ = some x → kI g A s α ad0 γ ad H locs cells slots → lv_has ls 3 [(2, .int y2), (1, .int y1), (0, .ref (kad g 5))] → W p l e (kR 23 692 α) s m ([.ref (kad g 5)]).toArray below meth c H locs cells slots (vEQ below (kQ g A α ad0 (kQr x)) ([.ref (kad g 5)]).toArray s A) (F0 m 49 ls []) := by
    intro y2 y1 γ ad H locs cells slots ls h hI hl
    unfold f_Par_resolve_j49 at h
    refine lv_aload_n hx hb d_Par_resolve_49 rfl (lv_at hl 2 rfl) ?_
    refine kf_Par_lexer S E hI.1 vt_115 d_Par_resolve_50 ?_
    refine kg_tV (As := []) (rest := []) (k_Lex_advance (l := l) (g := g) (α := γ) ) S hlocks hno E hI kw_Par_168 ⟨Nat.le_of_ble_eq_true rfl, Nat.le_of_ble_eq_true rfl⟩ (kv_Lex E hI.1) rfl hl.1 rfl (Nat.le_of_ble_eq_true rfl) d_Par_resolve_53 (fun ad H locs cells slots hRm hI => ?_)
    refine lv_iload_n hx hb d_Par_resolve_56 rfl (lv_at hl 1 rfl) ?_
    refine lv_if_lt (tgt := 83) hx hb d_Par_resolve_57 (by decide) (fun c7 => ?_) (fun c7 => ?_)
    · replace h := Eq.trans (if_pos c7).symm h
      refine lv_aload_n hx hb d_Par_resolve_83 rfl (lv_at hl 2 rfl) ?_
      refine kf_Par_terms S E hI.1 vt_117 d_Par_resolve_84 ?_
      refine lv_iconst (v := 3) hx hb d_Par_resolve_87 (by decide) ?_
      refine lv_iload_n hx hb d_Par_resolve_88 rfl (lv_at hl 0 rfl) ?_
      refine lv_iconst (v := 0) hx hb d_Par_resolve_89 (by decide) ?_
      refine kg_cI (As := [.int 3, .int y2, .int 0]) (rest := []) h (k_Terms_make (l := l) (g := g) (α := (f_Lex_advance γ)) hfl N 3 y2 0) S hlocks hno E hI kw_Par_73 ⟨Nat.le_of_ble_eq_true rfl, Nat.le_of_ble_eq_true rfl⟩ (kv_Terms E hI.1) rfl hl.1 rfl (Nat.le_of_ble_eq_true rfl) d_Par_resolve_90 (fun v10 α8 ad H locs cells slots e9 h hRm hI => ?_)
      exact kc_iret (w := v10) hx hb hr rfl hlocks E hI h d_Par_resolve_93
    · replace h := Eq.trans (if_neg c7).symm h
      refine lv_aload_n hx hb d_Par_resolve_60 rfl (lv_at hl 2 rfl) ?_
      refine kf_Par_terms S E hI.1 vt_117 d_Par_resolve_61 ?_
      refine lv_iconst (v := 0) hx hb d_Par_resolve_64 (by decide) ?_
      refine lv_aload_n hx hb d_Par_resolve_65 rfl (lv_at hl 2 rfl) ?_
      refine kf_Par_scope S E hI.1 vt_123 d_Par_resolve_66 ?_
      refine kg_p (As := []) (rest := [.int 0, .ref (kad g 2)]) (k_Row_size (l := l) (g := g) (α := (f_Lex_advance γ)) (r := 9) (by decide)) S E hI.1 kw_Par_65 ⟨Nat.le_of_ble_eq_true rfl, Nat.le_of_ble_eq_true rfl⟩ hI.room (kv_Row (r := 9) (by decide) E hI.1) rfl hl.1 rfl (Nat.le_of_ble_eq_true rfl) d_Par_resolve_69 rfl ?_
      refine lv_iconst (v := 1) hx hb d_Par_resolve_72 (by decide) ?_
      refine lv_isub hx hb d_Par_resolve_73 ?_
      refine lv_iload_n hx hb d_Par_resolve_74 rfl (lv_at hl 1 rfl) ?_
      refine lv_isub hx hb d_Par_resolve_75 ?_
      refine lv_iconst (v := 0) hx hb d_Par_resolve_76 (by decide) ?_
      refine kg_cI (As := [.int 0, .int (((fR_size (f_Lex_advance γ) 9) - 1) - y1), .int 0]) (rest := []) h (k_Terms_make (l := l) (g := g) (α := (f_Lex_advance γ)) hfl N 0 (((fR_size (f_Lex_advance γ) 9) - 1) - y1) 0) S hlocks hno E hI kw_Par_73 ⟨Nat.le_of_ble_eq_true rfl, Nat.le_of_ble_eq_true rfl⟩ (kv_Terms E hI.1) rfl hl.1 rfl (Nat.le_of_ble_eq_true rfl) d_Par_resolve_77 (fun v13 α11 ad H locs cells slots e12 h hRm hI => ?_)
      refine lv_goto (tgt := 93) hx hb d_Par_resolve_80 (by decide) ?_
      exact kc_iret (w := v13) hx hb hr rfl hlocks E hI h d_Par_resolve_93
  have J28 : ∀ (y1 : Int32) (t0 : Int32) (γ : kS) (ad : Nat → Nat) (H : Heap) (locs : List Loc) (cells slots : Nat) (ls : Array Slot), f_Par_resolve_j28 N y1 t0 γ = some x → kI g A s α ad0 γ ad H locs cells slots → lv_has ls 3 [(1, .int y1), (0, .ref (kad g 5))] → W p l e (kR 23 692 α) s m ([.ref (kad g 5)]).toArray below meth c H locs cells slots (vEQ below (kQ g A α ad0 (kQr x)) ([.ref (kad g 5)]).toArray s A) (F0 m 28 ls [.int t0]) := by
    intro y1 t0 γ ad H locs cells slots ls h hI hl
    unfold f_Par_resolve_j28 at h
    refine lv_istore_n (lv' := [(2, .int t0), (1, .int y1), (0, .ref (kad g 5))]) hx hb d_Par_resolve_28 rfl hl (by decide) rfl (fun ls hl => ?_)
    refine lv_iload_n hx hb d_Par_resolve_29 rfl (lv_at hl 0 rfl) ?_
    refine lv_iconst (v := (-1)) hx hb d_Par_resolve_30 (by decide) ?_
    refine lv_icmp_ne (tgt := 49) hx hb d_Par_resolve_31 (by decide) (fun c6 => ?_) (fun c6 => ?_)
    · replace h := Eq.trans (if_neg c6).symm h
      exact J49 t0 y1 _ _ _ _ _ _ _ h hI (lv_sub hl [0, 1, 2] rfl)
    · replace h := Eq.trans (if_pos c6).symm h
      refine lv_aload_n hx hb d_Par_resolve_34 rfl (lv_at hl 2 rfl) ?_
      refine kf_Par_meter S E hI.1 vt_116 d_Par_resolve_35 ?_
      refine lv_iconst (v := 2) hx hb d_Par_resolve_38 (by decide) ?_
      refine lv_aload_n hx hb d_Par_resolve_39 rfl (lv_at hl 2 rfl) ?_
      refine kf_Par_lexer S E hI.1 vt_115 d_Par_resolve_40 ?_
      refine kg_p (As := []) (rest := [.int 2, .ref (kad g 1)]) (k_Lex_start (l := l) (g := g) (α := γ) ) S E hI.1 kw_Par_190 ⟨Nat.le_of_ble_eq_true rfl, Nat.le_of_ble_eq_true rfl⟩ hI.room (kv_Lex E hI.1) rfl hl.1 rfl (Nat.le_of_ble_eq_true rfl) d_Par_resolve_43 rfl ?_
      refine kg_cV (As := [.int 2, .int (f_Lex_start γ)]) (rest := []) h (k_Meter_failAt (l := l) (g := g) (α := γ) hfl N 2 (f_Lex_start γ)) S hlocks hno E hI kw_Par_193 ⟨Nat.le_of_ble_eq_true rfl, Nat.le_of_ble_eq_true rfl⟩ (kv_Meter E hI.1) rfl hl.1 rfl (Nat.le_of_ble_eq_true rfl) d_Par_resolve_46 (fun α14 ad H locs cells slots e15 h hRm hI => ?_)
      exact J49 t0 y1 _ _ _ _ _ _ _ h hI (lv_sub hl [0, 1, 2] rfl)
  refine lv_aload_n hx hb d_Par_resolve_0 rfl (lv_at hl 0 rfl) ?_
  obtain ⟨v1, e2, h⟩ := Option.bind_eq_some_iff.mp h
  refine kg_p (As := []) (rest := []) ((k_Par_boundAt (l := l) (g := g) (α := α) N) _ e2) S E hI.1 kw_Par_240 ⟨Nat.le_of_ble_eq_true rfl, Nat.le_of_ble_eq_true rfl⟩ hI.room (kv_Par E hI.1) rfl hl.1 rfl (Nat.le_of_ble_eq_true rfl) d_Par_resolve_1 rfl ?_
  refine lv_istore_n (lv' := [(1, .int v1), (0, .ref (kad g 5))]) hx hb d_Par_resolve_4 rfl hl (by decide) rfl (fun ls hl => ?_)
  refine lv_iload_n hx hb d_Par_resolve_5 rfl (lv_at hl 0 rfl) ?_
  refine lv_if_lt (tgt := 13) hx hb d_Par_resolve_6 (by decide) (fun c3 => ?_) (fun c3 => ?_)
  · replace h := Eq.trans (if_pos c3).symm h
    refine lv_aload_n hx hb d_Par_resolve_13 rfl (lv_at hl 1 rfl) ?_
    refine kf_Par_environment S E hI.1 vt_118 d_Par_resolve_14 ?_
    refine lv_aload_n hx hb d_Par_resolve_17 rfl (lv_at hl 1 rfl) ?_
    refine kf_Par_lexer S E hI.1 vt_115 d_Par_resolve_18 ?_
    refine lv_aload_n hx hb d_Par_resolve_21 rfl (lv_at hl 1 rfl) ?_
    refine kf_Par_known S E hI.1 vt_332 d_Par_resolve_22 ?_
    obtain ⟨v4, e5, h⟩ := Option.bind_eq_some_iff.mp h
    refine kg_p (As := [.ref (kad g 4), .int (α.1 18)]) (rest := []) ((k_Env_find (l := l) (g := g) (α := α) N (α.1 18)) _ e5) S E hI.1 kw_Par_196 ⟨Nat.le_of_ble_eq_true rfl, Nat.le_of_ble_eq_true rfl⟩ hI.room (kv_Env E hI.1) rfl hl.1 rfl (Nat.le_of_ble_eq_true rfl) d_Par_resolve_25 rfl ?_
    exact J28 v1 v4 _ _ _ _ _ _ _ h hI (lv_sub hl [0, 1] rfl)
  · replace h := Eq.trans (if_neg c3).symm h
    refine lv_iload_n hx hb d_Par_resolve_9 rfl (lv_at hl 0 rfl) ?_
    refine lv_goto (tgt := 28) hx hb d_Par_resolve_10 (by decide) ?_
    exact J28 v1 v1 _ _ _ _ _ _ _ h hI (lv_sub hl [0, 1] rfl)
def f_Par_apply (N : Nat) (a1 : Int32) (α : kS) : Option (kO × kS) := if (α.1 15) = (-1) then (some (some none, (kSi (kSi α 15 a1) 13 2))) else (kBi (f_Terms_make N 5 (α.1 15) a1 α) fun v4 α2 => (some (some none, (kSi (kSi α2 15 v4) 13 2))))
set_option maxHeartbeats 4000000 in
set_option maxRecDepth 100000 in
theorem k_Par_apply {l : Launch} {g : kG} {α : kS} (hfl : kFl l) (N : Nat) (a1 : Int32)  : ∀ x, f_Par_apply N a1 α = some x → kC l g y_Par_apply b_Par_apply 2 none 23 692 [.ref (kad g 5), .int a1] α (kQr x) := by
  intro x h
  unfold f_Par_apply at h
  refine kc_ofW (by decide) (fun A ad0 p e s m args below meth c S hr hlocks hno hadm hargs E hI => ?_)
  have hx := S.1
  have hb := S.2.1
  have hown := S.2.2.2.1
  have hT := S.2.2.2.2
  subst hargs
  have hl := lv_entry ([.ref (kad g 5), .int a1]) (n := 2) (Nat.le_of_ble_eq_true rfl)
  rw [lg_entry_eq]
  generalize (lg_sl ([.ref (kad g 5), .int a1]) ++ List.replicate (2 - (lg_sl ([.ref (kad g 5), .int a1])).length) Slot.unset).toArray = ls at hl ⊢
  have hl : lv_has ls 2 [(0, .ref (kad g 5)), (1, .int a1)] := hl
  refine lv_aload_n hx hb d_Par_apply_0 rfl (lv_at hl 0 rfl) ?_
  refine lv_aload_n hx hb d_Par_apply_1 rfl (lv_at hl 0 rfl) ?_
  refine kf_Par_current S E hI.1 vt_496 d_Par_apply_2 ?_
  refine lv_iconst (v := (-1)) hx hb d_Par_apply_5 (by decide) ?_
  refine lv_icmp_ne (tgt := 13) hx hb d_Par_apply_6 (by decide) (fun c1 => ?_) (fun c1 => ?_)
  · replace h := Eq.trans (if_neg c1).symm h
    refine lv_aload_n hx hb d_Par_apply_13 rfl (lv_at hl 0 rfl) ?_
    refine kf_Par_terms S E hI.1 vt_117 d_Par_apply_14 ?_
    refine lv_iconst (v := 5) hx hb d_Par_apply_17 (by decide) ?_
    refine lv_aload_n hx hb d_Par_apply_18 rfl (lv_at hl 0 rfl) ?_
    refine kf_Par_current S E hI.1 vt_496 d_Par_apply_19 ?_
    refine lv_iload_n hx hb d_Par_apply_22 rfl (lv_at hl 1 rfl) ?_
    refine kg_cI (As := [.int 5, .int (α.1 15), .int a1]) (rest := [.ref (kad g 5)]) h (k_Terms_make (l := l) (g := g) (α := α) hfl N 5 (α.1 15) a1) S hlocks hno E hI kw_Par_73 ⟨Nat.le_of_ble_eq_true rfl, Nat.le_of_ble_eq_true rfl⟩ (kv_Terms E hI.1) rfl hl.1 rfl (Nat.le_of_ble_eq_true rfl) d_Par_apply_23 (fun v4 α2 ad H locs cells slots e3 h hRm hI => ?_)
    refine kp_Par_current S E hI vt_496 d_Par_apply_26 (fun H locs hI => ?_)
    refine lv_aload_n hx hb d_Par_apply_29 rfl (lv_at hl 0 rfl) ?_
    refine lv_iconst (v := 2) hx hb d_Par_apply_30 (by decide) ?_
    refine kp_Par_state S E hI vt_340 d_Par_apply_31 (fun H locs hI => ?_)
    exact kc_vret hx hb hr hlocks E hI h d_Par_apply_34
  · replace h := Eq.trans (if_pos c1).symm h
    refine lv_iload_n hx hb d_Par_apply_9 rfl (lv_at hl 1 rfl) ?_
    refine lv_goto (tgt := 26) hx hb d_Par_apply_10 (by decide) ?_
    refine kp_Par_current S E hI vt_496 d_Par_apply_26 (fun H locs hI => ?_)
    refine lv_aload_n hx hb d_Par_apply_29 rfl (lv_at hl 0 rfl) ?_
    refine lv_iconst (v := 2) hx hb d_Par_apply_30 (by decide) ?_
    refine kp_Par_state S E hI vt_340 d_Par_apply_31 (fun H locs hI => ?_)
    exact kc_vret hx hb hr hlocks E hI h d_Par_apply_34
theorem kw_Par_247 : kWv "FamilyKernel$Parser" 247 "FamilyKernel$Lexer" y_Lex_value b_Lex_value 3 (some .int) 0 := ⟨vt_580, vt_581, vt_582, vt_33, vt_583, by decide, by decide, by decide +kernel⟩
def f_Par_takeSort_j88 (N : Nat)  (y1 : Int32) (γ : kS) : Option (kO × kS) := some (some (some (y1 + 1)), (f_Lex_advance γ))
def f_Par_takeSort_j59 (N : Nat)  (γ : kS) : Option (kO × kS) := ((f_Lex_value N γ)).bind fun v4 => (if v4 ≤ 99 then (f_Par_takeSort_j88 N v4 γ) else (kBv (f_Meter_failAt N 3 (f_Lex_start γ) γ) fun α7 => (f_Par_takeSort_j88 N v4 α7)))
def f_Par_takeSort_j37 (N : Nat)  (γ : kS) : Option (kO × kS) := if (f_Lex_kind (f_Lex_advance γ)) = 3 then (f_Par_takeSort_j59 N  (f_Lex_advance γ)) else (kBv (f_Par_refuse N (f_Lex_advance γ)) fun α9 => (f_Par_takeSort_j59 N  α9))
def f_Par_takeSort (N : Nat)  (α : kS) : Option (kO × kS) := if (f_Lex_kind α) = 14 then (some (some (some 0), (f_Lex_advance α))) else (if (f_Lex_kind α) = 15 then (f_Par_takeSort_j37 N  α) else (kBv (f_Par_refuse N α) fun α11 => (f_Par_takeSort_j37 N  α11)))
set_option maxHeartbeats 4000000 in
set_option maxRecDepth 100000 in
theorem k_Par_takeSort {l : Launch} {g : kG} {α : kS} (hfl : kFl l) (N : Nat)   : ∀ x, f_Par_takeSort N α = some x → kC l g y_Par_takeSort b_Par_takeSort 2 (some .int) 13 364 [.ref (kad g 5)] α (kQr x) := by
  intro x h
  unfold f_Par_takeSort at h
  refine kc_ofW (by decide) (fun A ad0 p e s m args below meth c S hr hlocks hno hadm hargs E hI => ?_)
  have hx := S.1
  have hb := S.2.1
  have hown := S.2.2.2.1
  have hT := S.2.2.2.2
  subst hargs
  have hl := lv_entry ([.ref (kad g 5)]) (n := 2) (Nat.le_of_ble_eq_true rfl)
  rw [lg_entry_eq]
  generalize (lg_sl ([.ref (kad g 5)]) ++ List.replicate (2 - (lg_sl ([.ref (kad g 5)])).length) Slot.unset).toArray = ls at hl ⊢
  have hl : lv_has ls 2 [(0, .ref (kad g 5))] := hl
  have J88 : ∀ (y1 : Int32) (γ : kS) (ad : Nat → Nat) (H : Heap) (locs : List Loc) (cells slots : Nat) (ls : Array Slot), f_Par_takeSort_j88 N y1 γ = some x → kI g A s α ad0 γ ad H locs cells slots → lv_has ls 2 [(1, .int y1), (0, .ref (kad g 5))] → W p l e (kR 13 364 α) s m ([.ref (kad g 5)]).toArray below meth c H locs cells slots (vEQ below (kQ g A α ad0 (kQr x)) ([.ref (kad g 5)]).toArray s A) (F0 m 88 ls []) := by
    intro y1 γ ad H locs cells slots ls h hI hl
    unfold f_Par_takeSort_j88 at h
    refine lv_aload_n hx hb d_Par_takeSort_88 rfl (lv_at hl 1 rfl) ?_
    refine kf_Par_lexer S E hI.1 vt_115 d_Par_takeSort_89 ?_
    refine kg_tV (As := []) (rest := []) (k_Lex_advance (l := l) (g := g) (α := γ) ) S hlocks hno E hI kw_Par_168 ⟨Nat.le_of_ble_eq_true rfl, Nat.le_of_ble_eq_true rfl⟩ (kv_Lex E hI.1) rfl hl.1 rfl (Nat.le_of_ble_eq_true rfl) d_Par_takeSort_92 (fun ad H locs cells slots hRm hI => ?_)
    refine lv_iload_n hx hb d_Par_takeSort_95 rfl (lv_at hl 0 rfl) ?_
    refine lv_iconst (v := 1) hx hb d_Par_takeSort_96 (by decide) ?_
    refine lv_iadd hx hb d_Par_takeSort_97 ?_
    exact kc_iret (w := (y1 + 1)) hx hb hr rfl hlocks E hI h d_Par_takeSort_98
  have J59 : ∀ (γ : kS) (ad : Nat → Nat) (H : Heap) (locs : List Loc) (cells slots : Nat) (ls : Array Slot), f_Par_takeSort_j59 N γ = some x → kI g A s α ad0 γ ad H locs cells slots → lv_has ls 2 [(0, .ref (kad g 5))] → W p l e (kR 13 364 α) s m ([.ref (kad g 5)]).toArray below meth c H locs cells slots (vEQ below (kQ g A α ad0 (kQr x)) ([.ref (kad g 5)]).toArray s A) (F0 m 59 ls []) := by
    intro  γ ad H locs cells slots ls h hI hl
    unfold f_Par_takeSort_j59 at h
    refine lv_aload_n hx hb d_Par_takeSort_59 rfl (lv_at hl 0 rfl) ?_
    refine kf_Par_lexer S E hI.1 vt_115 d_Par_takeSort_60 ?_
    obtain ⟨v4, e5, h⟩ := Option.bind_eq_some_iff.mp h
    refine kg_p (As := []) (rest := []) ((k_Lex_value (l := l) (g := g) (α := γ) N) _ e5) S E hI.1 kw_Par_247 ⟨Nat.le_of_ble_eq_true rfl, Nat.le_of_ble_eq_true rfl⟩ hI.room (kv_Lex E hI.1) rfl hl.1 rfl (Nat.le_of_ble_eq_true rfl) d_Par_takeSort_63 rfl ?_
    refine lv_istore_n (lv' := [(1, .int v4), (0, .ref (kad g 5))]) hx hb d_Par_takeSort_66 rfl hl (by decide) rfl (fun ls hl => ?_)
    refine lv_iload_n hx hb d_Par_takeSort_67 rfl (lv_at hl 0 rfl) ?_
    refine lv_bipush (v := 99) hx hb d_Par_takeSort_68 (by decide) ?_
    refine lv_icmp_le (tgt := 88) hx hb d_Par_takeSort_70 (by decide) (fun c6 => ?_) (fun c6 => ?_)
    · replace h := Eq.trans (if_pos c6).symm h
      exact J88 v4 _ _ _ _ _ _ _ h hI (lv_sub hl [0, 1] rfl)
    · replace h := Eq.trans (if_neg c6).symm h
      refine lv_aload_n hx hb d_Par_takeSort_73 rfl (lv_at hl 1 rfl) ?_
      refine kf_Par_meter S E hI.1 vt_116 d_Par_takeSort_74 ?_
      refine lv_iconst (v := 3) hx hb d_Par_takeSort_77 (by decide) ?_
      refine lv_aload_n hx hb d_Par_takeSort_78 rfl (lv_at hl 1 rfl) ?_
      refine kf_Par_lexer S E hI.1 vt_115 d_Par_takeSort_79 ?_
      refine kg_p (As := []) (rest := [.int 3, .ref (kad g 1)]) (k_Lex_start (l := l) (g := g) (α := γ) ) S E hI.1 kw_Par_190 ⟨Nat.le_of_ble_eq_true rfl, Nat.le_of_ble_eq_true rfl⟩ hI.room (kv_Lex E hI.1) rfl hl.1 rfl (Nat.le_of_ble_eq_true rfl) d_Par_takeSort_82 rfl ?_
      refine kg_cV (As := [.int 3, .int (f_Lex_start γ)]) (rest := []) h (k_Meter_failAt (l := l) (g := g) (α := γ) hfl N 3 (f_Lex_start γ)) S hlocks hno E hI kw_Par_193 ⟨Nat.le_of_ble_eq_true rfl, Nat.le_of_ble_eq_true rfl⟩ (kv_Meter E hI.1) rfl hl.1 rfl (Nat.le_of_ble_eq_true rfl) d_Par_takeSort_85 (fun α7 ad H locs cells slots e8 h hRm hI => ?_)
      exact J88 v4 _ _ _ _ _ _ _ h hI (lv_sub hl [0, 1] rfl)
  have J37 : ∀ (γ : kS) (ad : Nat → Nat) (H : Heap) (locs : List Loc) (cells slots : Nat) (ls : Array Slot), f_Par_takeSort_j37 N γ = some x → kI g A s α ad0 γ ad H locs cells slots → lv_has ls 2 [(0, .ref (kad g 5))] → W p l e (kR 13 364 α) s m ([.ref (kad g 5)]).toArray below meth c H locs cells slots (vEQ below (kQ g A α ad0 (kQr x)) ([.ref (kad g 5)]).toArray s A) (F0 m 37 ls []) := by
    intro  γ ad H locs cells slots ls h hI hl
    unfold f_Par_takeSort_j37 at h
    refine lv_aload_n hx hb d_Par_takeSort_37 rfl (lv_at hl 0 rfl) ?_
    refine kf_Par_lexer S E hI.1 vt_115 d_Par_takeSort_38 ?_
    refine kg_tV (As := []) (rest := []) (k_Lex_advance (l := l) (g := g) (α := γ) ) S hlocks hno E hI kw_Par_168 ⟨Nat.le_of_ble_eq_true rfl, Nat.le_of_ble_eq_true rfl⟩ (kv_Lex E hI.1) rfl hl.1 rfl (Nat.le_of_ble_eq_true rfl) d_Par_takeSort_41 (fun ad H locs cells slots hRm hI => ?_)
    refine lv_aload_n hx hb d_Par_takeSort_44 rfl (lv_at hl 0 rfl) ?_
    refine kf_Par_lexer S E hI.1 vt_115 d_Par_takeSort_45 ?_
    refine kg_p (As := []) (rest := []) (k_Lex_kind (l := l) (g := g) (α := (f_Lex_advance γ)) ) S E hI.1 kw_Par_160 ⟨Nat.le_of_ble_eq_true rfl, Nat.le_of_ble_eq_true rfl⟩ hI.room (kv_Lex E hI.1) rfl hl.1 rfl (Nat.le_of_ble_eq_true rfl) d_Par_takeSort_48 rfl ?_
    refine lv_iconst (v := 3) hx hb d_Par_takeSort_51 (by decide) ?_
    refine lv_icmp_eq (tgt := 59) hx hb d_Par_takeSort_52 (by decide) (fun c3 => ?_) (fun c3 => ?_)
    · replace h := Eq.trans (if_pos c3).symm h
      exact J59  _ _ _ _ _ _ _ h hI (lv_sub hl [0] rfl)
    · replace h := Eq.trans (if_neg c3).symm h
      refine lv_aload_n hx hb d_Par_takeSort_55 rfl (lv_at hl 0 rfl) ?_
      refine kg_cV (As := []) (rest := []) h (k_Par_refuse (l := l) (g := g) (α := (f_Lex_advance γ)) hfl N) S hlocks hno E hI kw_Par_165 ⟨Nat.le_of_ble_eq_true rfl, Nat.le_of_ble_eq_true rfl⟩ (kv_Par E hI.1) rfl hl.1 rfl (Nat.le_of_ble_eq_true rfl) d_Par_takeSort_56 (fun α9 ad H locs cells slots e10 h hRm hI => ?_)
      exact J59  _ _ _ _ _ _ _ h hI (lv_sub hl [0] rfl)
  refine lv_aload_n hx hb d_Par_takeSort_0 rfl (lv_at hl 0 rfl) ?_
  refine kf_Par_lexer S E hI.1 vt_115 d_Par_takeSort_1 ?_
  refine kg_p (As := []) (rest := []) (k_Lex_kind (l := l) (g := g) (α := α) ) S E hI.1 kw_Par_160 ⟨Nat.le_of_ble_eq_true rfl, Nat.le_of_ble_eq_true rfl⟩ hI.room (kv_Lex E hI.1) rfl hl.1 rfl (Nat.le_of_ble_eq_true rfl) d_Par_takeSort_4 rfl ?_
  refine lv_bipush (v := 14) hx hb d_Par_takeSort_7 (by decide) ?_
  refine lv_icmp_ne (tgt := 21) hx hb d_Par_takeSort_9 (by decide) (fun c1 => ?_) (fun c1 => ?_)
  · replace h := Eq.trans (if_neg c1).symm h
    refine lv_aload_n hx hb d_Par_takeSort_21 rfl (lv_at hl 0 rfl) ?_
    refine kf_Par_lexer S E hI.1 vt_115 d_Par_takeSort_22 ?_
    refine kg_p (As := []) (rest := []) (k_Lex_kind (l := l) (g := g) (α := α) ) S E hI.1 kw_Par_160 ⟨Nat.le_of_ble_eq_true rfl, Nat.le_of_ble_eq_true rfl⟩ hI.room (kv_Lex E hI.1) rfl hl.1 rfl (Nat.le_of_ble_eq_true rfl) d_Par_takeSort_25 rfl ?_
    refine lv_bipush (v := 15) hx hb d_Par_takeSort_28 (by decide) ?_
    refine lv_icmp_eq (tgt := 37) hx hb d_Par_takeSort_30 (by decide) (fun c2 => ?_) (fun c2 => ?_)
    · replace h := Eq.trans (if_pos c2).symm h
      exact J37  _ _ _ _ _ _ _ h hI (lv_sub hl [0] rfl)
    · replace h := Eq.trans (if_neg c2).symm h
      refine lv_aload_n hx hb d_Par_takeSort_33 rfl (lv_at hl 0 rfl) ?_
      refine kg_cV (As := []) (rest := []) h (k_Par_refuse (l := l) (g := g) (α := α) hfl N) S hlocks hno E hI kw_Par_165 ⟨Nat.le_of_ble_eq_true rfl, Nat.le_of_ble_eq_true rfl⟩ (kv_Par E hI.1) rfl hl.1 rfl (Nat.le_of_ble_eq_true rfl) d_Par_takeSort_34 (fun α11 ad H locs cells slots e12 h hRm hI => ?_)
      exact J37  _ _ _ _ _ _ _ h hI (lv_sub hl [0] rfl)
  · replace h := Eq.trans (if_pos c1).symm h
    refine lv_aload_n hx hb d_Par_takeSort_12 rfl (lv_at hl 0 rfl) ?_
    refine kf_Par_lexer S E hI.1 vt_115 d_Par_takeSort_13 ?_
    refine kg_tV (As := []) (rest := []) (k_Lex_advance (l := l) (g := g) (α := α) ) S hlocks hno E hI kw_Par_168 ⟨Nat.le_of_ble_eq_true rfl, Nat.le_of_ble_eq_true rfl⟩ (kv_Lex E hI.1) rfl hl.1 rfl (Nat.le_of_ble_eq_true rfl) d_Par_takeSort_16 (fun ad H locs cells slots hRm hI => ?_)
    refine lv_iconst (v := 0) hx hb d_Par_takeSort_19 (by decide) ?_
    exact kc_iret (w := 0) hx hb hr rfl hlocks E hI h d_Par_takeSort_20
theorem kw_Par_227 : kWv "FamilyKernel$Parser" 227 "FamilyKernel$Parser" y_Par_takeSort b_Par_takeSort 2 (some .int) 0 := ⟨vt_513, vt_514, vt_515, vt_40, vt_516, by decide, by decide, by decide +kernel⟩
theorem kw_Par_243 : kWv "FamilyKernel$Parser" 243 "FamilyKernel$Environment" y_Env_fact b_Env_fact 3 (some .int) 2 := ⟨vt_585, vt_459, vt_460, vt_26, vt_461, by decide, by decide, by decide +kernel⟩
def f_Par_takeRecursor_j93 (N : Nat)  (y1 : Int32) (γ : kS) : Option (kO × kS) := kBi (f_Par_takeSort N (f_Lex_advance γ)) fun v13 α11 => (kBi (f_Terms_make N 4 y1 v13 α11) fun v16 α14 => (some (some (some v16), α14)))
def f_Par_takeRecursor_j78 (N : Nat)  (y1 : Int32) (γ : kS) : Option (kO × kS) := kBv (f_Meter_failAt N 2 (f_Lex_start γ) γ) fun α9 => (f_Par_takeRecursor_j93 N y1 α9)
def f_Par_takeRecursor_j55 (N : Nat)  (y1 : Int32) (t0 : Int32) (γ : kS) : Option (kO × kS) := if y1 = (-1) then (f_Par_takeRecursor_j78 N y1 γ) else (if t0 = 0 then (if (f_Env_fact y1 0 γ) = 3 then (f_Par_takeRecursor_j93 N y1 γ) else (f_Par_takeRecursor_j78 N y1 γ)) else (f_Par_takeRecursor_j78 N y1 γ))
def f_Par_takeRecursor_j41 (N : Nat)  (t0 : Int32) (γ : kS) : Option (kO × kS) := if t0 = (γ.1 19) then (f_Par_takeRecursor_j55 N t0 1 γ) else (f_Par_takeRecursor_j55 N t0 0 γ)
def f_Par_takeRecursor_j15 (N : Nat)  (γ : kS) : Option (kO × kS) := ((f_Par_boundAt N γ)).bind fun v2 => (if v2 < 0 then (((f_Env_find N (γ.1 18) γ)).bind fun v5 => (f_Par_takeRecursor_j41 N v5 γ)) else (f_Par_takeRecursor_j41 N (-1) γ))
def f_Par_takeRecursor (N : Nat)  (α : kS) : Option (kO × kS) := if (f_Lex_kind α) = 2 then (f_Par_takeRecursor_j15 N  α) else (kBv (f_Par_refuse N α) fun α19 => (f_Par_takeRecursor_j15 N  α19))
set_option maxHeartbeats 4000000 in
set_option maxRecDepth 100000 in
theorem k_Par_takeRecursor {l : Launch} {g : kG} {α : kS} (hfl : kFl l) (N : Nat)   : ∀ x, f_Par_takeRecursor N α = some x → kC l g y_Par_takeRecursor b_Par_takeRecursor 3 (some .int) 23 692 [.ref (kad g 5)] α (kQr x) := by
  intro x h
  unfold f_Par_takeRecursor at h
  refine kc_ofW (by decide) (fun A ad0 p e s m args below meth c S hr hlocks hno hadm hargs E hI => ?_)
  have hx := S.1
  have hb := S.2.1
  have hown := S.2.2.2.1
  have hT := S.2.2.2.2
  subst hargs
  have hl := lv_entry ([.ref (kad g 5)]) (n := 3) (Nat.le_of_ble_eq_true rfl)
  rw [lg_entry_eq]
  generalize (lg_sl ([.ref (kad g 5)]) ++ List.replicate (3 - (lg_sl ([.ref (kad g 5)])).length) Slot.unset).toArray = ls at hl ⊢
  have hl : lv_has ls 3 [(0, .ref (kad g 5))] := hl
  have J93 : ∀ (y1 : Int32) (γ : kS) (ad : Nat → Nat) (H : Heap) (locs : List Loc) (cells slots : Nat) (ls : Array Slot), f_Par_takeRecursor_j93 N y1 γ = some x → kI g A s α ad0 γ ad H locs cells slots → lv_has ls 3 [(1, .int y1), (0, .ref (kad g 5))] → W p l e (kR 23 692 α) s m ([.ref (kad g 5)]).toArray below meth c H locs cells slots (vEQ below (kQ g A α ad0 (kQr x)) ([.ref (kad g 5)]).toArray s A) (F0 m 93 ls []) := by
    intro y1 γ ad H locs cells slots ls h hI hl
    unfold f_Par_takeRecursor_j93 at h
    refine lv_aload_n hx hb d_Par_takeRecursor_93 rfl (lv_at hl 1 rfl) ?_
    refine kf_Par_lexer S E hI.1 vt_115 d_Par_takeRecursor_94 ?_
    refine kg_tV (As := []) (rest := []) (k_Lex_advance (l := l) (g := g) (α := γ) ) S hlocks hno E hI kw_Par_168 ⟨Nat.le_of_ble_eq_true rfl, Nat.le_of_ble_eq_true rfl⟩ (kv_Lex E hI.1) rfl hl.1 rfl (Nat.le_of_ble_eq_true rfl) d_Par_takeRecursor_97 (fun ad H locs cells slots hRm hI => ?_)
    refine lv_aload_n hx hb d_Par_takeRecursor_100 rfl (lv_at hl 1 rfl) ?_
    refine kf_Par_terms S E hI.1 vt_117 d_Par_takeRecursor_101 ?_
    refine lv_iconst (v := 4) hx hb d_Par_takeRecursor_104 (by decide) ?_
    refine lv_iload_n hx hb d_Par_takeRecursor_105 rfl (lv_at hl 0 rfl) ?_
    refine lv_aload_n hx hb d_Par_takeRecursor_106 rfl (lv_at hl 1 rfl) ?_
    refine kg_cI (As := []) (rest := [.int y1, .int 4, .ref (kad g 2)]) h (k_Par_takeSort (l := l) (g := g) (α := (f_Lex_advance γ)) hfl N) S hlocks hno E hI kw_Par_227 ⟨Nat.le_of_ble_eq_true rfl, Nat.le_of_ble_eq_true rfl⟩ (kv_Par E hI.1) rfl hl.1 rfl (Nat.le_of_ble_eq_true rfl) d_Par_takeRecursor_107 (fun v13 α11 ad H locs cells slots e12 h hRm hI => ?_)
    refine kg_cI (As := [.int 4, .int y1, .int v13]) (rest := []) h (k_Terms_make (l := l) (g := g) (α := α11) hfl N 4 y1 v13) S hlocks hno E hI kw_Par_73 ⟨Nat.le_of_ble_eq_true rfl, Nat.le_of_ble_eq_true rfl⟩ (kv_Terms E hI.1) rfl hl.1 rfl (Nat.le_of_ble_eq_true rfl) d_Par_takeRecursor_110 (fun v16 α14 ad H locs cells slots e15 h hRm hI => ?_)
    exact kc_iret (w := v16) hx hb hr rfl hlocks E hI h d_Par_takeRecursor_113
  have J78 : ∀ (y1 : Int32) (γ : kS) (ad : Nat → Nat) (H : Heap) (locs : List Loc) (cells slots : Nat) (ls : Array Slot), f_Par_takeRecursor_j78 N y1 γ = some x → kI g A s α ad0 γ ad H locs cells slots → lv_has ls 3 [(1, .int y1), (0, .ref (kad g 5))] → W p l e (kR 23 692 α) s m ([.ref (kad g 5)]).toArray below meth c H locs cells slots (vEQ below (kQ g A α ad0 (kQr x)) ([.ref (kad g 5)]).toArray s A) (F0 m 78 ls []) := by
    intro y1 γ ad H locs cells slots ls h hI hl
    unfold f_Par_takeRecursor_j78 at h
    refine lv_aload_n hx hb d_Par_takeRecursor_78 rfl (lv_at hl 1 rfl) ?_
    refine kf_Par_meter S E hI.1 vt_116 d_Par_takeRecursor_79 ?_
    refine lv_iconst (v := 2) hx hb d_Par_takeRecursor_82 (by decide) ?_
    refine lv_aload_n hx hb d_Par_takeRecursor_83 rfl (lv_at hl 1 rfl) ?_
    refine kf_Par_lexer S E hI.1 vt_115 d_Par_takeRecursor_84 ?_
    refine kg_p (As := []) (rest := [.int 2, .ref (kad g 1)]) (k_Lex_start (l := l) (g := g) (α := γ) ) S E hI.1 kw_Par_190 ⟨Nat.le_of_ble_eq_true rfl, Nat.le_of_ble_eq_true rfl⟩ hI.room (kv_Lex E hI.1) rfl hl.1 rfl (Nat.le_of_ble_eq_true rfl) d_Par_takeRecursor_87 rfl ?_
    refine kg_cV (As := [.int 2, .int (f_Lex_start γ)]) (rest := []) h (k_Meter_failAt (l := l) (g := g) (α := γ) hfl N 2 (f_Lex_start γ)) S hlocks hno E hI kw_Par_193 ⟨Nat.le_of_ble_eq_true rfl, Nat.le_of_ble_eq_true rfl⟩ (kv_Meter E hI.1) rfl hl.1 rfl (Nat.le_of_ble_eq_true rfl) d_Par_takeRecursor_90 (fun α9 ad H locs cells slots e10 h hRm hI => ?_)
    exact J93 y1 _ _ _ _ _ _ _ h hI (lv_sub hl [0, 1] rfl)
  have J55 : ∀ (y1 : Int32) (t0 : Int32) (γ : kS) (ad : Nat → Nat) (H : Heap) (locs : List Loc) (cells slots : Nat) (ls : Array Slot), f_Par_takeRecursor_j55 N y1 t0 γ = some x → kI g A s α ad0 γ ad H locs cells slots → lv_has ls 3 [(1, .int y1), (0, .ref (kad g 5))] → W p l e (kR 23 692 α) s m ([.ref (kad g 5)]).toArray below meth c H locs cells slots (vEQ below (kQ g A α ad0 (kQr x)) ([.ref (kad g 5)]).toArray s A) (F0 m 55 ls [.int t0]) := by
    intro y1 t0 γ ad H locs cells slots ls h hI hl
    unfold f_Par_takeRecursor_j55 at h
    refine lv_istore_n (lv' := [(2, .int t0), (1, .int y1), (0, .ref (kad g 5))]) hx hb d_Par_takeRecursor_55 rfl hl (by decide) rfl (fun ls hl => ?_)
    refine lv_iload_n hx hb d_Par_takeRecursor_56 rfl (lv_at hl 1 rfl) ?_
    refine lv_iconst (v := (-1)) hx hb d_Par_takeRecursor_57 (by decide) ?_
    refine lv_icmp_eq (tgt := 78) hx hb d_Par_takeRecursor_58 (by decide) (fun c8 => ?_) (fun c8 => ?_)
    · replace h := Eq.trans (if_pos c8).symm h
      exact J78 y1 _ _ _ _ _ _ _ h hI (lv_sub hl [1, 2] rfl)
    · replace h := Eq.trans (if_neg c8).symm h
      refine lv_iload_n hx hb d_Par_takeRecursor_61 rfl (lv_at hl 0 rfl) ?_
      refine lv_if_ne (tgt := 78) hx hb d_Par_takeRecursor_62 (by decide) (fun c17 => ?_) (fun c17 => ?_)
      · replace h := Eq.trans (if_neg c17).symm h
        exact J78 y1 _ _ _ _ _ _ _ h hI (lv_sub hl [1, 2] rfl)
      · replace h := Eq.trans (if_pos c17).symm h
        refine lv_aload_n hx hb d_Par_takeRecursor_65 rfl (lv_at hl 2 rfl) ?_
        refine kf_Par_environment S E hI.1 vt_118 d_Par_takeRecursor_66 ?_
        refine lv_iload_n hx hb d_Par_takeRecursor_69 rfl (lv_at hl 1 rfl) ?_
        refine lv_iconst (v := 0) hx hb d_Par_takeRecursor_70 (by decide) ?_
        refine kg_p (As := [.int y1, .int 0]) (rest := []) (k_Env_fact (l := l) (g := g) (α := γ) y1 0) S E hI.1 kw_Par_243 ⟨Nat.le_of_ble_eq_true rfl, Nat.le_of_ble_eq_true rfl⟩ hI.room (kv_Env E hI.1) rfl hl.1 rfl (Nat.le_of_ble_eq_true rfl) d_Par_takeRecursor_71 rfl ?_
        refine lv_iconst (v := 3) hx hb d_Par_takeRecursor_74 (by decide) ?_
        refine lv_icmp_eq (tgt := 93) hx hb d_Par_takeRecursor_75 (by decide) (fun c18 => ?_) (fun c18 => ?_)
        · replace h := Eq.trans (if_pos c18).symm h
          exact J93 y1 _ _ _ _ _ _ _ h hI (lv_sub hl [1, 2] rfl)
        · replace h := Eq.trans (if_neg c18).symm h
          exact J78 y1 _ _ _ _ _ _ _ h hI (lv_sub hl [1, 2] rfl)
  have J41 : ∀ (t0 : Int32) (γ : kS) (ad : Nat → Nat) (H : Heap) (locs : List Loc) (cells slots : Nat) (ls : Array Slot), f_Par_takeRecursor_j41 N t0 γ = some x → kI g A s α ad0 γ ad H locs cells slots → lv_has ls 3 [(0, .ref (kad g 5))] → W p l e (kR 23 692 α) s m ([.ref (kad g 5)]).toArray below meth c H locs cells slots (vEQ below (kQ g A α ad0 (kQr x)) ([.ref (kad g 5)]).toArray s A) (F0 m 41 ls [.int t0]) := by
    intro t0 γ ad H locs cells slots ls h hI hl
    unfold f_Par_takeRecursor_j41 at h
    refine lv_istore_n (lv' := [(1, .int t0), (0, .ref (kad g 5))]) hx hb d_Par_takeRecursor_41 rfl hl (by decide) rfl (fun ls hl => ?_)
    refine lv_iload_n hx hb d_Par_takeRecursor_42 rfl (lv_at hl 0 rfl) ?_
    refine lv_aload_n hx hb d_Par_takeRecursor_43 rfl (lv_at hl 1 rfl) ?_
    refine kf_Par_constant S E hI.1 vt_333 d_Par_takeRecursor_44 ?_
    refine lv_icmp_ne (tgt := 54) hx hb d_Par_takeRecursor_47 (by decide) (fun c7 => ?_) (fun c7 => ?_)
    · replace h := Eq.trans (if_neg c7).symm h
      refine lv_iconst (v := 0) hx hb d_Par_takeRecursor_54 (by decide) ?_
      exact J55 t0 0 _ _ _ _ _ _ _ h hI (lv_sub hl [0, 1] rfl)
    · replace h := Eq.trans (if_pos c7).symm h
      refine lv_iconst (v := 1) hx hb d_Par_takeRecursor_50 (by decide) ?_
      refine lv_goto (tgt := 55) hx hb d_Par_takeRecursor_51 (by decide) ?_
      exact J55 t0 1 _ _ _ _ _ _ _ h hI (lv_sub hl [0, 1] rfl)
  have J15 : ∀ (γ : kS) (ad : Nat → Nat) (H : Heap) (locs : List Loc) (cells slots : Nat) (ls : Array Slot), f_Par_takeRecursor_j15 N γ = some x → kI g A s α ad0 γ ad H locs cells slots → lv_has ls 3 [(0, .ref (kad g 5))] → W p l e (kR 23 692 α) s m ([.ref (kad g 5)]).toArray below meth c H locs cells slots (vEQ below (kQ g A α ad0 (kQr x)) ([.ref (kad g 5)]).toArray s A) (F0 m 15 ls []) := by
    intro  γ ad H locs cells slots ls h hI hl
    unfold f_Par_takeRecursor_j15 at h
    refine lv_aload_n hx hb d_Par_takeRecursor_15 rfl (lv_at hl 0 rfl) ?_
    obtain ⟨v2, e3, h⟩ := Option.bind_eq_some_iff.mp h
    refine kg_p (As := []) (rest := []) ((k_Par_boundAt (l := l) (g := g) (α := γ) N) _ e3) S E hI.1 kw_Par_240 ⟨Nat.le_of_ble_eq_true rfl, Nat.le_of_ble_eq_true rfl⟩ hI.room (kv_Par E hI.1) rfl hl.1 rfl (Nat.le_of_ble_eq_true rfl) d_Par_takeRecursor_16 rfl ?_
    refine lv_if_lt (tgt := 26) hx hb d_Par_takeRecursor_19 (by decide) (fun c4 => ?_) (fun c4 => ?_)
    · replace h := Eq.trans (if_pos c4).symm h
      refine lv_aload_n hx hb d_Par_takeRecursor_26 rfl (lv_at hl 0 rfl) ?_
      refine kf_Par_environment S E hI.1 vt_118 d_Par_takeRecursor_27 ?_
      refine lv_aload_n hx hb d_Par_takeRecursor_30 rfl (lv_at hl 0 rfl) ?_
      refine kf_Par_lexer S E hI.1 vt_115 d_Par_takeRecursor_31 ?_
      refine lv_aload_n hx hb d_Par_takeRecursor_34 rfl (lv_at hl 0 rfl) ?_
      refine kf_Par_known S E hI.1 vt_332 d_Par_takeRecursor_35 ?_
      obtain ⟨v5, e6, h⟩ := Option.bind_eq_some_iff.mp h
      refine kg_p (As := [.ref (kad g 4), .int (γ.1 18)]) (rest := []) ((k_Env_find (l := l) (g := g) (α := γ) N (γ.1 18)) _ e6) S E hI.1 kw_Par_196 ⟨Nat.le_of_ble_eq_true rfl, Nat.le_of_ble_eq_true rfl⟩ hI.room (kv_Env E hI.1) rfl hl.1 rfl (Nat.le_of_ble_eq_true rfl) d_Par_takeRecursor_38 rfl ?_
      exact J41 v5 _ _ _ _ _ _ _ h hI (lv_sub hl [0] rfl)
    · replace h := Eq.trans (if_neg c4).symm h
      refine lv_iconst (v := (-1)) hx hb d_Par_takeRecursor_22 (by decide) ?_
      refine lv_goto (tgt := 41) hx hb d_Par_takeRecursor_23 (by decide) ?_
      exact J41 (-1) _ _ _ _ _ _ _ h hI (lv_sub hl [0] rfl)
  refine lv_aload_n hx hb d_Par_takeRecursor_0 rfl (lv_at hl 0 rfl) ?_
  refine kf_Par_lexer S E hI.1 vt_115 d_Par_takeRecursor_1 ?_
  refine kg_p (As := []) (rest := []) (k_Lex_kind (l := l) (g := g) (α := α) ) S E hI.1 kw_Par_160 ⟨Nat.le_of_ble_eq_true rfl, Nat.le_of_ble_eq_true rfl⟩ hI.room (kv_Lex E hI.1) rfl hl.1 rfl (Nat.le_of_ble_eq_true rfl) d_Par_takeRecursor_4 rfl ?_
  refine lv_iconst (v := 2) hx hb d_Par_takeRecursor_7 (by decide) ?_
  refine lv_icmp_eq (tgt := 15) hx hb d_Par_takeRecursor_8 (by decide) (fun c1 => ?_) (fun c1 => ?_)
  · replace h := Eq.trans (if_pos c1).symm h
    exact J15  _ _ _ _ _ _ _ h hI (lv_sub hl [0] rfl)
  · replace h := Eq.trans (if_neg c1).symm h
    refine lv_aload_n hx hb d_Par_takeRecursor_11 rfl (lv_at hl 0 rfl) ?_
    refine kg_cV (As := []) (rest := []) h (k_Par_refuse (l := l) (g := g) (α := α) hfl N) S hlocks hno E hI kw_Par_165 ⟨Nat.le_of_ble_eq_true rfl, Nat.le_of_ble_eq_true rfl⟩ (kv_Par E hI.1) rfl hl.1 rfl (Nat.le_of_ble_eq_true rfl) d_Par_takeRecursor_12 (fun α19 ad H locs cells slots e20 h hRm hI => ?_)
    exact J15  _ _ _ _ _ _ _ h hI (lv_sub hl [0] rfl)
def f_Par_held (a1 : Int32) (α : kS) : Int32 := (fR_at α 8 (((fR_size α 8) - 3) + a1))
set_option maxHeartbeats 4000000 in
set_option maxRecDepth 100000 in
theorem k_Par_held {l : Launch} {g : kG} {α : kS} (a1 : Int32)  : kV l g y_Par_held b_Par_held 2 (some .int) 11 321 [.ref (kad g 5), .int a1] α (f_Par_held a1 α) := by
  generalize h : f_Par_held a1 α = x
  unfold f_Par_held at h
  refine kv_ofW (by decide) (fun A ad p e s m args below meth c S hr hlocks hargs E hJ => ?_)
  have hx := S.1
  have hb := S.2.1
  have hown := S.2.2.2.1
  have hT := S.2.2.2.2
  subst hargs
  have hl := lv_entry ([.ref (kad g 5), .int a1]) (n := 2) (Nat.le_of_ble_eq_true rfl)
  rw [lg_entry_eq]
  generalize (lg_sl ([.ref (kad g 5), .int a1]) ++ List.replicate (2 - (lg_sl ([.ref (kad g 5), .int a1])).length) Slot.unset).toArray = ls at hl ⊢
  have hl : lv_has ls 2 [(0, .ref (kad g 5)), (1, .int a1)] := hl
  refine lv_aload_n hx hb d_Par_held_0 rfl (lv_at hl 0 rfl) ?_
  refine kf_Par_open S E hJ vt_122 d_Par_held_1 ?_
  refine lv_aload_n hx hb d_Par_held_4 rfl (lv_at hl 0 rfl) ?_
  refine kf_Par_open S E hJ vt_122 d_Par_held_5 ?_
  refine kg_p (As := []) (rest := [.ref (kad g (11 + 8))]) (k_Row_size (l := l) (g := g) (α := α) (r := 8) (by decide)) S E hJ kw_Par_65 ⟨Nat.le_of_ble_eq_true rfl, Nat.le_of_ble_eq_true rfl⟩ ⟨Nat.le_refl _, Nat.le_refl _⟩ (kv_Row (r := 8) (by decide) E hJ) rfl hl.1 rfl (Nat.le_of_ble_eq_true rfl) d_Par_held_8 rfl ?_
  refine lv_iconst (v := 3) hx hb d_Par_held_11 (by decide) ?_
  refine lv_isub hx hb d_Par_held_12 ?_
  refine lv_iload_n hx hb d_Par_held_13 rfl (lv_at hl 1 rfl) ?_
  refine lv_iadd hx hb d_Par_held_14 ?_
  refine kg_p (As := [.int (((fR_size α 8) - 3) + a1)]) (rest := []) (k_Row_at (l := l) (g := g) (α := α) (r := 8) (by decide) (((fR_size α 8) - 3) + a1)) S E hJ kw_Par_69 ⟨Nat.le_of_ble_eq_true rfl, Nat.le_of_ble_eq_true rfl⟩ ⟨Nat.le_refl _, Nat.le_refl _⟩ (kv_Row (r := 8) (by decide) E hJ) rfl hl.1 rfl (Nat.le_of_ble_eq_true rfl) d_Par_held_15 rfl ?_
  exact kv_iret (w := (fR_at α 8 (((fR_size α 8) - 3) + a1))) hx hb hr rfl hlocks h d_Par_held_18
theorem kw_Par_213 : kWv "FamilyKernel$Parser" 213 "FamilyKernel$Parser" y_Par_held b_Par_held 2 (some .int) 1 := ⟨vt_586, vt_587, vt_588, vt_40, vt_589, by decide, by decide, by decide +kernel⟩
def f_Par_beWhole (a1 : Int32) (α : kS) : kS := (kSi (kSi α 15 a1) 13 (f_Par_held 0 (kSi α 15 a1)))
set_option maxHeartbeats 4000000 in
set_option maxRecDepth 100000 in
theorem k_Par_beWhole {l : Launch} {g : kG} {α : kS} (a1 : Int32)  : kC l g y_Par_beWhole b_Par_beWhole 2 none 12 342 [.ref (kad g 5), .int a1] α (kQr (some none, f_Par_beWhole a1 α)) := by
  generalize h : f_Par_beWhole a1 α = x
  unfold f_Par_beWhole at h
  refine kc_ofW (by decide) (fun A ad0 p e s m args below meth c S hr hlocks hno hadm hargs E hI => ?_)
  have hx := S.1
  have hb := S.2.1
  have hown := S.2.2.2.1
  have hT := S.2.2.2.2
  subst hargs
  have hl := lv_entry ([.ref (kad g 5), .int a1]) (n := 2) (Nat.le_of_ble_eq_true rfl)
  rw [lg_entry_eq]
  generalize (lg_sl ([.ref (kad g 5), .int a1]) ++ List.replicate (2 - (lg_sl ([.ref (kad g 5), .int a1])).length) Slot.unset).toArray = ls at hl ⊢
  have hl : lv_has ls 2 [(0, .ref (kad g 5)), (1, .int a1)] := hl
  refine lv_aload_n hx hb d_Par_beWhole_0 rfl (lv_at hl 0 rfl) ?_
  refine lv_iload_n hx hb d_Par_beWhole_1 rfl (lv_at hl 1 rfl) ?_
  refine kp_Par_current S E hI vt_496 d_Par_beWhole_2 (fun H locs hI => ?_)
  refine lv_aload_n hx hb d_Par_beWhole_5 rfl (lv_at hl 0 rfl) ?_
  refine lv_aload_n hx hb d_Par_beWhole_6 rfl (lv_at hl 0 rfl) ?_
  refine lv_iconst (v := 0) hx hb d_Par_beWhole_7 (by decide) ?_
  refine kg_p (As := [.int 0]) (rest := [.ref (kad g 5)]) (k_Par_held (l := l) (g := g) (α := (kSi α 15 a1)) 0) S E hI.1 kw_Par_213 ⟨Nat.le_of_ble_eq_true rfl, Nat.le_of_ble_eq_true rfl⟩ hI.room (kv_Par E hI.1) rfl hl.1 rfl (Nat.le_of_ble_eq_true rfl) d_Par_beWhole_8 rfl ?_
  refine kp_Par_state S E hI vt_340 d_Par_beWhole_11 (fun H locs hI => ?_)
  exact kc_vret hx hb hr hlocks E hI (by rw [← h]) d_Par_beWhole_14
theorem kw_Par_224 : kWv "FamilyKernel$Parser" 224 "FamilyKernel$Parser" y_Par_apply b_Par_apply 2 none 1 := ⟨vt_509, vt_510, vt_511, vt_40, vt_512, by decide, by decide, by decide +kernel⟩
theorem kw_Par_233 : kWv "FamilyKernel$Parser" 233 "FamilyKernel$Parser" y_Par_beWhole b_Par_beWhole 2 none 1 := ⟨vt_525, vt_526, vt_527, vt_40, vt_528, by decide, by decide, by decide +kernel⟩
theorem kw_Par_230 : kWv "FamilyKernel$Parser" 230 "FamilyKernel$Parser" y_Par_takeRecursor b_Par_takeRecursor 3 (some .int) 0 := ⟨vt_521, vt_522, vt_523, vt_40, vt_524, by decide, by decide, by decide +kernel⟩
theorem kw_Par_221 : kWv "FamilyKernel$Parser" 221 "FamilyKernel$Parser" y_Par_resolve b_Par_resolve 3 (some .int) 0 := ⟨vt_505, vt_506, vt_507, vt_40, vt_508, by decide, by decide, by decide +kernel⟩
def f_Par_takeAtom_j36 (N : Nat)  (γ : kS) : Option (kO × kS) := kBi (f_Par_takeSort N γ) fun v5 α3 => (kBi (f_Terms_make N 2 v5 0 α3) fun v8 α6 => (kBv (f_Par_apply N v8 α6) fun α9 => (some (some none, α9))))
def f_Par_takeAtom (N : Nat)  (α : kS) : Option (kO × kS) := if (f_Lex_kind α) = 2 then (kBi (f_Par_resolve N α) fun v31 α29 => (kBv (f_Par_apply N v31 α29) fun α32 => (some (some none, α32)))) else (if (f_Lex_kind α) = 14 then (f_Par_takeAtom_j36 N  α) else (if (f_Lex_kind α) = 15 then (f_Par_takeAtom_j36 N  α) else (if (f_Lex_kind α) = 16 then (kBi (f_Par_takeRecursor N (f_Lex_advance α)) fun v26 α24 => (kBv (f_Par_apply N v26 α24) fun α27 => (some (some none, α27)))) else (if (f_Lex_kind α) = 17 then (kBv (f_Par_nest N 5 ((f_Lex_advance α).1 15) 0 (f_Lex_advance α)) fun α22 => (some (some none, α22))) else (if (α.1 15) = (-1) then (kBv (f_Par_refuse N α) fun α20 => (some (some none, α20))) else (if (f_Lex_kind α) = 27 then (kBv (fR_push (f_Lex_advance α) 9 (-1)) fun α16 => (kBv (f_Par_nest N 6 (α16.1 15) 0 α16) fun α18 => (some (some none, α18)))) else (some (some none, (f_Par_beWhole (α.1 15) α)))))))))
set_option maxHeartbeats 4000000 in
set_option maxRecDepth 100000 in
theorem k_Par_takeAtom {l : Launch} {g : kG} {α : kS} (hfl : kFl l) (N : Nat)   : ∀ x, f_Par_takeAtom N α = some x → kC l g y_Par_takeAtom b_Par_takeAtom 2 none 34 990 [.ref (kad g 5)] α (kQr x) := by
  intro x h
  unfold f_Par_takeAtom at h
  refine kc_ofW (by decide) (fun A ad0 p e s m args below meth c S hr hlocks hno hadm hargs E hI => ?_)
  have hx := S.1
  have hb := S.2.1
  have hown := S.2.2.2.1
  have hT := S.2.2.2.2
  subst hargs
  have hl := lv_entry ([.ref (kad g 5)]) (n := 2) (Nat.le_of_ble_eq_true rfl)
  rw [lg_entry_eq]
  generalize (lg_sl ([.ref (kad g 5)]) ++ List.replicate (2 - (lg_sl ([.ref (kad g 5)])).length) Slot.unset).toArray = ls at hl ⊢
  have hl : lv_has ls 2 [(0, .ref (kad g 5))] := hl
  have J36 : ∀ (γ : kS) (ad : Nat → Nat) (H : Heap) (locs : List Loc) (cells slots : Nat) (ls : Array Slot), f_Par_takeAtom_j36 N γ = some x → kI g A s α ad0 γ ad H locs cells slots → lv_has ls 2 [(0, .ref (kad g 5))] → W p l e (kR 34 990 α) s m ([.ref (kad g 5)]).toArray below meth c H locs cells slots (vEQ below (kQ g A α ad0 (kQr x)) ([.ref (kad g 5)]).toArray s A) (F0 m 36 ls []) := by
    intro  γ ad H locs cells slots ls h hI hl
    unfold f_Par_takeAtom_j36 at h
    refine lv_aload_n hx hb d_Par_takeAtom_36 rfl (lv_at hl 0 rfl) ?_
    refine lv_aload_n hx hb d_Par_takeAtom_37 rfl (lv_at hl 0 rfl) ?_
    refine kf_Par_terms S E hI.1 vt_117 d_Par_takeAtom_38 ?_
    refine lv_iconst (v := 2) hx hb d_Par_takeAtom_41 (by decide) ?_
    refine lv_aload_n hx hb d_Par_takeAtom_42 rfl (lv_at hl 0 rfl) ?_
    refine kg_cI (As := []) (rest := [.int 2, .ref (kad g 2), .ref (kad g 5)]) h (k_Par_takeSort (l := l) (g := g) (α := γ) hfl N) S hlocks hno E hI kw_Par_227 ⟨Nat.le_of_ble_eq_true rfl, Nat.le_of_ble_eq_true rfl⟩ (kv_Par E hI.1) rfl hl.1 rfl (Nat.le_of_ble_eq_true rfl) d_Par_takeAtom_43 (fun v5 α3 ad H locs cells slots e4 h hRm hI => ?_)
    refine lv_iconst (v := 0) hx hb d_Par_takeAtom_46 (by decide) ?_
    refine kg_cI (As := [.int 2, .int v5, .int 0]) (rest := [.ref (kad g 5)]) h (k_Terms_make (l := l) (g := g) (α := α3) hfl N 2 v5 0) S hlocks hno E hI kw_Par_73 ⟨Nat.le_of_ble_eq_true rfl, Nat.le_of_ble_eq_true rfl⟩ (kv_Terms E hI.1) rfl hl.1 rfl (Nat.le_of_ble_eq_true rfl) d_Par_takeAtom_47 (fun v8 α6 ad H locs cells slots e7 h hRm hI => ?_)
    refine kg_cV (As := [.int v8]) (rest := []) h (k_Par_apply (l := l) (g := g) (α := α6) hfl N v8) S hlocks hno E hI kw_Par_224 ⟨Nat.le_of_ble_eq_true rfl, Nat.le_of_ble_eq_true rfl⟩ (kv_Par E hI.1) rfl hl.1 rfl (Nat.le_of_ble_eq_true rfl) d_Par_takeAtom_50 (fun α9 ad H locs cells slots e10 h hRm hI => ?_)
    refine lv_goto (tgt := 164) hx hb d_Par_takeAtom_53 (by decide) ?_
    exact kc_vret hx hb hr hlocks E hI h d_Par_takeAtom_164
  refine lv_aload_n hx hb d_Par_takeAtom_0 rfl (lv_at hl 0 rfl) ?_
  refine kf_Par_lexer S E hI.1 vt_115 d_Par_takeAtom_1 ?_
  refine kg_p (As := []) (rest := []) (k_Lex_kind (l := l) (g := g) (α := α) ) S E hI.1 kw_Par_160 ⟨Nat.le_of_ble_eq_true rfl, Nat.le_of_ble_eq_true rfl⟩ hI.room (kv_Lex E hI.1) rfl hl.1 rfl (Nat.le_of_ble_eq_true rfl) d_Par_takeAtom_4 rfl ?_
  refine lv_istore_n (lv' := [(1, .int (f_Lex_kind α)), (0, .ref (kad g 5))]) hx hb d_Par_takeAtom_7 rfl hl (by decide) rfl (fun ls hl => ?_)
  refine lv_iload_n hx hb d_Par_takeAtom_8 rfl (lv_at hl 0 rfl) ?_
  refine lv_iconst (v := 2) hx hb d_Par_takeAtom_9 (by decide) ?_
  refine lv_icmp_ne (tgt := 24) hx hb d_Par_takeAtom_10 (by decide) (fun c1 => ?_) (fun c1 => ?_)
  · replace h := Eq.trans (if_neg c1).symm h
    refine lv_iload_n hx hb d_Par_takeAtom_24 rfl (lv_at hl 0 rfl) ?_
    refine lv_bipush (v := 14) hx hb d_Par_takeAtom_25 (by decide) ?_
    refine lv_icmp_eq (tgt := 36) hx hb d_Par_takeAtom_27 (by decide) (fun c2 => ?_) (fun c2 => ?_)
    · replace h := Eq.trans (if_pos c2).symm h
      exact J36  _ _ _ _ _ _ _ h hI (lv_sub hl [1] rfl)
    · replace h := Eq.trans (if_neg c2).symm h
      refine lv_iload_n hx hb d_Par_takeAtom_30 rfl (lv_at hl 0 rfl) ?_
      refine lv_bipush (v := 15) hx hb d_Par_takeAtom_31 (by decide) ?_
      refine lv_icmp_ne (tgt := 56) hx hb d_Par_takeAtom_33 (by decide) (fun c11 => ?_) (fun c11 => ?_)
      · replace h := Eq.trans (if_neg c11).symm h
        refine lv_iload_n hx hb d_Par_takeAtom_56 rfl (lv_at hl 0 rfl) ?_
        refine lv_bipush (v := 16) hx hb d_Par_takeAtom_57 (by decide) ?_
        refine lv_icmp_ne (tgt := 80) hx hb d_Par_takeAtom_59 (by decide) (fun c12 => ?_) (fun c12 => ?_)
        · replace h := Eq.trans (if_neg c12).symm h
          refine lv_iload_n hx hb d_Par_takeAtom_80 rfl (lv_at hl 0 rfl) ?_
          refine lv_bipush (v := 17) hx hb d_Par_takeAtom_81 (by decide) ?_
          refine lv_icmp_ne (tgt := 106) hx hb d_Par_takeAtom_83 (by decide) (fun c13 => ?_) (fun c13 => ?_)
          · replace h := Eq.trans (if_neg c13).symm h
            refine lv_aload_n hx hb d_Par_takeAtom_106 rfl (lv_at hl 1 rfl) ?_
            refine kf_Par_current S E hI.1 vt_496 d_Par_takeAtom_107 ?_
            refine lv_iconst (v := (-1)) hx hb d_Par_takeAtom_110 (by decide) ?_
            refine lv_icmp_ne (tgt := 121) hx hb d_Par_takeAtom_111 (by decide) (fun c14 => ?_) (fun c14 => ?_)
            · replace h := Eq.trans (if_neg c14).symm h
              refine lv_iload_n hx hb d_Par_takeAtom_121 rfl (lv_at hl 0 rfl) ?_
              refine lv_bipush (v := 27) hx hb d_Par_takeAtom_122 (by decide) ?_
              refine lv_icmp_ne (tgt := 156) hx hb d_Par_takeAtom_124 (by decide) (fun c15 => ?_) (fun c15 => ?_)
              · replace h := Eq.trans (if_neg c15).symm h
                refine lv_aload_n hx hb d_Par_takeAtom_156 rfl (lv_at hl 1 rfl) ?_
                refine lv_aload_n hx hb d_Par_takeAtom_157 rfl (lv_at hl 1 rfl) ?_
                refine kf_Par_current S E hI.1 vt_496 d_Par_takeAtom_158 ?_
                refine kg_tV (As := [.int (α.1 15)]) (rest := []) (k_Par_beWhole (l := l) (g := g) (α := α) (α.1 15)) S hlocks hno E hI kw_Par_233 ⟨Nat.le_of_ble_eq_true rfl, Nat.le_of_ble_eq_true rfl⟩ (kv_Par E hI.1) rfl hl.1 rfl (Nat.le_of_ble_eq_true rfl) d_Par_takeAtom_161 (fun ad H locs cells slots hRm hI => ?_)
                exact kc_vret hx hb hr hlocks E hI h d_Par_takeAtom_164
              · replace h := Eq.trans (if_pos c15).symm h
                refine lv_aload_n hx hb d_Par_takeAtom_127 rfl (lv_at hl 1 rfl) ?_
                refine kf_Par_lexer S E hI.1 vt_115 d_Par_takeAtom_128 ?_
                refine kg_tV (As := []) (rest := []) (k_Lex_advance (l := l) (g := g) (α := α) ) S hlocks hno E hI kw_Par_168 ⟨Nat.le_of_ble_eq_true rfl, Nat.le_of_ble_eq_true rfl⟩ (kv_Lex E hI.1) rfl hl.1 rfl (Nat.le_of_ble_eq_true rfl) d_Par_takeAtom_131 (fun ad H locs cells slots hRm hI => ?_)
                refine lv_aload_n hx hb d_Par_takeAtom_134 rfl (lv_at hl 1 rfl) ?_
                refine kf_Par_scope S E hI.1 vt_123 d_Par_takeAtom_135 ?_
                refine lv_iconst (v := (-1)) hx hb d_Par_takeAtom_138 (by decide) ?_
                refine kg_cV (As := [.int (-1)]) (rest := []) h (k_Row_push (l := l) (g := g) (α := (f_Lex_advance α)) (r := 9) (by decide) (-1)) S hlocks hno E hI kw_Par_204 ⟨Nat.le_of_ble_eq_true rfl, Nat.le_of_ble_eq_true rfl⟩ (kv_Row (r := 9) (by decide) E hI.1) rfl hl.1 rfl (Nat.le_of_ble_eq_true rfl) d_Par_takeAtom_139 (fun α16 ad H locs cells slots e17 h hRm hI => ?_)
                refine lv_aload_n hx hb d_Par_takeAtom_142 rfl (lv_at hl 1 rfl) ?_
                refine lv_bipush (v := 6) hx hb d_Par_takeAtom_143 (by decide) ?_
                refine lv_aload_n hx hb d_Par_takeAtom_145 rfl (lv_at hl 1 rfl) ?_
                refine kf_Par_current S E hI.1 vt_496 d_Par_takeAtom_146 ?_
                refine lv_iconst (v := 0) hx hb d_Par_takeAtom_149 (by decide) ?_
                refine kg_cV (As := [.int 6, .int (α16.1 15), .int 0]) (rest := []) h (k_Par_nest (l := l) (g := g) (α := α16) hfl N 6 (α16.1 15) 0) S hlocks hno E hI kw_Par_219 ⟨Nat.le_of_ble_eq_true rfl, Nat.le_of_ble_eq_true rfl⟩ (kv_Par E hI.1) rfl hl.1 rfl (Nat.le_of_ble_eq_true rfl) d_Par_takeAtom_150 (fun α18 ad H locs cells slots e19 h hRm hI => ?_)
                refine lv_goto (tgt := 164) hx hb d_Par_takeAtom_153 (by decide) ?_
                exact kc_vret hx hb hr hlocks E hI h d_Par_takeAtom_164
            · replace h := Eq.trans (if_pos c14).symm h
              refine lv_aload_n hx hb d_Par_takeAtom_114 rfl (lv_at hl 1 rfl) ?_
              refine kg_cV (As := []) (rest := []) h (k_Par_refuse (l := l) (g := g) (α := α) hfl N) S hlocks hno E hI kw_Par_165 ⟨Nat.le_of_ble_eq_true rfl, Nat.le_of_ble_eq_true rfl⟩ (kv_Par E hI.1) rfl hl.1 rfl (Nat.le_of_ble_eq_true rfl) d_Par_takeAtom_115 (fun α20 ad H locs cells slots e21 h hRm hI => ?_)
              refine lv_goto (tgt := 164) hx hb d_Par_takeAtom_118 (by decide) ?_
              exact kc_vret hx hb hr hlocks E hI h d_Par_takeAtom_164
          · replace h := Eq.trans (if_pos c13).symm h
            refine lv_aload_n hx hb d_Par_takeAtom_86 rfl (lv_at hl 1 rfl) ?_
            refine kf_Par_lexer S E hI.1 vt_115 d_Par_takeAtom_87 ?_
            refine kg_tV (As := []) (rest := []) (k_Lex_advance (l := l) (g := g) (α := α) ) S hlocks hno E hI kw_Par_168 ⟨Nat.le_of_ble_eq_true rfl, Nat.le_of_ble_eq_true rfl⟩ (kv_Lex E hI.1) rfl hl.1 rfl (Nat.le_of_ble_eq_true rfl) d_Par_takeAtom_90 (fun ad H locs cells slots hRm hI => ?_)
            refine lv_aload_n hx hb d_Par_takeAtom_93 rfl (lv_at hl 1 rfl) ?_
            refine lv_iconst (v := 5) hx hb d_Par_takeAtom_94 (by decide) ?_
            refine lv_aload_n hx hb d_Par_takeAtom_95 rfl (lv_at hl 1 rfl) ?_
            refine kf_Par_current S E hI.1 vt_496 d_Par_takeAtom_96 ?_
            refine lv_iconst (v := 0) hx hb d_Par_takeAtom_99 (by decide) ?_
            refine kg_cV (As := [.int 5, .int ((f_Lex_advance α).1 15), .int 0]) (rest := []) h (k_Par_nest (l := l) (g := g) (α := (f_Lex_advance α)) hfl N 5 ((f_Lex_advance α).1 15) 0) S hlocks hno E hI kw_Par_219 ⟨Nat.le_of_ble_eq_true rfl, Nat.le_of_ble_eq_true rfl⟩ (kv_Par E hI.1) rfl hl.1 rfl (Nat.le_of_ble_eq_true rfl) d_Par_takeAtom_100 (fun α22 ad H locs cells slots e23 h hRm hI => ?_)
            refine lv_goto (tgt := 164) hx hb d_Par_takeAtom_103 (by decide) ?_
            exact kc_vret hx hb hr hlocks E hI h d_Par_takeAtom_164
        · replace h := Eq.trans (if_pos c12).symm h
          refine lv_aload_n hx hb d_Par_takeAtom_62 rfl (lv_at hl 1 rfl) ?_
          refine kf_Par_lexer S E hI.1 vt_115 d_Par_takeAtom_63 ?_
          refine kg_tV (As := []) (rest := []) (k_Lex_advance (l := l) (g := g) (α := α) ) S hlocks hno E hI kw_Par_168 ⟨Nat.le_of_ble_eq_true rfl, Nat.le_of_ble_eq_true rfl⟩ (kv_Lex E hI.1) rfl hl.1 rfl (Nat.le_of_ble_eq_true rfl) d_Par_takeAtom_66 (fun ad H locs cells slots hRm hI => ?_)
          refine lv_aload_n hx hb d_Par_takeAtom_69 rfl (lv_at hl 1 rfl) ?_
          refine lv_aload_n hx hb d_Par_takeAtom_70 rfl (lv_at hl 1 rfl) ?_
          refine kg_cI (As := []) (rest := [.ref (kad g 5)]) h (k_Par_takeRecursor (l := l) (g := g) (α := (f_Lex_advance α)) hfl N) S hlocks hno E hI kw_Par_230 ⟨Nat.le_of_ble_eq_true rfl, Nat.le_of_ble_eq_true rfl⟩ (kv_Par E hI.1) rfl hl.1 rfl (Nat.le_of_ble_eq_true rfl) d_Par_takeAtom_71 (fun v26 α24 ad H locs cells slots e25 h hRm hI => ?_)
          refine kg_cV (As := [.int v26]) (rest := []) h (k_Par_apply (l := l) (g := g) (α := α24) hfl N v26) S hlocks hno E hI kw_Par_224 ⟨Nat.le_of_ble_eq_true rfl, Nat.le_of_ble_eq_true rfl⟩ (kv_Par E hI.1) rfl hl.1 rfl (Nat.le_of_ble_eq_true rfl) d_Par_takeAtom_74 (fun α27 ad H locs cells slots e28 h hRm hI => ?_)
          refine lv_goto (tgt := 164) hx hb d_Par_takeAtom_77 (by decide) ?_
          exact kc_vret hx hb hr hlocks E hI h d_Par_takeAtom_164
      · replace h := Eq.trans (if_pos c11).symm h
        exact J36  _ _ _ _ _ _ _ h hI (lv_sub hl [1] rfl)
  · replace h := Eq.trans (if_pos c1).symm h
    refine lv_aload_n hx hb d_Par_takeAtom_13 rfl (lv_at hl 1 rfl) ?_
    refine lv_aload_n hx hb d_Par_takeAtom_14 rfl (lv_at hl 1 rfl) ?_
    refine kg_cI (As := []) (rest := [.ref (kad g 5)]) h (k_Par_resolve (l := l) (g := g) (α := α) hfl N) S hlocks hno E hI kw_Par_221 ⟨Nat.le_of_ble_eq_true rfl, Nat.le_of_ble_eq_true rfl⟩ (kv_Par E hI.1) rfl hl.1 rfl (Nat.le_of_ble_eq_true rfl) d_Par_takeAtom_15 (fun v31 α29 ad H locs cells slots e30 h hRm hI => ?_)
    refine kg_cV (As := [.int v31]) (rest := []) h (k_Par_apply (l := l) (g := g) (α := α29) hfl N v31) S hlocks hno E hI kw_Par_224 ⟨Nat.le_of_ble_eq_true rfl, Nat.le_of_ble_eq_true rfl⟩ (kv_Par E hI.1) rfl hl.1 rfl (Nat.le_of_ble_eq_true rfl) d_Par_takeAtom_18 (fun α32 ad H locs cells slots e33 h hRm hI => ?_)
    refine lv_goto (tgt := 164) hx hb d_Par_takeAtom_21 (by decide) ?_
    exact kc_vret hx hb hr hlocks E hI h d_Par_takeAtom_164
def f_Par_startGroup_j102 (N : Nat)  (y1 : Int32) (γ : kS) : Option (kO × kS) := kBv (f_Par_expect N 21 γ) fun α4 => (kBv (f_Par_nest N 7 y1 0 α4) fun α6 => (some (some none, α6)))
def f_Par_startGroup_j75 (N : Nat)  (k8 : Int32 → kS → Option (kO × kS)) (y1 : Int32) (γ : kS) : Option (kO × kS) := kBv (fR_push γ 10 (f_Lex_word γ)) fun α11 => (k8 (y1 + 1) (f_Lex_advance α11))
def f_Par_startGroup_j45 (N : Nat)  (k8 : Int32 → kS → Option (kO × kS)) (y1 : Int32) (γ : kS) : Option (kO × kS) := if ((fR_size γ 9) + (fR_size γ 10)) < 3000 then (f_Par_startGroup_j75 N k8 y1 γ) else (kBv (f_Meter_fail N 10 γ) fun α13 => (f_Par_startGroup_j75 N k8 y1 α13))
def f_Par_startGroup_j30 (N : Nat)  (k8 : Int32 → kS → Option (kO × kS)) (y1 : Int32) (γ : kS) : Option (kO × kS) := if (f_Lex_kind γ) = 2 then (f_Par_startGroup_j45 N k8 y1 γ) else (kBv (f_Par_refuse N γ) fun α15 => (f_Par_startGroup_j45 N k8 y1 α15))
def f_Par_startGroup_8 (N : Nat)  : Nat → Int32 → kS → Option (kO × kS)
  | 0, _, _ => none
  | n + 1, x1, β => if 3000 < x1 then (f_Par_startGroup_j102 N x1 β) else (if x1 = 0 then (f_Par_startGroup_j30 N (f_Par_startGroup_8 N n) x1 β) else (if (f_Lex_kind β) = 2 then (f_Par_startGroup_j30 N (f_Par_startGroup_8 N n) x1 β) else (f_Par_startGroup_j102 N x1 β)))
def f_Par_startGroup (N : Nat)  (α : kS) : Option (kO × kS) := kBv (f_Par_expect N 17 α) fun α1 => (f_Par_startGroup_8 N N 0 α1)
set_option maxHeartbeats 4000000 in
set_option maxRecDepth 100000 in
theorem k_Par_startGroup {l : Launch} {g : kG} {α : kS} (hfl : kFl l) (N : Nat)   : ∀ x, f_Par_startGroup N α = some x → kC l g y_Par_startGroup b_Par_startGroup 2 none 34 990 [.ref (kad g 5)] α (kQr x) := by
  intro x h
  unfold f_Par_startGroup at h
  refine kc_ofW (by decide) (fun A ad0 p e s m args below meth c S hr hlocks hno hadm hargs E hI => ?_)
  have hx := S.1
  have hb := S.2.1
  have hown := S.2.2.2.1
  have hT := S.2.2.2.2
  subst hargs
  have hl := lv_entry ([.ref (kad g 5)]) (n := 2) (Nat.le_of_ble_eq_true rfl)
  rw [lg_entry_eq]
  generalize (lg_sl ([.ref (kad g 5)]) ++ List.replicate (2 - (lg_sl ([.ref (kad g 5)])).length) Slot.unset).toArray = ls at hl ⊢
  have hl : lv_has ls 2 [(0, .ref (kad g 5))] := hl
  refine lv_aload_n hx hb d_Par_startGroup_0 rfl (lv_at hl 0 rfl) ?_
  refine lv_bipush (v := 17) hx hb d_Par_startGroup_1 (by decide) ?_
  refine kg_cV (As := [.int 17]) (rest := []) h (k_Par_expect (l := l) (g := g) (α := α) hfl N 17) S hlocks hno E hI kw_Par_184 ⟨Nat.le_of_ble_eq_true rfl, Nat.le_of_ble_eq_true rfl⟩ (kv_Par E hI.1) rfl hl.1 rfl (Nat.le_of_ble_eq_true rfl) d_Par_startGroup_3 (fun α1 ad H locs cells slots e2 h hRm hI => ?_)
  refine lv_iconst (v := 0) hx hb d_Par_startGroup_6 (by decide) ?_
  refine lv_istore_n (lv' := [(1, .int 0), (0, .ref (kad g 5))]) hx hb d_Par_startGroup_7 rfl hl (by decide) rfl (fun ls hl => ?_)
  have L8 : ∀ (n8 : Nat) (x1 : Int32) (β : kS) (ad : Nat → Nat) (H : Heap) (locs : List Loc) (cells slots : Nat) (ls : Array Slot), f_Par_startGroup_8 N n8 x1 β = some x → kI g A s α ad0 β ad H locs cells slots → lv_has ls 2 [(1, .int x1), (0, .ref (kad g 5))] → W p l e (kR 34 990 α) s m ([.ref (kad g 5)]).toArray below meth c H locs cells slots (vEQ below (kQ g A α ad0 (kQr x)) ([.ref (kad g 5)]).toArray s A) (F0 m 8 ls []) := by
    intro n8
    induction n8 with
    | zero => intro x1 β ad H locs cells slots ls h hI hl; rw [f_Par_startGroup_8] at h; cases h
    | succ n8 ih8 =>
      intro x1 β ad H locs cells slots ls h hI hl
      rw [f_Par_startGroup_8] at h
      have J102 : ∀ (y1 : Int32) (γ : kS) (ad : Nat → Nat) (H : Heap) (locs : List Loc) (cells slots : Nat) (ls : Array Slot), f_Par_startGroup_j102 N y1 γ = some x → kI g A s α ad0 γ ad H locs cells slots → lv_has ls 2 [(1, .int y1), (0, .ref (kad g 5))] → W p l e (kR 34 990 α) s m ([.ref (kad g 5)]).toArray below meth c H locs cells slots (vEQ below (kQ g A α ad0 (kQr x)) ([.ref (kad g 5)]).toArray s A) (F0 m 102 ls []) := by
        intro y1 γ ad H locs cells slots ls h hI hl
        unfold f_Par_startGroup_j102 at h
        refine lv_aload_n hx hb d_Par_startGroup_102 rfl (lv_at hl 1 rfl) ?_
        refine lv_bipush (v := 21) hx hb d_Par_startGroup_103 (by decide) ?_
        refine kg_cV (As := [.int 21]) (rest := []) h (k_Par_expect (l := l) (g := g) (α := γ) hfl N 21) S hlocks hno E hI kw_Par_184 ⟨Nat.le_of_ble_eq_true rfl, Nat.le_of_ble_eq_true rfl⟩ (kv_Par E hI.1) rfl hl.1 rfl (Nat.le_of_ble_eq_true rfl) d_Par_startGroup_105 (fun α4 ad H locs cells slots e5 h hRm hI => ?_)
        refine lv_aload_n hx hb d_Par_startGroup_108 rfl (lv_at hl 1 rfl) ?_
        refine lv_bipush (v := 7) hx hb d_Par_startGroup_109 (by decide) ?_
        refine lv_iload_n hx hb d_Par_startGroup_111 rfl (lv_at hl 0 rfl) ?_
        refine lv_iconst (v := 0) hx hb d_Par_startGroup_112 (by decide) ?_
        refine kg_cV (As := [.int 7, .int y1, .int 0]) (rest := []) h (k_Par_nest (l := l) (g := g) (α := α4) hfl N 7 y1 0) S hlocks hno E hI kw_Par_219 ⟨Nat.le_of_ble_eq_true rfl, Nat.le_of_ble_eq_true rfl⟩ (kv_Par E hI.1) rfl hl.1 rfl (Nat.le_of_ble_eq_true rfl) d_Par_startGroup_113 (fun α6 ad H locs cells slots e7 h hRm hI => ?_)
        exact kc_vret hx hb hr hlocks E hI h d_Par_startGroup_116
      have J75 : ∀ (y1 : Int32) (γ : kS) (ad : Nat → Nat) (H : Heap) (locs : List Loc) (cells slots : Nat) (ls : Array Slot), f_Par_startGroup_j75 N (f_Par_startGroup_8 N n8) y1 γ = some x → kI g A s α ad0 γ ad H locs cells slots → lv_has ls 2 [(1, .int y1), (0, .ref (kad g 5))] → W p l e (kR 34 990 α) s m ([.ref (kad g 5)]).toArray below meth c H locs cells slots (vEQ below (kQ g A α ad0 (kQr x)) ([.ref (kad g 5)]).toArray s A) (F0 m 75 ls []) := by
        intro y1 γ ad H locs cells slots ls h hI hl
        unfold f_Par_startGroup_j75 at h
        refine lv_aload_n hx hb d_Par_startGroup_75 rfl (lv_at hl 1 rfl) ?_
        refine kf_Par_pending S E hI.1 vt_124 d_Par_startGroup_76 ?_
        refine lv_aload_n hx hb d_Par_startGroup_79 rfl (lv_at hl 1 rfl) ?_
        refine kf_Par_lexer S E hI.1 vt_115 d_Par_startGroup_80 ?_
        refine kg_p (As := []) (rest := [.ref (kad g (11 + 10))]) (k_Lex_word (l := l) (g := g) (α := γ) ) S E hI.1 kw_Par_216 ⟨Nat.le_of_ble_eq_true rfl, Nat.le_of_ble_eq_true rfl⟩ hI.room (kv_Lex E hI.1) rfl hl.1 rfl (Nat.le_of_ble_eq_true rfl) d_Par_startGroup_83 rfl ?_
        refine kg_cV (As := [.int (f_Lex_word γ)]) (rest := []) h (k_Row_push (l := l) (g := g) (α := γ) (r := 10) (by decide) (f_Lex_word γ)) S hlocks hno E hI kw_Par_204 ⟨Nat.le_of_ble_eq_true rfl, Nat.le_of_ble_eq_true rfl⟩ (kv_Row (r := 10) (by decide) E hI.1) rfl hl.1 rfl (Nat.le_of_ble_eq_true rfl) d_Par_startGroup_86 (fun α11 ad H locs cells slots e12 h hRm hI => ?_)
        refine lv_aload_n hx hb d_Par_startGroup_89 rfl (lv_at hl 1 rfl) ?_
        refine kf_Par_lexer S E hI.1 vt_115 d_Par_startGroup_90 ?_
        refine kg_tV (As := []) (rest := []) (k_Lex_advance (l := l) (g := g) (α := α11) ) S hlocks hno E hI kw_Par_168 ⟨Nat.le_of_ble_eq_true rfl, Nat.le_of_ble_eq_true rfl⟩ (kv_Lex E hI.1) rfl hl.1 rfl (Nat.le_of_ble_eq_true rfl) d_Par_startGroup_93 (fun ad H locs cells slots hRm hI => ?_)
        refine lv_iinc (v := (y1 + 1)) (lv' := [(1, .int (y1 + 1)), (0, .ref (kad g 5))]) hx hb d_Par_startGroup_96 hl (k := 0) rfl rfl (by decide) rfl (fun ls hl => ?_)
        refine lv_goto (tgt := 8) hx hb d_Par_startGroup_99 (by decide) ?_
        exact ih8 (y1 + 1) _ _ _ _ _ _ _ h hI (lv_sub hl [0, 1] rfl)
      have J45 : ∀ (y1 : Int32) (γ : kS) (ad : Nat → Nat) (H : Heap) (locs : List Loc) (cells slots : Nat) (ls : Array Slot), f_Par_startGroup_j45 N (f_Par_startGroup_8 N n8) y1 γ = some x → kI g A s α ad0 γ ad H locs cells slots → lv_has ls 2 [(1, .int y1), (0, .ref (kad g 5))] → W p l e (kR 34 990 α) s m ([.ref (kad g 5)]).toArray below meth c H locs cells slots (vEQ below (kQ g A α ad0 (kQr x)) ([.ref (kad g 5)]).toArray s A) (F0 m 45 ls []) := by
        intro y1 γ ad H locs cells slots ls h hI hl
        unfold f_Par_startGroup_j45 at h
        refine lv_aload_n hx hb d_Par_startGroup_45 rfl (lv_at hl 1 rfl) ?_
        refine kf_Par_scope S E hI.1 vt_123 d_Par_startGroup_46 ?_
        refine kg_p (As := []) (rest := []) (k_Row_size (l := l) (g := g) (α := γ) (r := 9) (by decide)) S E hI.1 kw_Par_65 ⟨Nat.le_of_ble_eq_true rfl, Nat.le_of_ble_eq_true rfl⟩ hI.room (kv_Row (r := 9) (by decide) E hI.1) rfl hl.1 rfl (Nat.le_of_ble_eq_true rfl) d_Par_startGroup_49 rfl ?_
        refine lv_aload_n hx hb d_Par_startGroup_52 rfl (lv_at hl 1 rfl) ?_
        refine kf_Par_pending S E hI.1 vt_124 d_Par_startGroup_53 ?_
        refine kg_p (As := []) (rest := [.int (fR_size γ 9)]) (k_Row_size (l := l) (g := g) (α := γ) (r := 10) (by decide)) S E hI.1 kw_Par_65 ⟨Nat.le_of_ble_eq_true rfl, Nat.le_of_ble_eq_true rfl⟩ hI.room (kv_Row (r := 10) (by decide) E hI.1) rfl hl.1 rfl (Nat.le_of_ble_eq_true rfl) d_Par_startGroup_56 rfl ?_
        refine lv_iadd hx hb d_Par_startGroup_59 ?_
        refine lv_sipush (v := 3000) hx hb d_Par_startGroup_60 (by decide) ?_
        refine lv_icmp_lt (tgt := 75) hx hb d_Par_startGroup_63 (by decide) (fun c10 => ?_) (fun c10 => ?_)
        · replace h := Eq.trans (if_pos c10).symm h
          exact J75 y1 _ _ _ _ _ _ _ h hI (lv_sub hl [0, 1] rfl)
        · replace h := Eq.trans (if_neg c10).symm h
          refine lv_aload_n hx hb d_Par_startGroup_66 rfl (lv_at hl 1 rfl) ?_
          refine kf_Par_meter S E hI.1 vt_116 d_Par_startGroup_67 ?_
          refine lv_bipush (v := 10) hx hb d_Par_startGroup_70 (by decide) ?_
          refine kg_cV (As := [.int 10]) (rest := []) h (k_Meter_fail (l := l) (g := g) (α := γ) hfl N 10) S hlocks hno E hI kw_Par_154 ⟨Nat.le_of_ble_eq_true rfl, Nat.le_of_ble_eq_true rfl⟩ (kv_Meter E hI.1) rfl hl.1 rfl (Nat.le_of_ble_eq_true rfl) d_Par_startGroup_72 (fun α13 ad H locs cells slots e14 h hRm hI => ?_)
          exact J75 y1 _ _ _ _ _ _ _ h hI (lv_sub hl [0, 1] rfl)
      have J30 : ∀ (y1 : Int32) (γ : kS) (ad : Nat → Nat) (H : Heap) (locs : List Loc) (cells slots : Nat) (ls : Array Slot), f_Par_startGroup_j30 N (f_Par_startGroup_8 N n8) y1 γ = some x → kI g A s α ad0 γ ad H locs cells slots → lv_has ls 2 [(1, .int y1), (0, .ref (kad g 5))] → W p l e (kR 34 990 α) s m ([.ref (kad g 5)]).toArray below meth c H locs cells slots (vEQ below (kQ g A α ad0 (kQr x)) ([.ref (kad g 5)]).toArray s A) (F0 m 30 ls []) := by
        intro y1 γ ad H locs cells slots ls h hI hl
        unfold f_Par_startGroup_j30 at h
        refine lv_aload_n hx hb d_Par_startGroup_30 rfl (lv_at hl 1 rfl) ?_
        refine kf_Par_lexer S E hI.1 vt_115 d_Par_startGroup_31 ?_
        refine kg_p (As := []) (rest := []) (k_Lex_kind (l := l) (g := g) (α := γ) ) S E hI.1 kw_Par_160 ⟨Nat.le_of_ble_eq_true rfl, Nat.le_of_ble_eq_true rfl⟩ hI.room (kv_Lex E hI.1) rfl hl.1 rfl (Nat.le_of_ble_eq_true rfl) d_Par_startGroup_34 rfl ?_
        refine lv_iconst (v := 2) hx hb d_Par_startGroup_37 (by decide) ?_
        refine lv_icmp_eq (tgt := 45) hx hb d_Par_startGroup_38 (by decide) (fun c9 => ?_) (fun c9 => ?_)
        · replace h := Eq.trans (if_pos c9).symm h
          exact J45 y1 _ _ _ _ _ _ _ h hI (lv_sub hl [0, 1] rfl)
        · replace h := Eq.trans (if_neg c9).symm h
          refine lv_aload_n hx hb d_Par_startGroup_41 rfl (lv_at hl 1 rfl) ?_
          refine kg_cV (As := []) (rest := []) h (k_Par_refuse (l := l) (g := g) (α := γ) hfl N) S hlocks hno E hI kw_Par_165 ⟨Nat.le_of_ble_eq_true rfl, Nat.le_of_ble_eq_true rfl⟩ (kv_Par E hI.1) rfl hl.1 rfl (Nat.le_of_ble_eq_true rfl) d_Par_startGroup_42 (fun α15 ad H locs cells slots e16 h hRm hI => ?_)
          exact J45 y1 _ _ _ _ _ _ _ h hI (lv_sub hl [0, 1] rfl)
      refine lv_iload_n hx hb d_Par_startGroup_8 rfl (lv_at hl 0 rfl) ?_
      refine lv_sipush (v := 3000) hx hb d_Par_startGroup_9 (by decide) ?_
      refine lv_icmp_gt (tgt := 102) hx hb d_Par_startGroup_12 (by decide) (fun c3 => ?_) (fun c3 => ?_)
      · replace h := Eq.trans (if_pos c3).symm h
        exact J102 x1 _ _ _ _ _ _ _ h hI (lv_sub hl [0, 1] rfl)
      · replace h := Eq.trans (if_neg c3).symm h
        refine lv_iload_n hx hb d_Par_startGroup_15 rfl (lv_at hl 0 rfl) ?_
        refine lv_if_eq (tgt := 30) hx hb d_Par_startGroup_16 (by decide) (fun c8 => ?_) (fun c8 => ?_)
        · replace h := Eq.trans (if_pos c8).symm h
          exact J30 x1 _ _ _ _ _ _ _ h hI (lv_sub hl [0, 1] rfl)
        · replace h := Eq.trans (if_neg c8).symm h
          refine lv_aload_n hx hb d_Par_startGroup_19 rfl (lv_at hl 1 rfl) ?_
          refine kf_Par_lexer S E hI.1 vt_115 d_Par_startGroup_20 ?_
          refine kg_p (As := []) (rest := []) (k_Lex_kind (l := l) (g := g) (α := β) ) S E hI.1 kw_Par_160 ⟨Nat.le_of_ble_eq_true rfl, Nat.le_of_ble_eq_true rfl⟩ hI.room (kv_Lex E hI.1) rfl hl.1 rfl (Nat.le_of_ble_eq_true rfl) d_Par_startGroup_23 rfl ?_
          refine lv_iconst (v := 2) hx hb d_Par_startGroup_26 (by decide) ?_
          refine lv_icmp_ne (tgt := 102) hx hb d_Par_startGroup_27 (by decide) (fun c17 => ?_) (fun c17 => ?_)
          · replace h := Eq.trans (if_neg c17).symm h
            exact J102 x1 _ _ _ _ _ _ _ h hI (lv_sub hl [0, 1] rfl)
          · replace h := Eq.trans (if_pos c17).symm h
            exact J30 x1 _ _ _ _ _ _ _ h hI (lv_sub hl [0, 1] rfl)
  exact L8 N 0 _ _ _ _ _ _ _ h hI (lv_sub hl [0, 1] rfl)
def f_Par_takeMember (N : Nat)  (α : kS) : Option (kO × kS) := if (f_Lex_kind α) = 24 then (kBi (f_Par_takeNewName N 4 (f_Lex_advance α)) fun v11 α9 => (kBv (f_Par_expect N 21 α9) fun α12 => (kBv (f_Par_await N 16 v11 0 α12) fun α14 => (some (some none, α14))))) else (kBv (f_Par_expect N 20 α) fun α2 => (kBv (f_Par_expect N 23 α2) fun α4 => (if (α4.1 17) ≤ 6000 then (some (some none, (kSi α4 13 0))) else (kBv (f_Meter_fail N 10 α4) fun α7 => (some (some none, (kSi α7 13 0)))))))
set_option maxHeartbeats 4000000 in
set_option maxRecDepth 100000 in
theorem k_Par_takeMember {l : Launch} {g : kG} {α : kS} (hfl : kFl l) (N : Nat)   : ∀ x, f_Par_takeMember N α = some x → kC l g y_Par_takeMember b_Par_takeMember 2 none 33 968 [.ref (kad g 5)] α (kQr x) := by
  intro x h
  unfold f_Par_takeMember at h
  refine kc_ofW (by decide) (fun A ad0 p e s m args below meth c S hr hlocks hno hadm hargs E hI => ?_)
  have hx := S.1
  have hb := S.2.1
  have hown := S.2.2.2.1
  have hT := S.2.2.2.2
  subst hargs
  have hl := lv_entry ([.ref (kad g 5)]) (n := 2) (Nat.le_of_ble_eq_true rfl)
  rw [lg_entry_eq]
  generalize (lg_sl ([.ref (kad g 5)]) ++ List.replicate (2 - (lg_sl ([.ref (kad g 5)])).length) Slot.unset).toArray = ls at hl ⊢
  have hl : lv_has ls 2 [(0, .ref (kad g 5))] := hl
  refine lv_aload_n hx hb d_Par_takeMember_0 rfl (lv_at hl 0 rfl) ?_
  refine kf_Par_lexer S E hI.1 vt_115 d_Par_takeMember_1 ?_
  refine kg_p (As := []) (rest := []) (k_Lex_kind (l := l) (g := g) (α := α) ) S E hI.1 kw_Par_160 ⟨Nat.le_of_ble_eq_true rfl, Nat.le_of_ble_eq_true rfl⟩ hI.room (kv_Lex E hI.1) rfl hl.1 rfl (Nat.le_of_ble_eq_true rfl) d_Par_takeMember_4 rfl ?_
  refine lv_bipush (v := 24) hx hb d_Par_takeMember_7 (by decide) ?_
  refine lv_icmp_ne (tgt := 42) hx hb d_Par_takeMember_9 (by decide) (fun c1 => ?_) (fun c1 => ?_)
  · replace h := Eq.trans (if_neg c1).symm h
    refine lv_aload_n hx hb d_Par_takeMember_42 rfl (lv_at hl 0 rfl) ?_
    refine lv_bipush (v := 20) hx hb d_Par_takeMember_43 (by decide) ?_
    refine kg_cV (As := [.int 20]) (rest := []) h (k_Par_expect (l := l) (g := g) (α := α) hfl N 20) S hlocks hno E hI kw_Par_184 ⟨Nat.le_of_ble_eq_true rfl, Nat.le_of_ble_eq_true rfl⟩ (kv_Par E hI.1) rfl hl.1 rfl (Nat.le_of_ble_eq_true rfl) d_Par_takeMember_45 (fun α2 ad H locs cells slots e3 h hRm hI => ?_)
    refine lv_aload_n hx hb d_Par_takeMember_48 rfl (lv_at hl 0 rfl) ?_
    refine lv_bipush (v := 23) hx hb d_Par_takeMember_49 (by decide) ?_
    refine kg_cV (As := [.int 23]) (rest := []) h (k_Par_expect (l := l) (g := g) (α := α2) hfl N 23) S hlocks hno E hI kw_Par_184 ⟨Nat.le_of_ble_eq_true rfl, Nat.le_of_ble_eq_true rfl⟩ (kv_Par E hI.1) rfl hl.1 rfl (Nat.le_of_ble_eq_true rfl) d_Par_takeMember_51 (fun α4 ad H locs cells slots e5 h hRm hI => ?_)
    refine lv_aload_n hx hb d_Par_takeMember_54 rfl (lv_at hl 0 rfl) ?_
    refine kf_Par_textSize S E hI.1 vt_330 d_Par_takeMember_55 ?_
    refine lv_sipush (v := 6000) hx hb d_Par_takeMember_58 (by decide) ?_
    refine lv_icmp_le (tgt := 73) hx hb d_Par_takeMember_61 (by decide) (fun c6 => ?_) (fun c6 => ?_)
    · replace h := Eq.trans (if_pos c6).symm h
      refine lv_aload_n hx hb d_Par_takeMember_73 rfl (lv_at hl 0 rfl) ?_
      refine lv_iconst (v := 0) hx hb d_Par_takeMember_74 (by decide) ?_
      refine kp_Par_state S E hI vt_340 d_Par_takeMember_75 (fun H locs hI => ?_)
      exact kc_vret hx hb hr hlocks E hI h d_Par_takeMember_78
    · replace h := Eq.trans (if_neg c6).symm h
      refine lv_aload_n hx hb d_Par_takeMember_64 rfl (lv_at hl 0 rfl) ?_
      refine kf_Par_meter S E hI.1 vt_116 d_Par_takeMember_65 ?_
      refine lv_bipush (v := 10) hx hb d_Par_takeMember_68 (by decide) ?_
      refine kg_cV (As := [.int 10]) (rest := []) h (k_Meter_fail (l := l) (g := g) (α := α4) hfl N 10) S hlocks hno E hI kw_Par_154 ⟨Nat.le_of_ble_eq_true rfl, Nat.le_of_ble_eq_true rfl⟩ (kv_Meter E hI.1) rfl hl.1 rfl (Nat.le_of_ble_eq_true rfl) d_Par_takeMember_70 (fun α7 ad H locs cells slots e8 h hRm hI => ?_)
      refine lv_aload_n hx hb d_Par_takeMember_73 rfl (lv_at hl 0 rfl) ?_
      refine lv_iconst (v := 0) hx hb d_Par_takeMember_74 (by decide) ?_
      refine kp_Par_state S E hI vt_340 d_Par_takeMember_75 (fun H locs hI => ?_)
      exact kc_vret hx hb hr hlocks E hI h d_Par_takeMember_78
  · replace h := Eq.trans (if_pos c1).symm h
    refine lv_aload_n hx hb d_Par_takeMember_12 rfl (lv_at hl 0 rfl) ?_
    refine kf_Par_lexer S E hI.1 vt_115 d_Par_takeMember_13 ?_
    refine kg_tV (As := []) (rest := []) (k_Lex_advance (l := l) (g := g) (α := α) ) S hlocks hno E hI kw_Par_168 ⟨Nat.le_of_ble_eq_true rfl, Nat.le_of_ble_eq_true rfl⟩ (kv_Lex E hI.1) rfl hl.1 rfl (Nat.le_of_ble_eq_true rfl) d_Par_takeMember_16 (fun ad H locs cells slots hRm hI => ?_)
    refine lv_aload_n hx hb d_Par_takeMember_19 rfl (lv_at hl 0 rfl) ?_
    refine lv_iconst (v := 4) hx hb d_Par_takeMember_20 (by decide) ?_
    refine kg_cI (As := [.int 4]) (rest := []) h (k_Par_takeNewName (l := l) (g := g) (α := (f_Lex_advance α)) hfl N 4) S hlocks hno E hI kw_Par_181 ⟨Nat.le_of_ble_eq_true rfl, Nat.le_of_ble_eq_true rfl⟩ (kv_Par E hI.1) rfl hl.1 rfl (Nat.le_of_ble_eq_true rfl) d_Par_takeMember_21 (fun v11 α9 ad H locs cells slots e10 h hRm hI => ?_)
    refine lv_istore_n (lv' := [(1, .int v11), (0, .ref (kad g 5))]) hx hb d_Par_takeMember_24 rfl hl (by decide) rfl (fun ls hl => ?_)
    refine lv_aload_n hx hb d_Par_takeMember_25 rfl (lv_at hl 1 rfl) ?_
    refine lv_bipush (v := 21) hx hb d_Par_takeMember_26 (by decide) ?_
    refine kg_cV (As := [.int 21]) (rest := []) h (k_Par_expect (l := l) (g := g) (α := α9) hfl N 21) S hlocks hno E hI kw_Par_184 ⟨Nat.le_of_ble_eq_true rfl, Nat.le_of_ble_eq_true rfl⟩ (kv_Par E hI.1) rfl hl.1 rfl (Nat.le_of_ble_eq_true rfl) d_Par_takeMember_28 (fun α12 ad H locs cells slots e13 h hRm hI => ?_)
    refine lv_aload_n hx hb d_Par_takeMember_31 rfl (lv_at hl 1 rfl) ?_
    refine lv_bipush (v := 16) hx hb d_Par_takeMember_32 (by decide) ?_
    refine lv_iload_n hx hb d_Par_takeMember_34 rfl (lv_at hl 0 rfl) ?_
    refine lv_iconst (v := 0) hx hb d_Par_takeMember_35 (by decide) ?_
    refine kg_cV (As := [.int 16, .int v11, .int 0]) (rest := []) h (k_Par_await (l := l) (g := g) (α := α12) hfl N 16 v11 0) S hlocks hno E hI kw_Par_177 ⟨Nat.le_of_ble_eq_true rfl, Nat.le_of_ble_eq_true rfl⟩ (kv_Par E hI.1) rfl hl.1 rfl (Nat.le_of_ble_eq_true rfl) d_Par_takeMember_36 (fun α14 ad H locs cells slots e15 h hRm hI => ?_)
    refine lv_goto (tgt := 78) hx hb d_Par_takeMember_39 (by decide) ?_
    exact kc_vret hx hb hr hlocks E hI h d_Par_takeMember_78
theorem kw_Par_79 : kWv "FamilyKernel$Parser" 79 "FamilyKernel$Row" y_Row_cut b_Row_cut 2 none 1 := ⟨vt_327, vt_232, vt_233, vt_4, vt_234, by decide, by decide, by decide +kernel⟩
def f_Par_drop  (α : kS) : kS := (fR_cut α 8 ((fR_size α 8) - 3))
set_option maxHeartbeats 4000000 in
set_option maxRecDepth 100000 in
theorem k_Par_drop {l : Launch} {g : kG} {α : kS}   : kC l g y_Par_drop b_Par_drop 1 none 11 321 [.ref (kad g 5)] α (kQr (some none, f_Par_drop α)) := by
  generalize h : f_Par_drop α = x
  unfold f_Par_drop at h
  refine kc_ofW (by decide) (fun A ad0 p e s m args below meth c S hr hlocks hno hadm hargs E hI => ?_)
  have hx := S.1
  have hb := S.2.1
  have hown := S.2.2.2.1
  have hT := S.2.2.2.2
  subst hargs
  have hl := lv_entry ([.ref (kad g 5)]) (n := 1) (Nat.le_of_ble_eq_true rfl)
  rw [lg_entry_eq]
  generalize (lg_sl ([.ref (kad g 5)]) ++ List.replicate (1 - (lg_sl ([.ref (kad g 5)])).length) Slot.unset).toArray = ls at hl ⊢
  have hl : lv_has ls 1 [(0, .ref (kad g 5))] := hl
  refine lv_aload_n hx hb d_Par_drop_0 rfl (lv_at hl 0 rfl) ?_
  refine kf_Par_open S E hI.1 vt_122 d_Par_drop_1 ?_
  refine lv_aload_n hx hb d_Par_drop_4 rfl (lv_at hl 0 rfl) ?_
  refine kf_Par_open S E hI.1 vt_122 d_Par_drop_5 ?_
  refine kg_p (As := []) (rest := [.ref (kad g (11 + 8))]) (k_Row_size (l := l) (g := g) (α := α) (r := 8) (by decide)) S E hI.1 kw_Par_65 ⟨Nat.le_of_ble_eq_true rfl, Nat.le_of_ble_eq_true rfl⟩ hI.room (kv_Row (r := 8) (by decide) E hI.1) rfl hl.1 rfl (Nat.le_of_ble_eq_true rfl) d_Par_drop_8 rfl ?_
  refine lv_iconst (v := 3) hx hb d_Par_drop_11 (by decide) ?_
  refine lv_isub hx hb d_Par_drop_12 ?_
  refine kg_tV (As := [.int ((fR_size α 8) - 3)]) (rest := []) (k_Row_cut (l := l) (g := g) (α := α) (r := 8) (by decide) ((fR_size α 8) - 3)) S hlocks hno E hI kw_Par_79 ⟨Nat.le_of_ble_eq_true rfl, Nat.le_of_ble_eq_true rfl⟩ (kv_Row (r := 8) (by decide) E hI.1) rfl hl.1 rfl (Nat.le_of_ble_eq_true rfl) d_Par_drop_13 (fun ad H locs cells slots hRm hI => ?_)
  exact kc_vret hx hb hr hlocks E hI (by rw [← h]) d_Par_drop_16
theorem kw_Par_207 : kWv "FamilyKernel$Parser" 207 "FamilyKernel$Parser" y_Par_drop b_Par_drop 1 none 0 := ⟨vt_594, vt_595, vt_596, vt_40, vt_597, by decide, by decide, by decide +kernel⟩
def f_Par_unnest  (α : kS) : kS := (kSi (f_Par_drop α) 14 (((f_Par_drop α).1 14) - 1))
set_option maxHeartbeats 4000000 in
set_option maxRecDepth 100000 in
theorem k_Par_unnest {l : Launch} {g : kG} {α : kS}   : kC l g y_Par_unnest b_Par_unnest 1 none 12 341 [.ref (kad g 5)] α (kQr (some none, f_Par_unnest α)) := by
  generalize h : f_Par_unnest α = x
  unfold f_Par_unnest at h
  refine kc_ofW (by decide) (fun A ad0 p e s m args below meth c S hr hlocks hno hadm hargs E hI => ?_)
  have hx := S.1
  have hb := S.2.1
  have hown := S.2.2.2.1
  have hT := S.2.2.2.2
  subst hargs
  have hl := lv_entry ([.ref (kad g 5)]) (n := 1) (Nat.le_of_ble_eq_true rfl)
  rw [lg_entry_eq]
  generalize (lg_sl ([.ref (kad g 5)]) ++ List.replicate (1 - (lg_sl ([.ref (kad g 5)])).length) Slot.unset).toArray = ls at hl ⊢
  have hl : lv_has ls 1 [(0, .ref (kad g 5))] := hl
  refine lv_aload_n hx hb d_Par_unnest_0 rfl (lv_at hl 0 rfl) ?_
  refine kg_tV (As := []) (rest := []) (k_Par_drop (l := l) (g := g) (α := α) ) S hlocks hno E hI kw_Par_207 ⟨Nat.le_of_ble_eq_true rfl, Nat.le_of_ble_eq_true rfl⟩ (kv_Par E hI.1) rfl hl.1 rfl (Nat.le_of_ble_eq_true rfl) d_Par_unnest_1 (fun ad H locs cells slots hRm hI => ?_)
  refine lv_aload_n hx hb d_Par_unnest_4 rfl (lv_at hl 0 rfl) ?_
  refine lv_dup hx hb d_Par_unnest_5 rfl ?_
  refine kf_Par_nest S E hI.1 vt_328 d_Par_unnest_6 ?_
  refine lv_iconst (v := 1) hx hb d_Par_unnest_9 (by decide) ?_
  refine lv_isub hx hb d_Par_unnest_10 ?_
  refine kp_Par_nest S E hI vt_328 d_Par_unnest_11 (fun H locs hI => ?_)
  exact kc_vret hx hb hr hlocks E hI (by rw [← h]) d_Par_unnest_14
theorem kw_Par_251 : kWv "FamilyKernel$Parser" 251 "FamilyKernel$Parser" y_Par_unnest b_Par_unnest 1 none 0 := ⟨vt_590, vt_591, vt_592, vt_40, vt_593, by decide, by decide, by decide +kernel⟩
def f_Par_endParen (N : Nat)  (α : kS) : Option (kO × kS) := kBv (f_Par_expect N 18 (f_Par_unnest α)) fun α1 => (kBv (f_Par_apply N (α.1 15) (kSi α1 15 (f_Par_held 1 α))) fun α3 => (some (some none, α3)))
set_option maxHeartbeats 4000000 in
set_option maxRecDepth 100000 in
theorem k_Par_endParen {l : Launch} {g : kG} {α : kS} (hfl : kFl l) (N : Nat)   : ∀ x, f_Par_endParen N α = some x → kC l g y_Par_endParen b_Par_endParen 3 none 24 713 [.ref (kad g 5)] α (kQr x) := by
  intro x h
  unfold f_Par_endParen at h
  refine kc_ofW (by decide) (fun A ad0 p e s m args below meth c S hr hlocks hno hadm hargs E hI => ?_)
  have hx := S.1
  have hb := S.2.1
  have hown := S.2.2.2.1
  have hT := S.2.2.2.2
  subst hargs
  have hl := lv_entry ([.ref (kad g 5)]) (n := 3) (Nat.le_of_ble_eq_true rfl)
  rw [lg_entry_eq]
  generalize (lg_sl ([.ref (kad g 5)]) ++ List.replicate (3 - (lg_sl ([.ref (kad g 5)])).length) Slot.unset).toArray = ls at hl ⊢
  have hl : lv_has ls 3 [(0, .ref (kad g 5))] := hl
  refine lv_aload_n hx hb d_Par_endParen_0 rfl (lv_at hl 0 rfl) ?_
  refine lv_iconst (v := 1) hx hb d_Par_endParen_1 (by decide) ?_
  refine kg_p (As := [.int 1]) (rest := []) (k_Par_held (l := l) (g := g) (α := α) 1) S E hI.1 kw_Par_213 ⟨Nat.le_of_ble_eq_true rfl, Nat.le_of_ble_eq_true rfl⟩ hI.room (kv_Par E hI.1) rfl hl.1 rfl (Nat.le_of_ble_eq_true rfl) d_Par_endParen_2 rfl ?_
  refine lv_istore_n (lv' := [(1, .int (f_Par_held 1 α)), (0, .ref (kad g 5))]) hx hb d_Par_endParen_5 rfl hl (by decide) rfl (fun ls hl => ?_)
  refine lv_aload_n hx hb d_Par_endParen_6 rfl (lv_at hl 1 rfl) ?_
  refine kf_Par_current S E hI.1 vt_496 d_Par_endParen_7 ?_
  refine lv_istore_n (lv' := [(2, .int (α.1 15)), (1, .int (f_Par_held 1 α)), (0, .ref (kad g 5))]) hx hb d_Par_endParen_10 rfl hl (by decide) rfl (fun ls hl => ?_)
  refine lv_aload_n hx hb d_Par_endParen_11 rfl (lv_at hl 2 rfl) ?_
  refine kg_tV (As := []) (rest := []) (k_Par_unnest (l := l) (g := g) (α := α) ) S hlocks hno E hI kw_Par_251 ⟨Nat.le_of_ble_eq_true rfl, Nat.le_of_ble_eq_true rfl⟩ (kv_Par E hI.1) rfl hl.1 rfl (Nat.le_of_ble_eq_true rfl) d_Par_endParen_12 (fun ad H locs cells slots hRm hI => ?_)
  refine lv_aload_n hx hb d_Par_endParen_15 rfl (lv_at hl 2 rfl) ?_
  refine lv_bipush (v := 18) hx hb d_Par_endParen_16 (by decide) ?_
  refine kg_cV (As := [.int 18]) (rest := []) h (k_Par_expect (l := l) (g := g) (α := (f_Par_unnest α)) hfl N 18) S hlocks hno E hI kw_Par_184 ⟨Nat.le_of_ble_eq_true rfl, Nat.le_of_ble_eq_true rfl⟩ (kv_Par E hI.1) rfl hl.1 rfl (Nat.le_of_ble_eq_true rfl) d_Par_endParen_18 (fun α1 ad H locs cells slots e2 h hRm hI => ?_)
  refine lv_aload_n hx hb d_Par_endParen_21 rfl (lv_at hl 2 rfl) ?_
  refine lv_iload_n hx hb d_Par_endParen_22 rfl (lv_at hl 1 rfl) ?_
  refine kp_Par_current S E hI vt_496 d_Par_endParen_23 (fun H locs hI => ?_)
  refine lv_aload_n hx hb d_Par_endParen_26 rfl (lv_at hl 2 rfl) ?_
  refine lv_iload_n hx hb d_Par_endParen_27 rfl (lv_at hl 0 rfl) ?_
  refine kg_cV (As := [.int (α.1 15)]) (rest := []) h (k_Par_apply (l := l) (g := g) (α := (kSi α1 15 (f_Par_held 1 α))) hfl N (α.1 15)) S hlocks hno E hI kw_Par_224 ⟨Nat.le_of_ble_eq_true rfl, Nat.le_of_ble_eq_true rfl⟩ (kv_Par E hI.1) rfl hl.1 rfl (Nat.le_of_ble_eq_true rfl) d_Par_endParen_28 (fun α3 ad H locs cells slots e4 h hRm hI => ?_)
  exact kc_vret hx hb hr hlocks E hI h d_Par_endParen_31
theorem kw_Par_263 : kWv "FamilyKernel$Parser" 263 "FamilyKernel$Row" y_Row_pop b_Row_pop 1 (some .int) 0 := ⟨vt_598, vt_599, vt_600, vt_4, vt_601, by decide, by decide, by decide +kernel⟩
def f_Par_endArrow (N : Nat)  (α : kS) : Option (kO × kS) := kBi (f_Terms_make N 6 (f_Par_held 1 α) (α.1 15) α) fun v3 α1 => (some (some none, (f_Par_beWhole v3 (f_Par_unnest (fR_pop α1 9).2))))
set_option maxHeartbeats 4000000 in
set_option maxRecDepth 100000 in
theorem k_Par_endArrow {l : Launch} {g : kG} {α : kS} (hfl : kFl l) (N : Nat)   : ∀ x, f_Par_endArrow N α = some x → kC l g y_Par_endArrow b_Par_endArrow 2 none 23 692 [.ref (kad g 5)] α (kQr x) := by
  intro x h
  unfold f_Par_endArrow at h
  refine kc_ofW (by decide) (fun A ad0 p e s m args below meth c S hr hlocks hno hadm hargs E hI => ?_)
  have hx := S.1
  have hb := S.2.1
  have hown := S.2.2.2.1
  have hT := S.2.2.2.2
  subst hargs
  have hl := lv_entry ([.ref (kad g 5)]) (n := 2) (Nat.le_of_ble_eq_true rfl)
  rw [lg_entry_eq]
  generalize (lg_sl ([.ref (kad g 5)]) ++ List.replicate (2 - (lg_sl ([.ref (kad g 5)])).length) Slot.unset).toArray = ls at hl ⊢
  have hl : lv_has ls 2 [(0, .ref (kad g 5))] := hl
  refine lv_aload_n hx hb d_Par_endArrow_0 rfl (lv_at hl 0 rfl) ?_
  refine kf_Par_terms S E hI.1 vt_117 d_Par_endArrow_1 ?_
  refine lv_bipush (v := 6) hx hb d_Par_endArrow_4 (by decide) ?_
  refine lv_aload_n hx hb d_Par_endArrow_6 rfl (lv_at hl 0 rfl) ?_
  refine lv_iconst (v := 1) hx hb d_Par_endArrow_7 (by decide) ?_
  refine kg_p (As := [.int 1]) (rest := [.int 6, .ref (kad g 2)]) (k_Par_held (l := l) (g := g) (α := α) 1) S E hI.1 kw_Par_213 ⟨Nat.le_of_ble_eq_true rfl, Nat.le_of_ble_eq_true rfl⟩ hI.room (kv_Par E hI.1) rfl hl.1 rfl (Nat.le_of_ble_eq_true rfl) d_Par_endArrow_8 rfl ?_
  refine lv_aload_n hx hb d_Par_endArrow_11 rfl (lv_at hl 0 rfl) ?_
  refine kf_Par_current S E hI.1 vt_496 d_Par_endArrow_12 ?_
  refine kg_cI (As := [.int 6, .int (f_Par_held 1 α), .int (α.1 15)]) (rest := []) h (k_Terms_make (l := l) (g := g) (α := α) hfl N 6 (f_Par_held 1 α) (α.1 15)) S hlocks hno E hI kw_Par_73 ⟨Nat.le_of_ble_eq_true rfl, Nat.le_of_ble_eq_true rfl⟩ (kv_Terms E hI.1) rfl hl.1 rfl (Nat.le_of_ble_eq_true rfl) d_Par_endArrow_15 (fun v3 α1 ad H locs cells slots e2 h hRm hI => ?_)
  refine lv_istore_n (lv' := [(1, .int v3), (0, .ref (kad g 5))]) hx hb d_Par_endArrow_18 rfl hl (by decide) rfl (fun ls hl => ?_)
  refine lv_aload_n hx hb d_Par_endArrow_19 rfl (lv_at hl 1 rfl) ?_
  refine kf_Par_scope S E hI.1 vt_123 d_Par_endArrow_20 ?_
  refine kg_tI (As := []) (rest := []) (k_Row_pop (l := l) (g := g) (α := α1) (r := 9) (by decide)) S hlocks hno E hI kw_Par_263 ⟨Nat.le_of_ble_eq_true rfl, Nat.le_of_ble_eq_true rfl⟩ (kv_Row (r := 9) (by decide) E hI.1) rfl hl.1 rfl (Nat.le_of_ble_eq_true rfl) d_Par_endArrow_23 (fun ad H locs cells slots hRm hI => ?_)
  refine lv_pop hx hb d_Par_endArrow_26 rfl ?_
  refine lv_aload_n hx hb d_Par_endArrow_27 rfl (lv_at hl 1 rfl) ?_
  refine kg_tV (As := []) (rest := []) (k_Par_unnest (l := l) (g := g) (α := (fR_pop α1 9).2) ) S hlocks hno E hI kw_Par_251 ⟨Nat.le_of_ble_eq_true rfl, Nat.le_of_ble_eq_true rfl⟩ (kv_Par E hI.1) rfl hl.1 rfl (Nat.le_of_ble_eq_true rfl) d_Par_endArrow_28 (fun ad H locs cells slots hRm hI => ?_)
  refine lv_aload_n hx hb d_Par_endArrow_31 rfl (lv_at hl 1 rfl) ?_
  refine lv_iload_n hx hb d_Par_endArrow_32 rfl (lv_at hl 0 rfl) ?_
  refine kg_tV (As := [.int v3]) (rest := []) (k_Par_beWhole (l := l) (g := g) (α := (f_Par_unnest (fR_pop α1 9).2)) v3) S hlocks hno E hI kw_Par_233 ⟨Nat.le_of_ble_eq_true rfl, Nat.le_of_ble_eq_true rfl⟩ (kv_Par E hI.1) rfl hl.1 rfl (Nat.le_of_ble_eq_true rfl) d_Par_endArrow_33 (fun ad H locs cells slots hRm hI => ?_)
  exact kc_vret hx hb hr hlocks E hI h d_Par_endArrow_36
def f_Par_startBody_j47 (N : Nat)  (t0 : Int32) (γ : kS) : Option (kO × kS) := kBv (f_Par_expect N t0 γ) fun α3 => (some (some none, (kSi (kSi α3 14 ((α3.1 14) + 1)) 13 1)))
def f_Par_startBody (N : Nat)  (α : kS) : Option (kO × kS) := if (f_Par_held 1 α) = 0 then (kBv (f_Par_expect N 21 (f_Par_drop α)) fun α5 => (kBv (f_Par_await N 15 0 0 α5) fun α7 => (some (some none, α7)))) else (if (f_Par_held 1 α) = 7 then (f_Par_startBody_j47 N 26 α) else (f_Par_startBody_j47 N 22 α))
set_option maxHeartbeats 4000000 in
set_option maxRecDepth 100000 in
theorem k_Par_startBody {l : Launch} {g : kG} {α : kS} (hfl : kFl l) (N : Nat)   : ∀ x, f_Par_startBody N α = some x → kC l g y_Par_startBody b_Par_startBody 1 none 33 967 [.ref (kad g 5)] α (kQr x) := by
  intro x h
  unfold f_Par_startBody at h
  refine kc_ofW (by decide) (fun A ad0 p e s m args below meth c S hr hlocks hno hadm hargs E hI => ?_)
  have hx := S.1
  have hb := S.2.1
  have hown := S.2.2.2.1
  have hT := S.2.2.2.2
  subst hargs
  have hl := lv_entry ([.ref (kad g 5)]) (n := 1) (Nat.le_of_ble_eq_true rfl)
  rw [lg_entry_eq]
  generalize (lg_sl ([.ref (kad g 5)]) ++ List.replicate (1 - (lg_sl ([.ref (kad g 5)])).length) Slot.unset).toArray = ls at hl ⊢
  have hl : lv_has ls 1 [(0, .ref (kad g 5))] := hl
  have J47 : ∀ (t0 : Int32) (γ : kS) (ad : Nat → Nat) (H : Heap) (locs : List Loc) (cells slots : Nat) (ls : Array Slot), f_Par_startBody_j47 N t0 γ = some x → kI g A s α ad0 γ ad H locs cells slots → lv_has ls 1 [(0, .ref (kad g 5))] → W p l e (kR 33 967 α) s m ([.ref (kad g 5)]).toArray below meth c H locs cells slots (vEQ below (kQ g A α ad0 (kQr x)) ([.ref (kad g 5)]).toArray s A) (F0 m 47 ls [.int t0, .ref (kad g 5)]) := by
    intro t0 γ ad H locs cells slots ls h hI hl
    unfold f_Par_startBody_j47 at h
    refine kg_cV (As := [.int t0]) (rest := []) h (k_Par_expect (l := l) (g := g) (α := γ) hfl N t0) S hlocks hno E hI kw_Par_184 ⟨Nat.le_of_ble_eq_true rfl, Nat.le_of_ble_eq_true rfl⟩ (kv_Par E hI.1) rfl hl.1 rfl (Nat.le_of_ble_eq_true rfl) d_Par_startBody_47 (fun α3 ad H locs cells slots e4 h hRm hI => ?_)
    refine lv_aload_n hx hb d_Par_startBody_50 rfl (lv_at hl 0 rfl) ?_
    refine lv_dup hx hb d_Par_startBody_51 rfl ?_
    refine kf_Par_nest S E hI.1 vt_328 d_Par_startBody_52 ?_
    refine lv_iconst (v := 1) hx hb d_Par_startBody_55 (by decide) ?_
    refine lv_iadd hx hb d_Par_startBody_56 ?_
    refine kp_Par_nest S E hI vt_328 d_Par_startBody_57 (fun H locs hI => ?_)
    refine lv_aload_n hx hb d_Par_startBody_60 rfl (lv_at hl 0 rfl) ?_
    refine lv_iconst (v := 1) hx hb d_Par_startBody_61 (by decide) ?_
    refine kp_Par_state S E hI vt_340 d_Par_startBody_62 (fun H locs hI => ?_)
    exact kc_vret hx hb hr hlocks E hI h d_Par_startBody_65
  refine lv_aload_n hx hb d_Par_startBody_0 rfl (lv_at hl 0 rfl) ?_
  refine lv_iconst (v := 1) hx hb d_Par_startBody_1 (by decide) ?_
  refine kg_p (As := [.int 1]) (rest := []) (k_Par_held (l := l) (g := g) (α := α) 1) S E hI.1 kw_Par_213 ⟨Nat.le_of_ble_eq_true rfl, Nat.le_of_ble_eq_true rfl⟩ hI.room (kv_Par E hI.1) rfl hl.1 rfl (Nat.le_of_ble_eq_true rfl) d_Par_startBody_2 rfl ?_
  refine lv_if_ne (tgt := 29) hx hb d_Par_startBody_5 (by decide) (fun c1 => ?_) (fun c1 => ?_)
  · replace h := Eq.trans (if_neg c1).symm h
    refine lv_aload_n hx hb d_Par_startBody_29 rfl (lv_at hl 0 rfl) ?_
    refine lv_aload_n hx hb d_Par_startBody_30 rfl (lv_at hl 0 rfl) ?_
    refine lv_iconst (v := 1) hx hb d_Par_startBody_31 (by decide) ?_
    refine kg_p (As := [.int 1]) (rest := [.ref (kad g 5)]) (k_Par_held (l := l) (g := g) (α := α) 1) S E hI.1 kw_Par_213 ⟨Nat.le_of_ble_eq_true rfl, Nat.le_of_ble_eq_true rfl⟩ hI.room (kv_Par E hI.1) rfl hl.1 rfl (Nat.le_of_ble_eq_true rfl) d_Par_startBody_32 rfl ?_
    refine lv_bipush (v := 7) hx hb d_Par_startBody_35 (by decide) ?_
    refine lv_icmp_ne (tgt := 45) hx hb d_Par_startBody_37 (by decide) (fun c2 => ?_) (fun c2 => ?_)
    · replace h := Eq.trans (if_neg c2).symm h
      refine lv_bipush (v := 22) hx hb d_Par_startBody_45 (by decide) ?_
      exact J47 22 _ _ _ _ _ _ _ h hI (lv_sub hl [0] rfl)
    · replace h := Eq.trans (if_pos c2).symm h
      refine lv_bipush (v := 26) hx hb d_Par_startBody_40 (by decide) ?_
      refine lv_goto (tgt := 47) hx hb d_Par_startBody_42 (by decide) ?_
      exact J47 26 _ _ _ _ _ _ _ h hI (lv_sub hl [0] rfl)
  · replace h := Eq.trans (if_pos c1).symm h
    refine lv_aload_n hx hb d_Par_startBody_8 rfl (lv_at hl 0 rfl) ?_
    refine kg_tV (As := []) (rest := []) (k_Par_drop (l := l) (g := g) (α := α) ) S hlocks hno E hI kw_Par_207 ⟨Nat.le_of_ble_eq_true rfl, Nat.le_of_ble_eq_true rfl⟩ (kv_Par E hI.1) rfl hl.1 rfl (Nat.le_of_ble_eq_true rfl) d_Par_startBody_9 (fun ad H locs cells slots hRm hI => ?_)
    refine lv_aload_n hx hb d_Par_startBody_12 rfl (lv_at hl 0 rfl) ?_
    refine lv_bipush (v := 21) hx hb d_Par_startBody_13 (by decide) ?_
    refine kg_cV (As := [.int 21]) (rest := []) h (k_Par_expect (l := l) (g := g) (α := (f_Par_drop α)) hfl N 21) S hlocks hno E hI kw_Par_184 ⟨Nat.le_of_ble_eq_true rfl, Nat.le_of_ble_eq_true rfl⟩ (kv_Par E hI.1) rfl hl.1 rfl (Nat.le_of_ble_eq_true rfl) d_Par_startBody_15 (fun α5 ad H locs cells slots e6 h hRm hI => ?_)
    refine lv_aload_n hx hb d_Par_startBody_18 rfl (lv_at hl 0 rfl) ?_
    refine lv_bipush (v := 15) hx hb d_Par_startBody_19 (by decide) ?_
    refine lv_iconst (v := 0) hx hb d_Par_startBody_21 (by decide) ?_
    refine lv_iconst (v := 0) hx hb d_Par_startBody_22 (by decide) ?_
    refine kg_cV (As := [.int 15, .int 0, .int 0]) (rest := []) h (k_Par_await (l := l) (g := g) (α := α5) hfl N 15 0 0) S hlocks hno E hI kw_Par_177 ⟨Nat.le_of_ble_eq_true rfl, Nat.le_of_ble_eq_true rfl⟩ (kv_Par E hI.1) rfl hl.1 rfl (Nat.le_of_ble_eq_true rfl) d_Par_startBody_23 (fun α7 ad H locs cells slots e8 h hRm hI => ?_)
    refine lv_goto (tgt := 65) hx hb d_Par_startBody_26 (by decide) ?_
    exact kc_vret hx hb hr hlocks E hI h d_Par_startBody_65
theorem kw_Par_249 : kWv "FamilyKernel$Parser" 249 "FamilyKernel$Terms" y_Terms_size b_Terms_size 2 (some .int) 1 := ⟨vt_602, vt_545, vt_546, vt_19, vt_547, by decide, by decide, by decide +kernel⟩
theorem kw_Par_257 : kWv "FamilyKernel$Parser" 257 "FamilyKernel$Row" y_Row_put b_Row_put 3 none 2 := ⟨vt_607, vt_488, vt_489, vt_4, vt_490, by decide, by decide, by decide +kernel⟩
theorem kw_Par_260 : kWv "FamilyKernel$Parser" 260 "FamilyKernel$Parser" y_Par_startBody b_Par_startBody 1 none 0 := ⟨vt_608, vt_609, vt_610, vt_40, vt_611, by decide, by decide, by decide +kernel⟩
theorem kw_Par_254 : kWv "FamilyKernel$Parser" 254 "FamilyKernel$Terms" y_Terms_rewrite b_Terms_rewrite 9 (some .int) 3 := ⟨vt_603, vt_604, vt_605, vt_19, vt_606, by decide, by decide, by decide +kernel⟩
def f_Par_endGroup_71 (N : Nat)  : Nat → Int32 → Int32 → Int32 → kS → Option (kO × kS)
  | 0, _, _, _, _ => none
  | n + 1, x3, x2, x1, β => if x1 ≤ x3 then (if (f_Lex_kind (fR_put (fR_cut β 10 x2) 8 ((fR_size (fR_cut β 10 x2) 8) - 1) ((f_Par_held 2 (fR_cut β 10 x2)) + x1))) = 17 then (some (some none, (kSi (fR_put (fR_cut β 10 x2) 8 ((fR_size (fR_cut β 10 x2) 8) - 1) ((f_Par_held 2 (fR_cut β 10 x2)) + x1)) 13 3))) else (kBv (f_Par_startBody N (fR_put (fR_cut β 10 x2) 8 ((fR_size (fR_cut β 10 x2) 8) - 1) ((f_Par_held 2 (fR_cut β 10 x2)) + x1))) fun α6 => (some (some none, α6)))) else (kBv (fR_push β 9 (fR_at β 10 (x2 + x3))) fun α8 => (kBi (f_Terms_rewrite N 3 (α8.1 15) x3 α8) fun v12 α10 => (kBv (fR_push α10 11 v12) fun α13 => (f_Par_endGroup_71 N n (x3 + 1) x2 x1 α13))))
def f_Par_endGroup_j49 (N : Nat)  (y1 : Int32) (γ : kS) : Option (kO × kS) := kBv (f_Par_expect N 18 (f_Par_unnest γ)) fun α2 => (f_Par_endGroup_71 N N 0 ((fR_size α2 10) - y1) y1 α2)
def f_Par_endGroup (N : Nat)  (α : kS) : Option (kO × kS) := if ((α.1 16) + ((f_Terms_size (α.1 15) α) * ((f_Par_held 1 α) - 1))) ≤ 6000 then (f_Par_endGroup_j49 N (f_Par_held 1 α) (kSi α 16 ((α.1 16) + ((f_Terms_size (α.1 15) α) * ((f_Par_held 1 α) - 1))))) else (kBv (f_Meter_fail N 10 (kSi α 16 ((α.1 16) + ((f_Terms_size (α.1 15) α) * ((f_Par_held 1 α) - 1))))) fun α15 => (f_Par_endGroup_j49 N (f_Par_held 1 α) α15))
set_option maxHeartbeats 4000000 in
set_option maxRecDepth 100000 in
theorem k_Par_endGroup {l : Launch} {g : kG} {α : kS} (hfl : kFl l) (N : Nat)   : ∀ x, f_Par_endGroup N α = some x → kC l g y_Par_endGroup b_Par_endGroup 4 none 34 987 [.ref (kad g 5)] α (kQr x) := by
  intro x h
  unfold f_Par_endGroup at h
  refine kc_ofW (by decide) (fun A ad0 p e s m args below meth c S hr hlocks hno hadm hargs E hI => ?_)
  have hx := S.1
  have hb := S.2.1
  have hown := S.2.2.2.1
  have hT := S.2.2.2.2
  subst hargs
  have hl := lv_entry ([.ref (kad g 5)]) (n := 4) (Nat.le_of_ble_eq_true rfl)
  rw [lg_entry_eq]
  generalize (lg_sl ([.ref (kad g 5)]) ++ List.replicate (4 - (lg_sl ([.ref (kad g 5)])).length) Slot.unset).toArray = ls at hl ⊢
  have hl : lv_has ls 4 [(0, .ref (kad g 5))] := hl
  have J49 : ∀ (y1 : Int32) (γ : kS) (ad : Nat → Nat) (H : Heap) (locs : List Loc) (cells slots : Nat) (ls : Array Slot), f_Par_endGroup_j49 N y1 γ = some x → kI g A s α ad0 γ ad H locs cells slots → lv_has ls 4 [(1, .int y1), (0, .ref (kad g 5))] → W p l e (kR 34 987 α) s m ([.ref (kad g 5)]).toArray below meth c H locs cells slots (vEQ below (kQ g A α ad0 (kQr x)) ([.ref (kad g 5)]).toArray s A) (F0 m 49 ls []) := by
    intro y1 γ ad H locs cells slots ls h hI hl
    unfold f_Par_endGroup_j49 at h
    refine lv_aload_n hx hb d_Par_endGroup_49 rfl (lv_at hl 1 rfl) ?_
    refine kg_tV (As := []) (rest := []) (k_Par_unnest (l := l) (g := g) (α := γ) ) S hlocks hno E hI kw_Par_251 ⟨Nat.le_of_ble_eq_true rfl, Nat.le_of_ble_eq_true rfl⟩ (kv_Par E hI.1) rfl hl.1 rfl (Nat.le_of_ble_eq_true rfl) d_Par_endGroup_50 (fun ad H locs cells slots hRm hI => ?_)
    refine lv_aload_n hx hb d_Par_endGroup_53 rfl (lv_at hl 1 rfl) ?_
    refine lv_bipush (v := 18) hx hb d_Par_endGroup_54 (by decide) ?_
    refine kg_cV (As := [.int 18]) (rest := []) h (k_Par_expect (l := l) (g := g) (α := (f_Par_unnest γ)) hfl N 18) S hlocks hno E hI kw_Par_184 ⟨Nat.le_of_ble_eq_true rfl, Nat.le_of_ble_eq_true rfl⟩ (kv_Par E hI.1) rfl hl.1 rfl (Nat.le_of_ble_eq_true rfl) d_Par_endGroup_56 (fun α2 ad H locs cells slots e3 h hRm hI => ?_)
    refine lv_aload_n hx hb d_Par_endGroup_59 rfl (lv_at hl 1 rfl) ?_
    refine kf_Par_pending S E hI.1 vt_124 d_Par_endGroup_60 ?_
    refine kg_p (As := []) (rest := []) (k_Row_size (l := l) (g := g) (α := α2) (r := 10) (by decide)) S E hI.1 kw_Par_65 ⟨Nat.le_of_ble_eq_true rfl, Nat.le_of_ble_eq_true rfl⟩ hI.room (kv_Row (r := 10) (by decide) E hI.1) rfl hl.1 rfl (Nat.le_of_ble_eq_true rfl) d_Par_endGroup_63 rfl ?_
    refine lv_iload_n hx hb d_Par_endGroup_66 rfl (lv_at hl 0 rfl) ?_
    refine lv_isub hx hb d_Par_endGroup_67 ?_
    refine lv_istore_n (lv' := [(2, .int ((fR_size α2 10) - y1)), (1, .int y1), (0, .ref (kad g 5))]) hx hb d_Par_endGroup_68 rfl hl (by decide) rfl (fun ls hl => ?_)
    refine lv_iconst (v := 0) hx hb d_Par_endGroup_69 (by decide) ?_
    refine lv_istore_n (lv' := [(3, .int 0), (2, .int ((fR_size α2 10) - y1)), (1, .int y1), (0, .ref (kad g 5))]) hx hb d_Par_endGroup_70 rfl hl (by decide) rfl (fun ls hl => ?_)
    have L71 : ∀ (n71 : Nat) (x3 : Int32) (x2 : Int32) (x1 : Int32) (β : kS) (ad : Nat → Nat) (H : Heap) (locs : List Loc) (cells slots : Nat) (ls : Array Slot), f_Par_endGroup_71 N n71 x3 x2 x1 β = some x → kI g A s α ad0 β ad H locs cells slots → lv_has ls 4 [(3, .int x3), (2, .int x2), (1, .int x1), (0, .ref (kad g 5))] → W p l e (kR 34 987 α) s m ([.ref (kad g 5)]).toArray below meth c H locs cells slots (vEQ below (kQ g A α ad0 (kQr x)) ([.ref (kad g 5)]).toArray s A) (F0 m 71 ls []) := by
      intro n71
      induction n71 with
      | zero => intro x3 x2 x1 β ad H locs cells slots ls h hI hl; rw [f_Par_endGroup_71] at h; cases h
      | succ n71 ih71 =>
        intro x3 x2 x1 β ad H locs cells slots ls h hI hl
        rw [f_Par_endGroup_71] at h
        refine lv_iload_n hx hb d_Par_endGroup_71 rfl (lv_at hl 0 rfl) ?_
        refine lv_iload_n hx hb d_Par_endGroup_72 rfl (lv_at hl 2 rfl) ?_
        refine lv_icmp_ge (tgt := 119) hx hb d_Par_endGroup_73 (by decide) (fun c4 => ?_) (fun c4 => ?_)
        · replace h := Eq.trans (if_pos c4).symm h
          refine lv_aload_n hx hb d_Par_endGroup_119 rfl (lv_at hl 3 rfl) ?_
          refine kf_Par_pending S E hI.1 vt_124 d_Par_endGroup_120 ?_
          refine lv_iload_n hx hb d_Par_endGroup_123 rfl (lv_at hl 1 rfl) ?_
          refine kg_tV (As := [.int x2]) (rest := []) (k_Row_cut (l := l) (g := g) (α := β) (r := 10) (by decide) x2) S hlocks hno E hI kw_Par_79 ⟨Nat.le_of_ble_eq_true rfl, Nat.le_of_ble_eq_true rfl⟩ (kv_Row (r := 10) (by decide) E hI.1) rfl hl.1 rfl (Nat.le_of_ble_eq_true rfl) d_Par_endGroup_124 (fun ad H locs cells slots hRm hI => ?_)
          refine lv_aload_n hx hb d_Par_endGroup_127 rfl (lv_at hl 3 rfl) ?_
          refine kf_Par_open S E hI.1 vt_122 d_Par_endGroup_128 ?_
          refine lv_aload_n hx hb d_Par_endGroup_131 rfl (lv_at hl 3 rfl) ?_
          refine kf_Par_open S E hI.1 vt_122 d_Par_endGroup_132 ?_
          refine kg_p (As := []) (rest := [.ref (kad g (11 + 8))]) (k_Row_size (l := l) (g := g) (α := (fR_cut β 10 x2)) (r := 8) (by decide)) S E hI.1 kw_Par_65 ⟨Nat.le_of_ble_eq_true rfl, Nat.le_of_ble_eq_true rfl⟩ hI.room (kv_Row (r := 8) (by decide) E hI.1) rfl hl.1 rfl (Nat.le_of_ble_eq_true rfl) d_Par_endGroup_135 rfl ?_
          refine lv_iconst (v := 1) hx hb d_Par_endGroup_138 (by decide) ?_
          refine lv_isub hx hb d_Par_endGroup_139 ?_
          refine lv_aload_n hx hb d_Par_endGroup_140 rfl (lv_at hl 3 rfl) ?_
          refine lv_iconst (v := 2) hx hb d_Par_endGroup_141 (by decide) ?_
          refine kg_p (As := [.int 2]) (rest := [.int ((fR_size (fR_cut β 10 x2) 8) - 1), .ref (kad g (11 + 8))]) (k_Par_held (l := l) (g := g) (α := (fR_cut β 10 x2)) 2) S E hI.1 kw_Par_213 ⟨Nat.le_of_ble_eq_true rfl, Nat.le_of_ble_eq_true rfl⟩ hI.room (kv_Par E hI.1) rfl hl.1 rfl (Nat.le_of_ble_eq_true rfl) d_Par_endGroup_142 rfl ?_
          refine lv_iload_n hx hb d_Par_endGroup_145 rfl (lv_at hl 2 rfl) ?_
          refine lv_iadd hx hb d_Par_endGroup_146 ?_
          refine kg_tV (As := [.int ((fR_size (fR_cut β 10 x2) 8) - 1), .int ((f_Par_held 2 (fR_cut β 10 x2)) + x1)]) (rest := []) (k_Row_put (l := l) (g := g) (α := (fR_cut β 10 x2)) (r := 8) (by decide) ((fR_size (fR_cut β 10 x2) 8) - 1) ((f_Par_held 2 (fR_cut β 10 x2)) + x1)) S hlocks hno E hI kw_Par_257 ⟨Nat.le_of_ble_eq_true rfl, Nat.le_of_ble_eq_true rfl⟩ (kv_Row (r := 8) (by decide) E hI.1) rfl hl.1 rfl (Nat.le_of_ble_eq_true rfl) d_Par_endGroup_147 (fun ad H locs cells slots hRm hI => ?_)
          refine lv_aload_n hx hb d_Par_endGroup_150 rfl (lv_at hl 3 rfl) ?_
          refine kf_Par_lexer S E hI.1 vt_115 d_Par_endGroup_151 ?_
          refine kg_p (As := []) (rest := []) (k_Lex_kind (l := l) (g := g) (α := (fR_put (fR_cut β 10 x2) 8 ((fR_size (fR_cut β 10 x2) 8) - 1) ((f_Par_held 2 (fR_cut β 10 x2)) + x1))) ) S E hI.1 kw_Par_160 ⟨Nat.le_of_ble_eq_true rfl, Nat.le_of_ble_eq_true rfl⟩ hI.room (kv_Lex E hI.1) rfl hl.1 rfl (Nat.le_of_ble_eq_true rfl) d_Par_endGroup_154 rfl ?_
          refine lv_bipush (v := 17) hx hb d_Par_endGroup_157 (by decide) ?_
          refine lv_icmp_ne (tgt := 170) hx hb d_Par_endGroup_159 (by decide) (fun c5 => ?_) (fun c5 => ?_)
          · replace h := Eq.trans (if_neg c5).symm h
            refine lv_aload_n hx hb d_Par_endGroup_170 rfl (lv_at hl 3 rfl) ?_
            refine kg_cV (As := []) (rest := []) h (k_Par_startBody (l := l) (g := g) (α := (fR_put (fR_cut β 10 x2) 8 ((fR_size (fR_cut β 10 x2) 8) - 1) ((f_Par_held 2 (fR_cut β 10 x2)) + x1))) hfl N) S hlocks hno E hI kw_Par_260 ⟨Nat.le_of_ble_eq_true rfl, Nat.le_of_ble_eq_true rfl⟩ (kv_Par E hI.1) rfl hl.1 rfl (Nat.le_of_ble_eq_true rfl) d_Par_endGroup_171 (fun α6 ad H locs cells slots e7 h hRm hI => ?_)
            exact kc_vret hx hb hr hlocks E hI h d_Par_endGroup_174
          · replace h := Eq.trans (if_pos c5).symm h
            refine lv_aload_n hx hb d_Par_endGroup_162 rfl (lv_at hl 3 rfl) ?_
            refine lv_iconst (v := 3) hx hb d_Par_endGroup_163 (by decide) ?_
            refine kp_Par_state S E hI vt_340 d_Par_endGroup_164 (fun H locs hI => ?_)
            refine lv_goto (tgt := 174) hx hb d_Par_endGroup_167 (by decide) ?_
            exact kc_vret hx hb hr hlocks E hI h d_Par_endGroup_174
        · replace h := Eq.trans (if_neg c4).symm h
          refine lv_aload_n hx hb d_Par_endGroup_76 rfl (lv_at hl 3 rfl) ?_
          refine kf_Par_scope S E hI.1 vt_123 d_Par_endGroup_77 ?_
          refine lv_aload_n hx hb d_Par_endGroup_80 rfl (lv_at hl 3 rfl) ?_
          refine kf_Par_pending S E hI.1 vt_124 d_Par_endGroup_81 ?_
          refine lv_iload_n hx hb d_Par_endGroup_84 rfl (lv_at hl 1 rfl) ?_
          refine lv_iload_n hx hb d_Par_endGroup_85 rfl (lv_at hl 0 rfl) ?_
          refine lv_iadd hx hb d_Par_endGroup_86 ?_
          refine kg_p (As := [.int (x2 + x3)]) (rest := [.ref (kad g (11 + 9))]) (k_Row_at (l := l) (g := g) (α := β) (r := 10) (by decide) (x2 + x3)) S E hI.1 kw_Par_69 ⟨Nat.le_of_ble_eq_true rfl, Nat.le_of_ble_eq_true rfl⟩ hI.room (kv_Row (r := 10) (by decide) E hI.1) rfl hl.1 rfl (Nat.le_of_ble_eq_true rfl) d_Par_endGroup_87 rfl ?_
          refine kg_cV (As := [.int (fR_at β 10 (x2 + x3))]) (rest := []) h (k_Row_push (l := l) (g := g) (α := β) (r := 9) (by decide) (fR_at β 10 (x2 + x3))) S hlocks hno E hI kw_Par_204 ⟨Nat.le_of_ble_eq_true rfl, Nat.le_of_ble_eq_true rfl⟩ (kv_Row (r := 9) (by decide) E hI.1) rfl hl.1 rfl (Nat.le_of_ble_eq_true rfl) d_Par_endGroup_90 (fun α8 ad H locs cells slots e9 h hRm hI => ?_)
          refine lv_aload_n hx hb d_Par_endGroup_93 rfl (lv_at hl 3 rfl) ?_
          refine kf_Par_binders S E hI.1 vt_125 d_Par_endGroup_94 ?_
          refine lv_aload_n hx hb d_Par_endGroup_97 rfl (lv_at hl 3 rfl) ?_
          refine kf_Par_terms S E hI.1 vt_117 d_Par_endGroup_98 ?_
          refine lv_iconst (v := 3) hx hb d_Par_endGroup_101 (by decide) ?_
          refine lv_aload_n hx hb d_Par_endGroup_102 rfl (lv_at hl 3 rfl) ?_
          refine kf_Par_current S E hI.1 vt_496 d_Par_endGroup_103 ?_
          refine lv_iload_n hx hb d_Par_endGroup_106 rfl (lv_at hl 0 rfl) ?_
          refine kg_cI (As := [.int 3, .int (α8.1 15), .int x3]) (rest := [.ref (kad g (11 + 11))]) h (k_Terms_rewrite (l := l) (g := g) (α := α8) hfl N 3 (α8.1 15) x3) S hlocks hno E hI kw_Par_254 ⟨Nat.le_of_ble_eq_true rfl, Nat.le_of_ble_eq_true rfl⟩ (kv_Terms E hI.1) rfl hl.1 rfl (Nat.le_of_ble_eq_true rfl) d_Par_endGroup_107 (fun v12 α10 ad H locs cells slots e11 h hRm hI => ?_)
          refine kg_cV (As := [.int v12]) (rest := []) h (k_Row_push (l := l) (g := g) (α := α10) (r := 11) (by decide) v12) S hlocks hno E hI kw_Par_204 ⟨Nat.le_of_ble_eq_true rfl, Nat.le_of_ble_eq_true rfl⟩ (kv_Row (r := 11) (by decide) E hI.1) rfl hl.1 rfl (Nat.le_of_ble_eq_true rfl) d_Par_endGroup_110 (fun α13 ad H locs cells slots e14 h hRm hI => ?_)
          refine lv_iinc (v := (x3 + 1)) (lv' := [(3, .int (x3 + 1)), (2, .int x2), (1, .int x1), (0, .ref (kad g 5))]) hx hb d_Par_endGroup_113 hl (k := 0) rfl rfl (by decide) rfl (fun ls hl => ?_)
          refine lv_goto (tgt := 71) hx hb d_Par_endGroup_116 (by decide) ?_
          exact ih71 (x3 + 1) x2 x1 _ _ _ _ _ _ _ h hI (lv_sub hl [0, 1, 2, 3] rfl)
    exact L71 N 0 ((fR_size α2 10) - y1) y1 _ _ _ _ _ _ _ h hI (lv_sub hl [0, 1, 2, 3] rfl)
  refine lv_aload_n hx hb d_Par_endGroup_0 rfl (lv_at hl 0 rfl) ?_
  refine lv_iconst (v := 1) hx hb d_Par_endGroup_1 (by decide) ?_
  refine kg_p (As := [.int 1]) (rest := []) (k_Par_held (l := l) (g := g) (α := α) 1) S E hI.1 kw_Par_213 ⟨Nat.le_of_ble_eq_true rfl, Nat.le_of_ble_eq_true rfl⟩ hI.room (kv_Par E hI.1) rfl hl.1 rfl (Nat.le_of_ble_eq_true rfl) d_Par_endGroup_2 rfl ?_
  refine lv_istore_n (lv' := [(1, .int (f_Par_held 1 α)), (0, .ref (kad g 5))]) hx hb d_Par_endGroup_5 rfl hl (by decide) rfl (fun ls hl => ?_)
  refine lv_aload_n hx hb d_Par_endGroup_6 rfl (lv_at hl 1 rfl) ?_
  refine lv_dup hx hb d_Par_endGroup_7 rfl ?_
  refine kf_Par_copies S E hI.1 vt_329 d_Par_endGroup_8 ?_
  refine lv_aload_n hx hb d_Par_endGroup_11 rfl (lv_at hl 1 rfl) ?_
  refine kf_Par_terms S E hI.1 vt_117 d_Par_endGroup_12 ?_
  refine lv_aload_n hx hb d_Par_endGroup_15 rfl (lv_at hl 1 rfl) ?_
  refine kf_Par_current S E hI.1 vt_496 d_Par_endGroup_16 ?_
  refine kg_p (As := [.int (α.1 15)]) (rest := [.int (α.1 16), .ref (kad g 5)]) (k_Terms_size (l := l) (g := g) (α := α) (α.1 15)) S E hI.1 kw_Par_249 ⟨Nat.le_of_ble_eq_true rfl, Nat.le_of_ble_eq_true rfl⟩ hI.room (kv_Terms E hI.1) rfl hl.1 rfl (Nat.le_of_ble_eq_true rfl) d_Par_endGroup_19 rfl ?_
  refine lv_iload_n hx hb d_Par_endGroup_22 rfl (lv_at hl 0 rfl) ?_
  refine lv_iconst (v := 1) hx hb d_Par_endGroup_23 (by decide) ?_
  refine lv_isub hx hb d_Par_endGroup_24 ?_
  refine lv_imul hx hb d_Par_endGroup_25 ?_
  refine lv_iadd hx hb d_Par_endGroup_26 ?_
  refine kp_Par_copies S E hI vt_329 d_Par_endGroup_27 (fun H locs hI => ?_)
  refine lv_aload_n hx hb d_Par_endGroup_30 rfl (lv_at hl 1 rfl) ?_
  refine kf_Par_copies S E hI.1 vt_329 d_Par_endGroup_31 ?_
  refine lv_sipush (v := 6000) hx hb d_Par_endGroup_34 (by decide) ?_
  refine lv_icmp_le (tgt := 49) hx hb d_Par_endGroup_37 (by decide) (fun c1 => ?_) (fun c1 => ?_)
  · replace h := Eq.trans (if_pos c1).symm h
    exact J49 (f_Par_held 1 α) _ _ _ _ _ _ _ h hI (lv_sub hl [0, 1] rfl)
  · replace h := Eq.trans (if_neg c1).symm h
    refine lv_aload_n hx hb d_Par_endGroup_40 rfl (lv_at hl 1 rfl) ?_
    refine kf_Par_meter S E hI.1 vt_116 d_Par_endGroup_41 ?_
    refine lv_bipush (v := 10) hx hb d_Par_endGroup_44 (by decide) ?_
    refine kg_cV (As := [.int 10]) (rest := []) h (k_Meter_fail (l := l) (g := g) (α := (kSi α 16 ((α.1 16) + ((f_Terms_size (α.1 15) α) * ((f_Par_held 1 α) - 1))))) hfl N 10) S hlocks hno E hI kw_Par_154 ⟨Nat.le_of_ble_eq_true rfl, Nat.le_of_ble_eq_true rfl⟩ (kv_Meter E hI.1) rfl hl.1 rfl (Nat.le_of_ble_eq_true rfl) d_Par_endGroup_46 (fun α15 ad H locs cells slots e16 h hRm hI => ?_)
    exact J49 (f_Par_held 1 α) _ _ _ _ _ _ _ h hI (lv_sub hl [0, 1] rfl)
def f_Par_endBody_11 (N : Nat)  : Nat → Int32 → Int32 → kS → Option (kO × kS)
  | 0, _, _, _ => none
  | n + 1, x2, x1, β => if x2 ≤ 0 then (some (some none, (f_Par_beWhole x1 (f_Par_unnest β)))) else (kBi (f_Terms_make N (f_Par_held 1 β) (fR_pop β 11).1 x1 (fR_pop β 11).2) fun v4 α2 => (f_Par_endBody_11 N n (x2 + (-1)) v4 (fR_pop α2 9).2))
def f_Par_endBody (N : Nat)  (α : kS) : Option (kO × kS) := f_Par_endBody_11 N N (f_Par_held 2 α) (α.1 15) α
set_option maxHeartbeats 4000000 in
set_option maxRecDepth 100000 in
theorem k_Par_endBody {l : Launch} {g : kG} {α : kS} (hfl : kFl l) (N : Nat)   : ∀ x, f_Par_endBody N α = some x → kC l g y_Par_endBody b_Par_endBody 3 none 23 692 [.ref (kad g 5)] α (kQr x) := by
  intro x h
  unfold f_Par_endBody at h
  refine kc_ofW (by decide) (fun A ad0 p e s m args below meth c S hr hlocks hno hadm hargs E hI => ?_)
  have hx := S.1
  have hb := S.2.1
  have hown := S.2.2.2.1
  have hT := S.2.2.2.2
  subst hargs
  have hl := lv_entry ([.ref (kad g 5)]) (n := 3) (Nat.le_of_ble_eq_true rfl)
  rw [lg_entry_eq]
  generalize (lg_sl ([.ref (kad g 5)]) ++ List.replicate (3 - (lg_sl ([.ref (kad g 5)])).length) Slot.unset).toArray = ls at hl ⊢
  have hl : lv_has ls 3 [(0, .ref (kad g 5))] := hl
  refine lv_aload_n hx hb d_Par_endBody_0 rfl (lv_at hl 0 rfl) ?_
  refine kf_Par_current S E hI.1 vt_496 d_Par_endBody_1 ?_
  refine lv_istore_n (lv' := [(1, .int (α.1 15)), (0, .ref (kad g 5))]) hx hb d_Par_endBody_4 rfl hl (by decide) rfl (fun ls hl => ?_)
  refine lv_aload_n hx hb d_Par_endBody_5 rfl (lv_at hl 1 rfl) ?_
  refine lv_iconst (v := 2) hx hb d_Par_endBody_6 (by decide) ?_
  refine kg_p (As := [.int 2]) (rest := []) (k_Par_held (l := l) (g := g) (α := α) 2) S E hI.1 kw_Par_213 ⟨Nat.le_of_ble_eq_true rfl, Nat.le_of_ble_eq_true rfl⟩ hI.room (kv_Par E hI.1) rfl hl.1 rfl (Nat.le_of_ble_eq_true rfl) d_Par_endBody_7 rfl ?_
  refine lv_istore_n (lv' := [(2, .int (f_Par_held 2 α)), (1, .int (α.1 15)), (0, .ref (kad g 5))]) hx hb d_Par_endBody_10 rfl hl (by decide) rfl (fun ls hl => ?_)
  have L11 : ∀ (n11 : Nat) (x2 : Int32) (x1 : Int32) (β : kS) (ad : Nat → Nat) (H : Heap) (locs : List Loc) (cells slots : Nat) (ls : Array Slot), f_Par_endBody_11 N n11 x2 x1 β = some x → kI g A s α ad0 β ad H locs cells slots → lv_has ls 3 [(2, .int x2), (1, .int x1), (0, .ref (kad g 5))] → W p l e (kR 23 692 α) s m ([.ref (kad g 5)]).toArray below meth c H locs cells slots (vEQ below (kQ g A α ad0 (kQr x)) ([.ref (kad g 5)]).toArray s A) (F0 m 11 ls []) := by
    intro n11
    induction n11 with
    | zero => intro x2 x1 β ad H locs cells slots ls h hI hl; rw [f_Par_endBody_11] at h; cases h
    | succ n11 ih11 =>
      intro x2 x1 β ad H locs cells slots ls h hI hl
      rw [f_Par_endBody_11] at h
      refine lv_iload_n hx hb d_Par_endBody_11 rfl (lv_at hl 0 rfl) ?_
      refine lv_if_le (tgt := 50) hx hb d_Par_endBody_12 (by decide) (fun c1 => ?_) (fun c1 => ?_)
      · replace h := Eq.trans (if_pos c1).symm h
        refine lv_aload_n hx hb d_Par_endBody_50 rfl (lv_at hl 2 rfl) ?_
        refine kg_tV (As := []) (rest := []) (k_Par_unnest (l := l) (g := g) (α := β) ) S hlocks hno E hI kw_Par_251 ⟨Nat.le_of_ble_eq_true rfl, Nat.le_of_ble_eq_true rfl⟩ (kv_Par E hI.1) rfl hl.1 rfl (Nat.le_of_ble_eq_true rfl) d_Par_endBody_51 (fun ad H locs cells slots hRm hI => ?_)
        refine lv_aload_n hx hb d_Par_endBody_54 rfl (lv_at hl 2 rfl) ?_
        refine lv_iload_n hx hb d_Par_endBody_55 rfl (lv_at hl 1 rfl) ?_
        refine kg_tV (As := [.int x1]) (rest := []) (k_Par_beWhole (l := l) (g := g) (α := (f_Par_unnest β)) x1) S hlocks hno E hI kw_Par_233 ⟨Nat.le_of_ble_eq_true rfl, Nat.le_of_ble_eq_true rfl⟩ (kv_Par E hI.1) rfl hl.1 rfl (Nat.le_of_ble_eq_true rfl) d_Par_endBody_56 (fun ad H locs cells slots hRm hI => ?_)
        exact kc_vret hx hb hr hlocks E hI h d_Par_endBody_59
      · replace h := Eq.trans (if_neg c1).symm h
        refine lv_aload_n hx hb d_Par_endBody_15 rfl (lv_at hl 2 rfl) ?_
        refine kf_Par_terms S E hI.1 vt_117 d_Par_endBody_16 ?_
        refine lv_aload_n hx hb d_Par_endBody_19 rfl (lv_at hl 2 rfl) ?_
        refine lv_iconst (v := 1) hx hb d_Par_endBody_20 (by decide) ?_
        refine kg_p (As := [.int 1]) (rest := [.ref (kad g 2)]) (k_Par_held (l := l) (g := g) (α := β) 1) S E hI.1 kw_Par_213 ⟨Nat.le_of_ble_eq_true rfl, Nat.le_of_ble_eq_true rfl⟩ hI.room (kv_Par E hI.1) rfl hl.1 rfl (Nat.le_of_ble_eq_true rfl) d_Par_endBody_21 rfl ?_
        refine lv_aload_n hx hb d_Par_endBody_24 rfl (lv_at hl 2 rfl) ?_
        refine kf_Par_binders S E hI.1 vt_125 d_Par_endBody_25 ?_
        refine kg_tI (As := []) (rest := [.int (f_Par_held 1 β), .ref (kad g 2)]) (k_Row_pop (l := l) (g := g) (α := β) (r := 11) (by decide)) S hlocks hno E hI kw_Par_263 ⟨Nat.le_of_ble_eq_true rfl, Nat.le_of_ble_eq_true rfl⟩ (kv_Row (r := 11) (by decide) E hI.1) rfl hl.1 rfl (Nat.le_of_ble_eq_true rfl) d_Par_endBody_28 (fun ad H locs cells slots hRm hI => ?_)
        refine lv_iload_n hx hb d_Par_endBody_31 rfl (lv_at hl 1 rfl) ?_
        refine kg_cI (As := [.int (f_Par_held 1 β), .int (fR_pop β 11).1, .int x1]) (rest := []) h (k_Terms_make (l := l) (g := g) (α := (fR_pop β 11).2) hfl N (f_Par_held 1 β) (fR_pop β 11).1 x1) S hlocks hno E hI kw_Par_73 ⟨Nat.le_of_ble_eq_true rfl, Nat.le_of_ble_eq_true rfl⟩ (kv_Terms E hI.1) rfl hl.1 rfl (Nat.le_of_ble_eq_true rfl) d_Par_endBody_32 (fun v4 α2 ad H locs cells slots e3 h hRm hI => ?_)
        refine lv_istore_n (lv' := [(1, .int v4), (2, .int x2), (0, .ref (kad g 5))]) hx hb d_Par_endBody_35 rfl hl (by decide) rfl (fun ls hl => ?_)
        refine lv_aload_n hx hb d_Par_endBody_36 rfl (lv_at hl 2 rfl) ?_
        refine kf_Par_scope S E hI.1 vt_123 d_Par_endBody_37 ?_
        refine kg_tI (As := []) (rest := []) (k_Row_pop (l := l) (g := g) (α := α2) (r := 9) (by decide)) S hlocks hno E hI kw_Par_263 ⟨Nat.le_of_ble_eq_true rfl, Nat.le_of_ble_eq_true rfl⟩ (kv_Row (r := 9) (by decide) E hI.1) rfl hl.1 rfl (Nat.le_of_ble_eq_true rfl) d_Par_endBody_40 (fun ad H locs cells slots hRm hI => ?_)
        refine lv_pop hx hb d_Par_endBody_43 rfl ?_
        refine lv_iinc (v := (x2 + (-1))) (lv' := [(2, .int (x2 + (-1))), (1, .int v4), (0, .ref (kad g 5))]) hx hb d_Par_endBody_44 hl (k := 1) rfl rfl (by decide) rfl (fun ls hl => ?_)
        refine lv_goto (tgt := 11) hx hb d_Par_endBody_47 (by decide) ?_
        exact ih11 (x2 + (-1)) v4 _ _ _ _ _ _ _ h hI (lv_sub hl [0, 1, 2] rfl)
  exact L11 N (f_Par_held 2 α) (α.1 15) _ _ _ _ _ _ _ h hI (lv_sub hl [0, 1, 2] rfl)
def f_Par_endLetType (N : Nat)  (α : kS) : Option (kO × kS) := kBv (f_Par_expect N 25 (f_Par_unnest α)) fun α1 => (kBv (f_Par_nest N 10 (f_Par_held 1 α) (α1.1 15) α1) fun α3 => (some (some none, α3)))
set_option maxHeartbeats 4000000 in
set_option maxRecDepth 100000 in
theorem k_Par_endLetType {l : Launch} {g : kG} {α : kS} (hfl : kFl l) (N : Nat)   : ∀ x, f_Par_endLetType N α = some x → kC l g y_Par_endLetType b_Par_endLetType 2 none 34 990 [.ref (kad g 5)] α (kQr x) := by
  intro x h
  unfold f_Par_endLetType at h
  refine kc_ofW (by decide) (fun A ad0 p e s m args below meth c S hr hlocks hno hadm hargs E hI => ?_)
  have hx := S.1
  have hb := S.2.1
  have hown := S.2.2.2.1
  have hT := S.2.2.2.2
  subst hargs
  have hl := lv_entry ([.ref (kad g 5)]) (n := 2) (Nat.le_of_ble_eq_true rfl)
  rw [lg_entry_eq]
  generalize (lg_sl ([.ref (kad g 5)]) ++ List.replicate (2 - (lg_sl ([.ref (kad g 5)])).length) Slot.unset).toArray = ls at hl ⊢
  have hl : lv_has ls 2 [(0, .ref (kad g 5))] := hl
  refine lv_aload_n hx hb d_Par_endLetType_0 rfl (lv_at hl 0 rfl) ?_
  refine lv_iconst (v := 1) hx hb d_Par_endLetType_1 (by decide) ?_
  refine kg_p (As := [.int 1]) (rest := []) (k_Par_held (l := l) (g := g) (α := α) 1) S E hI.1 kw_Par_213 ⟨Nat.le_of_ble_eq_true rfl, Nat.le_of_ble_eq_true rfl⟩ hI.room (kv_Par E hI.1) rfl hl.1 rfl (Nat.le_of_ble_eq_true rfl) d_Par_endLetType_2 rfl ?_
  refine lv_istore_n (lv' := [(1, .int (f_Par_held 1 α)), (0, .ref (kad g 5))]) hx hb d_Par_endLetType_5 rfl hl (by decide) rfl (fun ls hl => ?_)
  refine lv_aload_n hx hb d_Par_endLetType_6 rfl (lv_at hl 1 rfl) ?_
  refine kg_tV (As := []) (rest := []) (k_Par_unnest (l := l) (g := g) (α := α) ) S hlocks hno E hI kw_Par_251 ⟨Nat.le_of_ble_eq_true rfl, Nat.le_of_ble_eq_true rfl⟩ (kv_Par E hI.1) rfl hl.1 rfl (Nat.le_of_ble_eq_true rfl) d_Par_endLetType_7 (fun ad H locs cells slots hRm hI => ?_)
  refine lv_aload_n hx hb d_Par_endLetType_10 rfl (lv_at hl 1 rfl) ?_
  refine lv_bipush (v := 25) hx hb d_Par_endLetType_11 (by decide) ?_
  refine kg_cV (As := [.int 25]) (rest := []) h (k_Par_expect (l := l) (g := g) (α := (f_Par_unnest α)) hfl N 25) S hlocks hno E hI kw_Par_184 ⟨Nat.le_of_ble_eq_true rfl, Nat.le_of_ble_eq_true rfl⟩ (kv_Par E hI.1) rfl hl.1 rfl (Nat.le_of_ble_eq_true rfl) d_Par_endLetType_13 (fun α1 ad H locs cells slots e2 h hRm hI => ?_)
  refine lv_aload_n hx hb d_Par_endLetType_16 rfl (lv_at hl 1 rfl) ?_
  refine lv_bipush (v := 10) hx hb d_Par_endLetType_17 (by decide) ?_
  refine lv_iload_n hx hb d_Par_endLetType_19 rfl (lv_at hl 0 rfl) ?_
  refine lv_aload_n hx hb d_Par_endLetType_20 rfl (lv_at hl 1 rfl) ?_
  refine kf_Par_current S E hI.1 vt_496 d_Par_endLetType_21 ?_
  refine kg_cV (As := [.int 10, .int (f_Par_held 1 α), .int (α1.1 15)]) (rest := []) h (k_Par_nest (l := l) (g := g) (α := α1) hfl N 10 (f_Par_held 1 α) (α1.1 15)) S hlocks hno E hI kw_Par_219 ⟨Nat.le_of_ble_eq_true rfl, Nat.le_of_ble_eq_true rfl⟩ (kv_Par E hI.1) rfl hl.1 rfl (Nat.le_of_ble_eq_true rfl) d_Par_endLetType_24 (fun α3 ad H locs cells slots e4 h hRm hI => ?_)
  exact kc_vret hx hb hr hlocks E hI h d_Par_endLetType_27
def f_Par_endLetValue (N : Nat)  (α : kS) : Option (kO × kS) := kBv (f_Par_expect N 13 (f_Par_unnest α)) fun α1 => (kBv (fR_push α1 9 (f_Par_held 1 α)) fun α3 => (kBv (f_Par_nest N 11 (f_Par_held 2 α) (α3.1 15) α3) fun α5 => (some (some none, α5))))
set_option maxHeartbeats 4000000 in
set_option maxRecDepth 100000 in
theorem k_Par_endLetValue {l : Launch} {g : kG} {α : kS} (hfl : kFl l) (N : Nat)   : ∀ x, f_Par_endLetValue N α = some x → kC l g y_Par_endLetValue b_Par_endLetValue 3 none 34 990 [.ref (kad g 5)] α (kQr x) := by
  intro x h
  unfold f_Par_endLetValue at h
  refine kc_ofW (by decide) (fun A ad0 p e s m args below meth c S hr hlocks hno hadm hargs E hI => ?_)
  have hx := S.1
  have hb := S.2.1
  have hown := S.2.2.2.1
  have hT := S.2.2.2.2
  subst hargs
  have hl := lv_entry ([.ref (kad g 5)]) (n := 3) (Nat.le_of_ble_eq_true rfl)
  rw [lg_entry_eq]
  generalize (lg_sl ([.ref (kad g 5)]) ++ List.replicate (3 - (lg_sl ([.ref (kad g 5)])).length) Slot.unset).toArray = ls at hl ⊢
  have hl : lv_has ls 3 [(0, .ref (kad g 5))] := hl
  refine lv_aload_n hx hb d_Par_endLetValue_0 rfl (lv_at hl 0 rfl) ?_
  refine lv_iconst (v := 1) hx hb d_Par_endLetValue_1 (by decide) ?_
  refine kg_p (As := [.int 1]) (rest := []) (k_Par_held (l := l) (g := g) (α := α) 1) S E hI.1 kw_Par_213 ⟨Nat.le_of_ble_eq_true rfl, Nat.le_of_ble_eq_true rfl⟩ hI.room (kv_Par E hI.1) rfl hl.1 rfl (Nat.le_of_ble_eq_true rfl) d_Par_endLetValue_2 rfl ?_
  refine lv_istore_n (lv' := [(1, .int (f_Par_held 1 α)), (0, .ref (kad g 5))]) hx hb d_Par_endLetValue_5 rfl hl (by decide) rfl (fun ls hl => ?_)
  refine lv_aload_n hx hb d_Par_endLetValue_6 rfl (lv_at hl 1 rfl) ?_
  refine lv_iconst (v := 2) hx hb d_Par_endLetValue_7 (by decide) ?_
  refine kg_p (As := [.int 2]) (rest := []) (k_Par_held (l := l) (g := g) (α := α) 2) S E hI.1 kw_Par_213 ⟨Nat.le_of_ble_eq_true rfl, Nat.le_of_ble_eq_true rfl⟩ hI.room (kv_Par E hI.1) rfl hl.1 rfl (Nat.le_of_ble_eq_true rfl) d_Par_endLetValue_8 rfl ?_
  refine lv_istore_n (lv' := [(2, .int (f_Par_held 2 α)), (1, .int (f_Par_held 1 α)), (0, .ref (kad g 5))]) hx hb d_Par_endLetValue_11 rfl hl (by decide) rfl (fun ls hl => ?_)
  refine lv_aload_n hx hb d_Par_endLetValue_12 rfl (lv_at hl 2 rfl) ?_
  refine kg_tV (As := []) (rest := []) (k_Par_unnest (l := l) (g := g) (α := α) ) S hlocks hno E hI kw_Par_251 ⟨Nat.le_of_ble_eq_true rfl, Nat.le_of_ble_eq_true rfl⟩ (kv_Par E hI.1) rfl hl.1 rfl (Nat.le_of_ble_eq_true rfl) d_Par_endLetValue_13 (fun ad H locs cells slots hRm hI => ?_)
  refine lv_aload_n hx hb d_Par_endLetValue_16 rfl (lv_at hl 2 rfl) ?_
  refine lv_bipush (v := 13) hx hb d_Par_endLetValue_17 (by decide) ?_
  refine kg_cV (As := [.int 13]) (rest := []) h (k_Par_expect (l := l) (g := g) (α := (f_Par_unnest α)) hfl N 13) S hlocks hno E hI kw_Par_184 ⟨Nat.le_of_ble_eq_true rfl, Nat.le_of_ble_eq_true rfl⟩ (kv_Par E hI.1) rfl hl.1 rfl (Nat.le_of_ble_eq_true rfl) d_Par_endLetValue_19 (fun α1 ad H locs cells slots e2 h hRm hI => ?_)
  refine lv_aload_n hx hb d_Par_endLetValue_22 rfl (lv_at hl 2 rfl) ?_
  refine kf_Par_scope S E hI.1 vt_123 d_Par_endLetValue_23 ?_
  refine lv_iload_n hx hb d_Par_endLetValue_26 rfl (lv_at hl 1 rfl) ?_
  refine kg_cV (As := [.int (f_Par_held 1 α)]) (rest := []) h (k_Row_push (l := l) (g := g) (α := α1) (r := 9) (by decide) (f_Par_held 1 α)) S hlocks hno E hI kw_Par_204 ⟨Nat.le_of_ble_eq_true rfl, Nat.le_of_ble_eq_true rfl⟩ (kv_Row (r := 9) (by decide) E hI.1) rfl hl.1 rfl (Nat.le_of_ble_eq_true rfl) d_Par_endLetValue_27 (fun α3 ad H locs cells slots e4 h hRm hI => ?_)
  refine lv_aload_n hx hb d_Par_endLetValue_30 rfl (lv_at hl 2 rfl) ?_
  refine lv_bipush (v := 11) hx hb d_Par_endLetValue_31 (by decide) ?_
  refine lv_iload_n hx hb d_Par_endLetValue_33 rfl (lv_at hl 0 rfl) ?_
  refine lv_aload_n hx hb d_Par_endLetValue_34 rfl (lv_at hl 2 rfl) ?_
  refine kf_Par_current S E hI.1 vt_496 d_Par_endLetValue_35 ?_
  refine kg_cV (As := [.int 11, .int (f_Par_held 2 α), .int (α3.1 15)]) (rest := []) h (k_Par_nest (l := l) (g := g) (α := α3) hfl N 11 (f_Par_held 2 α) (α3.1 15)) S hlocks hno E hI kw_Par_219 ⟨Nat.le_of_ble_eq_true rfl, Nat.le_of_ble_eq_true rfl⟩ (kv_Par E hI.1) rfl hl.1 rfl (Nat.le_of_ble_eq_true rfl) d_Par_endLetValue_38 (fun α5 ad H locs cells slots e6 h hRm hI => ?_)
  exact kc_vret hx hb hr hlocks E hI h d_Par_endLetValue_41
def f_Par_endLetBody (N : Nat)  (α : kS) : Option (kO × kS) := kBi (f_Terms_make N 9 (f_Par_held 2 α) (α.1 15) α) fun v3 α1 => (kBi (f_Terms_make N 8 (f_Par_held 1 α) v3 α1) fun v6 α4 => (some (some none, (f_Par_beWhole v6 (f_Par_unnest (fR_pop α4 9).2)))))
set_option maxHeartbeats 4000000 in
set_option maxRecDepth 100000 in
theorem k_Par_endLetBody {l : Launch} {g : kG} {α : kS} (hfl : kFl l) (N : Nat)   : ∀ x, f_Par_endLetBody N α = some x → kC l g y_Par_endLetBody b_Par_endLetBody 2 none 23 692 [.ref (kad g 5)] α (kQr x) := by
  intro x h
  unfold f_Par_endLetBody at h
  refine kc_ofW (by decide) (fun A ad0 p e s m args below meth c S hr hlocks hno hadm hargs E hI => ?_)
  have hx := S.1
  have hb := S.2.1
  have hown := S.2.2.2.1
  have hT := S.2.2.2.2
  subst hargs
  have hl := lv_entry ([.ref (kad g 5)]) (n := 2) (Nat.le_of_ble_eq_true rfl)
  rw [lg_entry_eq]
  generalize (lg_sl ([.ref (kad g 5)]) ++ List.replicate (2 - (lg_sl ([.ref (kad g 5)])).length) Slot.unset).toArray = ls at hl ⊢
  have hl : lv_has ls 2 [(0, .ref (kad g 5))] := hl
  refine lv_aload_n hx hb d_Par_endLetBody_0 rfl (lv_at hl 0 rfl) ?_
  refine kf_Par_terms S E hI.1 vt_117 d_Par_endLetBody_1 ?_
  refine lv_bipush (v := 8) hx hb d_Par_endLetBody_4 (by decide) ?_
  refine lv_aload_n hx hb d_Par_endLetBody_6 rfl (lv_at hl 0 rfl) ?_
  refine lv_iconst (v := 1) hx hb d_Par_endLetBody_7 (by decide) ?_
  refine kg_p (As := [.int 1]) (rest := [.int 8, .ref (kad g 2)]) (k_Par_held (l := l) (g := g) (α := α) 1) S E hI.1 kw_Par_213 ⟨Nat.le_of_ble_eq_true rfl, Nat.le_of_ble_eq_true rfl⟩ hI.room (kv_Par E hI.1) rfl hl.1 rfl (Nat.le_of_ble_eq_true rfl) d_Par_endLetBody_8 rfl ?_
  refine lv_aload_n hx hb d_Par_endLetBody_11 rfl (lv_at hl 0 rfl) ?_
  refine kf_Par_terms S E hI.1 vt_117 d_Par_endLetBody_12 ?_
  refine lv_bipush (v := 9) hx hb d_Par_endLetBody_15 (by decide) ?_
  refine lv_aload_n hx hb d_Par_endLetBody_17 rfl (lv_at hl 0 rfl) ?_
  refine lv_iconst (v := 2) hx hb d_Par_endLetBody_18 (by decide) ?_
  refine kg_p (As := [.int 2]) (rest := [.int 9, .ref (kad g 2), .int (f_Par_held 1 α), .int 8, .ref (kad g 2)]) (k_Par_held (l := l) (g := g) (α := α) 2) S E hI.1 kw_Par_213 ⟨Nat.le_of_ble_eq_true rfl, Nat.le_of_ble_eq_true rfl⟩ hI.room (kv_Par E hI.1) rfl hl.1 rfl (Nat.le_of_ble_eq_true rfl) d_Par_endLetBody_19 rfl ?_
  refine lv_aload_n hx hb d_Par_endLetBody_22 rfl (lv_at hl 0 rfl) ?_
  refine kf_Par_current S E hI.1 vt_496 d_Par_endLetBody_23 ?_
  refine kg_cI (As := [.int 9, .int (f_Par_held 2 α), .int (α.1 15)]) (rest := [.int (f_Par_held 1 α), .int 8, .ref (kad g 2)]) h (k_Terms_make (l := l) (g := g) (α := α) hfl N 9 (f_Par_held 2 α) (α.1 15)) S hlocks hno E hI kw_Par_73 ⟨Nat.le_of_ble_eq_true rfl, Nat.le_of_ble_eq_true rfl⟩ (kv_Terms E hI.1) rfl hl.1 rfl (Nat.le_of_ble_eq_true rfl) d_Par_endLetBody_26 (fun v3 α1 ad H locs cells slots e2 h hRm hI => ?_)
  refine kg_cI (As := [.int 8, .int (f_Par_held 1 α), .int v3]) (rest := []) h (k_Terms_make (l := l) (g := g) (α := α1) hfl N 8 (f_Par_held 1 α) v3) S hlocks hno E hI kw_Par_73 ⟨Nat.le_of_ble_eq_true rfl, Nat.le_of_ble_eq_true rfl⟩ (kv_Terms E hI.1) rfl hl.1 rfl (Nat.le_of_ble_eq_true rfl) d_Par_endLetBody_29 (fun v6 α4 ad H locs cells slots e5 h hRm hI => ?_)
  refine lv_istore_n (lv' := [(1, .int v6), (0, .ref (kad g 5))]) hx hb d_Par_endLetBody_32 rfl hl (by decide) rfl (fun ls hl => ?_)
  refine lv_aload_n hx hb d_Par_endLetBody_33 rfl (lv_at hl 1 rfl) ?_
  refine kf_Par_scope S E hI.1 vt_123 d_Par_endLetBody_34 ?_
  refine kg_tI (As := []) (rest := []) (k_Row_pop (l := l) (g := g) (α := α4) (r := 9) (by decide)) S hlocks hno E hI kw_Par_263 ⟨Nat.le_of_ble_eq_true rfl, Nat.le_of_ble_eq_true rfl⟩ (kv_Row (r := 9) (by decide) E hI.1) rfl hl.1 rfl (Nat.le_of_ble_eq_true rfl) d_Par_endLetBody_37 (fun ad H locs cells slots hRm hI => ?_)
  refine lv_pop hx hb d_Par_endLetBody_40 rfl ?_
  refine lv_aload_n hx hb d_Par_endLetBody_41 rfl (lv_at hl 1 rfl) ?_
  refine kg_tV (As := []) (rest := []) (k_Par_unnest (l := l) (g := g) (α := (fR_pop α4 9).2) ) S hlocks hno E hI kw_Par_251 ⟨Nat.le_of_ble_eq_true rfl, Nat.le_of_ble_eq_true rfl⟩ (kv_Par E hI.1) rfl hl.1 rfl (Nat.le_of_ble_eq_true rfl) d_Par_endLetBody_42 (fun ad H locs cells slots hRm hI => ?_)
  refine lv_aload_n hx hb d_Par_endLetBody_45 rfl (lv_at hl 1 rfl) ?_
  refine lv_iload_n hx hb d_Par_endLetBody_46 rfl (lv_at hl 0 rfl) ?_
  refine kg_tV (As := [.int v6]) (rest := []) (k_Par_beWhole (l := l) (g := g) (α := (f_Par_unnest (fR_pop α4 9).2)) v6) S hlocks hno E hI kw_Par_233 ⟨Nat.le_of_ble_eq_true rfl, Nat.le_of_ble_eq_true rfl⟩ (kv_Par E hI.1) rfl hl.1 rfl (Nat.le_of_ble_eq_true rfl) d_Par_endLetBody_47 (fun ad H locs cells slots hRm hI => ?_)
  exact kc_vret hx hb hr hlocks E hI h d_Par_endLetBody_50
def f_Par_endType_j28 (N : Nat)  (γ : kS) : Option (kO × kS) := kBv (f_Par_expect N 25 γ) fun α2 => (kBv (f_Par_await N 13 0 0 α2) fun α4 => (some (some none, α4)))
def f_Par_endType (N : Nat)  (α : kS) : Option (kO × kS) := if (f_Par_held 1 (kSi α 21 (α.1 15))) = 1 then (f_Par_endType_j28 N  (f_Par_drop (kSi α 21 (α.1 15)))) else (if (f_Par_held 1 (kSi α 21 (α.1 15))) = 2 then (f_Par_endType_j28 N  (f_Par_drop (kSi α 21 (α.1 15)))) else (kBv (f_Par_expect N 23 (f_Par_drop (kSi α 21 (α.1 15)))) fun α7 => (some (some none, (kSi α7 13 0)))))
set_option maxHeartbeats 4000000 in
set_option maxRecDepth 100000 in
theorem k_Par_endType {l : Launch} {g : kG} {α : kS} (hfl : kFl l) (N : Nat)   : ∀ x, f_Par_endType N α = some x → kC l g y_Par_endType b_Par_endType 2 none 33 967 [.ref (kad g 5)] α (kQr x) := by
  intro x h
  unfold f_Par_endType at h
  refine kc_ofW (by decide) (fun A ad0 p e s m args below meth c S hr hlocks hno hadm hargs E hI => ?_)
  have hx := S.1
  have hb := S.2.1
  have hown := S.2.2.2.1
  have hT := S.2.2.2.2
  subst hargs
  have hl := lv_entry ([.ref (kad g 5)]) (n := 2) (Nat.le_of_ble_eq_true rfl)
  rw [lg_entry_eq]
  generalize (lg_sl ([.ref (kad g 5)]) ++ List.replicate (2 - (lg_sl ([.ref (kad g 5)])).length) Slot.unset).toArray = ls at hl ⊢
  have hl : lv_has ls 2 [(0, .ref (kad g 5))] := hl
  have J28 : ∀ (γ : kS) (ad : Nat → Nat) (H : Heap) (locs : List Loc) (cells slots : Nat) (ls : Array Slot), f_Par_endType_j28 N γ = some x → kI g A s α ad0 γ ad H locs cells slots → lv_has ls 2 [(0, .ref (kad g 5))] → W p l e (kR 33 967 α) s m ([.ref (kad g 5)]).toArray below meth c H locs cells slots (vEQ below (kQ g A α ad0 (kQr x)) ([.ref (kad g 5)]).toArray s A) (F0 m 28 ls []) := by
    intro  γ ad H locs cells slots ls h hI hl
    unfold f_Par_endType_j28 at h
    refine lv_aload_n hx hb d_Par_endType_28 rfl (lv_at hl 0 rfl) ?_
    refine lv_bipush (v := 25) hx hb d_Par_endType_29 (by decide) ?_
    refine kg_cV (As := [.int 25]) (rest := []) h (k_Par_expect (l := l) (g := g) (α := γ) hfl N 25) S hlocks hno E hI kw_Par_184 ⟨Nat.le_of_ble_eq_true rfl, Nat.le_of_ble_eq_true rfl⟩ (kv_Par E hI.1) rfl hl.1 rfl (Nat.le_of_ble_eq_true rfl) d_Par_endType_31 (fun α2 ad H locs cells slots e3 h hRm hI => ?_)
    refine lv_aload_n hx hb d_Par_endType_34 rfl (lv_at hl 0 rfl) ?_
    refine lv_bipush (v := 13) hx hb d_Par_endType_35 (by decide) ?_
    refine lv_iconst (v := 0) hx hb d_Par_endType_37 (by decide) ?_
    refine lv_iconst (v := 0) hx hb d_Par_endType_38 (by decide) ?_
    refine kg_cV (As := [.int 13, .int 0, .int 0]) (rest := []) h (k_Par_await (l := l) (g := g) (α := α2) hfl N 13 0 0) S hlocks hno E hI kw_Par_177 ⟨Nat.le_of_ble_eq_true rfl, Nat.le_of_ble_eq_true rfl⟩ (kv_Par E hI.1) rfl hl.1 rfl (Nat.le_of_ble_eq_true rfl) d_Par_endType_39 (fun α4 ad H locs cells slots e5 h hRm hI => ?_)
    refine lv_goto (tgt := 56) hx hb d_Par_endType_42 (by decide) ?_
    exact kc_vret hx hb hr hlocks E hI h d_Par_endType_56
  refine lv_aload_n hx hb d_Par_endType_0 rfl (lv_at hl 0 rfl) ?_
  refine lv_aload_n hx hb d_Par_endType_1 rfl (lv_at hl 0 rfl) ?_
  refine kf_Par_current S E hI.1 vt_496 d_Par_endType_2 ?_
  refine kp_Par_type S E hI vt_334 d_Par_endType_5 (fun H locs hI => ?_)
  refine lv_aload_n hx hb d_Par_endType_8 rfl (lv_at hl 0 rfl) ?_
  refine lv_iconst (v := 1) hx hb d_Par_endType_9 (by decide) ?_
  refine kg_p (As := [.int 1]) (rest := []) (k_Par_held (l := l) (g := g) (α := (kSi α 21 (α.1 15))) 1) S E hI.1 kw_Par_213 ⟨Nat.le_of_ble_eq_true rfl, Nat.le_of_ble_eq_true rfl⟩ hI.room (kv_Par E hI.1) rfl hl.1 rfl (Nat.le_of_ble_eq_true rfl) d_Par_endType_10 rfl ?_
  refine lv_istore_n (lv' := [(1, .int (f_Par_held 1 (kSi α 21 (α.1 15)))), (0, .ref (kad g 5))]) hx hb d_Par_endType_13 rfl hl (by decide) rfl (fun ls hl => ?_)
  refine lv_aload_n hx hb d_Par_endType_14 rfl (lv_at hl 1 rfl) ?_
  refine kg_tV (As := []) (rest := []) (k_Par_drop (l := l) (g := g) (α := (kSi α 21 (α.1 15))) ) S hlocks hno E hI kw_Par_207 ⟨Nat.le_of_ble_eq_true rfl, Nat.le_of_ble_eq_true rfl⟩ (kv_Par E hI.1) rfl hl.1 rfl (Nat.le_of_ble_eq_true rfl) d_Par_endType_15 (fun ad H locs cells slots hRm hI => ?_)
  refine lv_iload_n hx hb d_Par_endType_18 rfl (lv_at hl 0 rfl) ?_
  refine lv_iconst (v := 1) hx hb d_Par_endType_19 (by decide) ?_
  refine lv_icmp_eq (tgt := 28) hx hb d_Par_endType_20 (by decide) (fun c1 => ?_) (fun c1 => ?_)
  · replace h := Eq.trans (if_pos c1).symm h
    exact J28  _ _ _ _ _ _ _ h hI (lv_sub hl [1] rfl)
  · replace h := Eq.trans (if_neg c1).symm h
    refine lv_iload_n hx hb d_Par_endType_23 rfl (lv_at hl 0 rfl) ?_
    refine lv_iconst (v := 2) hx hb d_Par_endType_24 (by decide) ?_
    refine lv_icmp_ne (tgt := 45) hx hb d_Par_endType_25 (by decide) (fun c6 => ?_) (fun c6 => ?_)
    · replace h := Eq.trans (if_neg c6).symm h
      refine lv_aload_n hx hb d_Par_endType_45 rfl (lv_at hl 1 rfl) ?_
      refine lv_bipush (v := 23) hx hb d_Par_endType_46 (by decide) ?_
      refine kg_cV (As := [.int 23]) (rest := []) h (k_Par_expect (l := l) (g := g) (α := (f_Par_drop (kSi α 21 (α.1 15)))) hfl N 23) S hlocks hno E hI kw_Par_184 ⟨Nat.le_of_ble_eq_true rfl, Nat.le_of_ble_eq_true rfl⟩ (kv_Par E hI.1) rfl hl.1 rfl (Nat.le_of_ble_eq_true rfl) d_Par_endType_48 (fun α7 ad H locs cells slots e8 h hRm hI => ?_)
      refine lv_aload_n hx hb d_Par_endType_51 rfl (lv_at hl 1 rfl) ?_
      refine lv_iconst (v := 0) hx hb d_Par_endType_52 (by decide) ?_
      refine kp_Par_state S E hI vt_340 d_Par_endType_53 (fun H locs hI => ?_)
      exact kc_vret hx hb hr hlocks E hI h d_Par_endType_56
    · replace h := Eq.trans (if_pos c6).symm h
      exact J28  _ _ _ _ _ _ _ h hI (lv_sub hl [1] rfl)
def f_Par_endValue (N : Nat)  (α : kS) : Option (kO × kS) := kBv (f_Par_expect N 23 (f_Par_drop (kSi α 22 (α.1 15)))) fun α1 => (some (some none, (kSi α1 13 0)))
set_option maxHeartbeats 4000000 in
set_option maxRecDepth 100000 in
theorem k_Par_endValue {l : Launch} {g : kG} {α : kS} (hfl : kFl l) (N : Nat)   : ∀ x, f_Par_endValue N α = some x → kC l g y_Par_endValue b_Par_endValue 1 none 13 363 [.ref (kad g 5)] α (kQr x) := by
  intro x h
  unfold f_Par_endValue at h
  refine kc_ofW (by decide) (fun A ad0 p e s m args below meth c S hr hlocks hno hadm hargs E hI => ?_)
  have hx := S.1
  have hb := S.2.1
  have hown := S.2.2.2.1
  have hT := S.2.2.2.2
  subst hargs
  have hl := lv_entry ([.ref (kad g 5)]) (n := 1) (Nat.le_of_ble_eq_true rfl)
  rw [lg_entry_eq]
  generalize (lg_sl ([.ref (kad g 5)]) ++ List.replicate (1 - (lg_sl ([.ref (kad g 5)])).length) Slot.unset).toArray = ls at hl ⊢
  have hl : lv_has ls 1 [(0, .ref (kad g 5))] := hl
  refine lv_aload_n hx hb d_Par_endValue_0 rfl (lv_at hl 0 rfl) ?_
  refine lv_aload_n hx hb d_Par_endValue_1 rfl (lv_at hl 0 rfl) ?_
  refine kf_Par_current S E hI.1 vt_496 d_Par_endValue_2 ?_
  refine kp_Par_value S E hI vt_335 d_Par_endValue_5 (fun H locs hI => ?_)
  refine lv_aload_n hx hb d_Par_endValue_8 rfl (lv_at hl 0 rfl) ?_
  refine kg_tV (As := []) (rest := []) (k_Par_drop (l := l) (g := g) (α := (kSi α 22 (α.1 15))) ) S hlocks hno E hI kw_Par_207 ⟨Nat.le_of_ble_eq_true rfl, Nat.le_of_ble_eq_true rfl⟩ (kv_Par E hI.1) rfl hl.1 rfl (Nat.le_of_ble_eq_true rfl) d_Par_endValue_9 (fun ad H locs cells slots hRm hI => ?_)
  refine lv_aload_n hx hb d_Par_endValue_12 rfl (lv_at hl 0 rfl) ?_
  refine lv_bipush (v := 23) hx hb d_Par_endValue_13 (by decide) ?_
  refine kg_cV (As := [.int 23]) (rest := []) h (k_Par_expect (l := l) (g := g) (α := (f_Par_drop (kSi α 22 (α.1 15)))) hfl N 23) S hlocks hno E hI kw_Par_184 ⟨Nat.le_of_ble_eq_true rfl, Nat.le_of_ble_eq_true rfl⟩ (kv_Par E hI.1) rfl hl.1 rfl (Nat.le_of_ble_eq_true rfl) d_Par_endValue_15 (fun α1 ad H locs cells slots e2 h hRm hI => ?_)
  refine lv_aload_n hx hb d_Par_endValue_18 rfl (lv_at hl 0 rfl) ?_
  refine lv_iconst (v := 0) hx hb d_Par_endValue_19 (by decide) ?_
  refine kp_Par_state S E hI vt_340 d_Par_endValue_20 (fun H locs hI => ?_)
  exact kc_vret hx hb hr hlocks E hI h d_Par_endValue_23
def f_Par_endChecked (N : Nat)  (α : kS) : Option (kO × kS) := kBv (f_Par_expect N 21 (f_Par_drop (kSi α 22 (α.1 15)))) fun α1 => (kBv (f_Par_await N 12 0 0 α1) fun α3 => (some (some none, α3)))
set_option maxHeartbeats 4000000 in
set_option maxRecDepth 100000 in
theorem k_Par_endChecked {l : Launch} {g : kG} {α : kS} (hfl : kFl l) (N : Nat)   : ∀ x, f_Par_endChecked N α = some x → kC l g y_Par_endChecked b_Par_endChecked 1 none 33 967 [.ref (kad g 5)] α (kQr x) := by
  intro x h
  unfold f_Par_endChecked at h
  refine kc_ofW (by decide) (fun A ad0 p e s m args below meth c S hr hlocks hno hadm hargs E hI => ?_)
  have hx := S.1
  have hb := S.2.1
  have hown := S.2.2.2.1
  have hT := S.2.2.2.2
  subst hargs
  have hl := lv_entry ([.ref (kad g 5)]) (n := 1) (Nat.le_of_ble_eq_true rfl)
  rw [lg_entry_eq]
  generalize (lg_sl ([.ref (kad g 5)]) ++ List.replicate (1 - (lg_sl ([.ref (kad g 5)])).length) Slot.unset).toArray = ls at hl ⊢
  have hl : lv_has ls 1 [(0, .ref (kad g 5))] := hl
  refine lv_aload_n hx hb d_Par_endChecked_0 rfl (lv_at hl 0 rfl) ?_
  refine lv_aload_n hx hb d_Par_endChecked_1 rfl (lv_at hl 0 rfl) ?_
  refine kf_Par_current S E hI.1 vt_496 d_Par_endChecked_2 ?_
  refine kp_Par_value S E hI vt_335 d_Par_endChecked_5 (fun H locs hI => ?_)
  refine lv_aload_n hx hb d_Par_endChecked_8 rfl (lv_at hl 0 rfl) ?_
  refine kg_tV (As := []) (rest := []) (k_Par_drop (l := l) (g := g) (α := (kSi α 22 (α.1 15))) ) S hlocks hno E hI kw_Par_207 ⟨Nat.le_of_ble_eq_true rfl, Nat.le_of_ble_eq_true rfl⟩ (kv_Par E hI.1) rfl hl.1 rfl (Nat.le_of_ble_eq_true rfl) d_Par_endChecked_9 (fun ad H locs cells slots hRm hI => ?_)
  refine lv_aload_n hx hb d_Par_endChecked_12 rfl (lv_at hl 0 rfl) ?_
  refine lv_bipush (v := 21) hx hb d_Par_endChecked_13 (by decide) ?_
  refine kg_cV (As := [.int 21]) (rest := []) h (k_Par_expect (l := l) (g := g) (α := (f_Par_drop (kSi α 22 (α.1 15)))) hfl N 21) S hlocks hno E hI kw_Par_184 ⟨Nat.le_of_ble_eq_true rfl, Nat.le_of_ble_eq_true rfl⟩ (kv_Par E hI.1) rfl hl.1 rfl (Nat.le_of_ble_eq_true rfl) d_Par_endChecked_15 (fun α1 ad H locs cells slots e2 h hRm hI => ?_)
  refine lv_aload_n hx hb d_Par_endChecked_18 rfl (lv_at hl 0 rfl) ?_
  refine lv_bipush (v := 12) hx hb d_Par_endChecked_19 (by decide) ?_
  refine lv_iconst (v := 0) hx hb d_Par_endChecked_21 (by decide) ?_
  refine lv_iconst (v := 0) hx hb d_Par_endChecked_22 (by decide) ?_
  refine kg_cV (As := [.int 12, .int 0, .int 0]) (rest := []) h (k_Par_await (l := l) (g := g) (α := α1) hfl N 12 0 0) S hlocks hno E hI kw_Par_177 ⟨Nat.le_of_ble_eq_true rfl, Nat.le_of_ble_eq_true rfl⟩ (kv_Par E hI.1) rfl hl.1 rfl (Nat.le_of_ble_eq_true rfl) d_Par_endChecked_23 (fun α3 ad H locs cells slots e4 h hRm hI => ?_)
  exact kc_vret hx hb hr hlocks E hI h d_Par_endChecked_26
def f_Par_overParameters_12 (N : Nat)  : Nat → Int32 → Int32 → kS → Option (kO × kS)
  | 0, _, _, _ => none
  | n + 1, x3, x2, β => if x3 < 0 then (some (some (some x2), β)) else (kBi (f_Terms_make N 6 (fR_at β 11 x3) x2 β) fun v4 α2 => (f_Par_overParameters_12 N n (x3 + (-1)) v4 α2))
def f_Par_overParameters (N : Nat) (a1 : Int32) (α : kS) : Option (kO × kS) := f_Par_overParameters_12 N N ((fR_size α 11) - 1) a1 α
set_option maxHeartbeats 4000000 in
set_option maxRecDepth 100000 in
theorem k_Par_overParameters {l : Launch} {g : kG} {α : kS} (hfl : kFl l) (N : Nat) (a1 : Int32)  : ∀ x, f_Par_overParameters N a1 α = some x → kC l g y_Par_overParameters b_Par_overParameters 4 (some .int) 23 692 [.ref (kad g 5), .int a1] α (kQr x) := by
  intro x h
  unfold f_Par_overParameters at h
  refine kc_ofW (by decide) (fun A ad0 p e s m args below meth c S hr hlocks hno hadm hargs E hI => ?_)
  have hx := S.1
  have hb := S.2.1
  have hown := S.2.2.2.1
  have hT := S.2.2.2.2
  subst hargs
  have hl := lv_entry ([.ref (kad g 5), .int a1]) (n := 4) (Nat.le_of_ble_eq_true rfl)
  rw [lg_entry_eq]
  generalize (lg_sl ([.ref (kad g 5), .int a1]) ++ List.replicate (4 - (lg_sl ([.ref (kad g 5), .int a1])).length) Slot.unset).toArray = ls at hl ⊢
  have hl : lv_has ls 4 [(0, .ref (kad g 5)), (1, .int a1)] := hl
  refine lv_iload_n hx hb d_Par_overParameters_0 rfl (lv_at hl 1 rfl) ?_
  refine lv_istore_n (lv' := [(2, .int a1), (0, .ref (kad g 5)), (1, .int a1)]) hx hb d_Par_overParameters_1 rfl hl (by decide) rfl (fun ls hl => ?_)
  refine lv_aload_n hx hb d_Par_overParameters_2 rfl (lv_at hl 1 rfl) ?_
  refine kf_Par_binders S E hI.1 vt_125 d_Par_overParameters_3 ?_
  refine kg_p (As := []) (rest := []) (k_Row_size (l := l) (g := g) (α := α) (r := 11) (by decide)) S E hI.1 kw_Par_65 ⟨Nat.le_of_ble_eq_true rfl, Nat.le_of_ble_eq_true rfl⟩ hI.room (kv_Row (r := 11) (by decide) E hI.1) rfl hl.1 rfl (Nat.le_of_ble_eq_true rfl) d_Par_overParameters_6 rfl ?_
  refine lv_iconst (v := 1) hx hb d_Par_overParameters_9 (by decide) ?_
  refine lv_isub hx hb d_Par_overParameters_10 ?_
  refine lv_istore_n (lv' := [(3, .int ((fR_size α 11) - 1)), (2, .int a1), (0, .ref (kad g 5)), (1, .int a1)]) hx hb d_Par_overParameters_11 rfl hl (by decide) rfl (fun ls hl => ?_)
  have L12 : ∀ (n12 : Nat) (x3 : Int32) (x2 : Int32) (β : kS) (ad : Nat → Nat) (H : Heap) (locs : List Loc) (cells slots : Nat) (ls : Array Slot), f_Par_overParameters_12 N n12 x3 x2 β = some x → kI g A s α ad0 β ad H locs cells slots → lv_has ls 4 [(3, .int x3), (2, .int x2), (0, .ref (kad g 5))] → W p l e (kR 23 692 α) s m ([.ref (kad g 5), .int a1]).toArray below meth c H locs cells slots (vEQ below (kQ g A α ad0 (kQr x)) ([.ref (kad g 5), .int a1]).toArray s A) (F0 m 12 ls []) := by
    intro n12
    induction n12 with
    | zero => intro x3 x2 β ad H locs cells slots ls h hI hl; rw [f_Par_overParameters_12] at h; cases h
    | succ n12 ih12 =>
      intro x3 x2 β ad H locs cells slots ls h hI hl
      rw [f_Par_overParameters_12] at h
      refine lv_iload_n hx hb d_Par_overParameters_12 rfl (lv_at hl 0 rfl) ?_
      refine lv_if_lt (tgt := 41) hx hb d_Par_overParameters_13 (by decide) (fun c1 => ?_) (fun c1 => ?_)
      · replace h := Eq.trans (if_pos c1).symm h
        refine lv_iload_n hx hb d_Par_overParameters_41 rfl (lv_at hl 1 rfl) ?_
        exact kc_iret (w := x2) hx hb hr rfl hlocks E hI h d_Par_overParameters_42
      · replace h := Eq.trans (if_neg c1).symm h
        refine lv_aload_n hx hb d_Par_overParameters_16 rfl (lv_at hl 2 rfl) ?_
        refine kf_Par_terms S E hI.1 vt_117 d_Par_overParameters_17 ?_
        refine lv_bipush (v := 6) hx hb d_Par_overParameters_20 (by decide) ?_
        refine lv_aload_n hx hb d_Par_overParameters_22 rfl (lv_at hl 2 rfl) ?_
        refine kf_Par_binders S E hI.1 vt_125 d_Par_overParameters_23 ?_
        refine lv_iload_n hx hb d_Par_overParameters_26 rfl (lv_at hl 0 rfl) ?_
        refine kg_p (As := [.int x3]) (rest := [.int 6, .ref (kad g 2)]) (k_Row_at (l := l) (g := g) (α := β) (r := 11) (by decide) x3) S E hI.1 kw_Par_69 ⟨Nat.le_of_ble_eq_true rfl, Nat.le_of_ble_eq_true rfl⟩ hI.room (kv_Row (r := 11) (by decide) E hI.1) rfl hl.1 rfl (Nat.le_of_ble_eq_true rfl) d_Par_overParameters_27 rfl ?_
        refine lv_iload_n hx hb d_Par_overParameters_30 rfl (lv_at hl 1 rfl) ?_
        refine kg_cI (As := [.int 6, .int (fR_at β 11 x3), .int x2]) (rest := []) h (k_Terms_make (l := l) (g := g) (α := β) hfl N 6 (fR_at β 11 x3) x2) S hlocks hno E hI kw_Par_73 ⟨Nat.le_of_ble_eq_true rfl, Nat.le_of_ble_eq_true rfl⟩ (kv_Terms E hI.1) rfl hl.1 rfl (Nat.le_of_ble_eq_true rfl) d_Par_overParameters_31 (fun v4 α2 ad H locs cells slots e3 h hRm hI => ?_)
        refine lv_istore_n (lv' := [(2, .int v4), (3, .int x3), (0, .ref (kad g 5))]) hx hb d_Par_overParameters_34 rfl hl (by decide) rfl (fun ls hl => ?_)
        refine lv_iinc (v := (x3 + (-1))) (lv' := [(3, .int (x3 + (-1))), (2, .int v4), (0, .ref (kad g 5))]) hx hb d_Par_overParameters_35 hl (k := 1) rfl rfl (by decide) rfl (fun ls hl => ?_)
        refine lv_goto (tgt := 12) hx hb d_Par_overParameters_38 (by decide) ?_
        exact ih12 (x3 + (-1)) v4 _ _ _ _ _ _ _ h hI (lv_sub hl [0, 1, 2] rfl)
  exact L12 N ((fR_size α 11) - 1) a1 _ _ _ _ _ _ _ h hI (lv_sub hl [0, 1, 2] rfl)
theorem kw_Par_266 : kWv "FamilyKernel$Parser" 266 "FamilyKernel$Parser" y_Par_overParameters b_Par_overParameters 4 (some .int) 1 := ⟨vt_642, vt_643, vt_644, vt_40, vt_645, by decide, by decide, by decide +kernel⟩
theorem kw_Par_269 : kWv "FamilyKernel$Parser" 269 "FamilyKernel$Environment" y_Env_fix b_Env_fix 4 none 3 := ⟨vt_646, vt_484, vt_485, vt_26, vt_486, by decide, by decide, by decide +kernel⟩
def f_Par_endFamilyType (N : Nat)  (α : kS) : Option (kO × kS) := kBv (f_Par_expect N 25 (f_Par_drop (kSi α 21 (α.1 15)))) fun α1 => (kBv (f_Par_expect N 19 α1) fun α3 => (kBi (f_Par_overParameters N (α3.1 21) α3) fun v7 α5 => (some (some none, (kSi (kSi (kSi (f_Env_fix (α5.1 19) 1 v7 α5) 17 (f_Terms_size v7 (f_Env_fix (α5.1 19) 1 v7 α5))) 18 (((f_Env_fix (α5.1 19) 1 v7 α5).1 19) + 1)) 13 4)))))
set_option maxHeartbeats 4000000 in
set_option maxRecDepth 100000 in
theorem k_Par_endFamilyType {l : Launch} {g : kG} {α : kS} (hfl : kFl l) (N : Nat)   : ∀ x, f_Par_endFamilyType N α = some x → kC l g y_Par_endFamilyType b_Par_endFamilyType 2 none 24 715 [.ref (kad g 5)] α (kQr x) := by
  intro x h
  unfold f_Par_endFamilyType at h
  refine kc_ofW (by decide) (fun A ad0 p e s m args below meth c S hr hlocks hno hadm hargs E hI => ?_)
  have hx := S.1
  have hb := S.2.1
  have hown := S.2.2.2.1
  have hT := S.2.2.2.2
  subst hargs
  have hl := lv_entry ([.ref (kad g 5)]) (n := 2) (Nat.le_of_ble_eq_true rfl)
  rw [lg_entry_eq]
  generalize (lg_sl ([.ref (kad g 5)]) ++ List.replicate (2 - (lg_sl ([.ref (kad g 5)])).length) Slot.unset).toArray = ls at hl ⊢
  have hl : lv_has ls 2 [(0, .ref (kad g 5))] := hl
  refine lv_aload_n hx hb d_Par_endFamilyType_0 rfl (lv_at hl 0 rfl) ?_
  refine lv_aload_n hx hb d_Par_endFamilyType_1 rfl (lv_at hl 0 rfl) ?_
  refine kf_Par_current S E hI.1 vt_496 d_Par_endFamilyType_2 ?_
  refine kp_Par_type S E hI vt_334 d_Par_endFamilyType_5 (fun H locs hI => ?_)
  refine lv_aload_n hx hb d_Par_endFamilyType_8 rfl (lv_at hl 0 rfl) ?_
  refine kg_tV (As := []) (rest := []) (k_Par_drop (l := l) (g := g) (α := (kSi α 21 (α.1 15))) ) S hlocks hno E hI kw_Par_207 ⟨Nat.le_of_ble_eq_true rfl, Nat.le_of_ble_eq_true rfl⟩ (kv_Par E hI.1) rfl hl.1 rfl (Nat.le_of_ble_eq_true rfl) d_Par_endFamilyType_9 (fun ad H locs cells slots hRm hI => ?_)
  refine lv_aload_n hx hb d_Par_endFamilyType_12 rfl (lv_at hl 0 rfl) ?_
  refine lv_bipush (v := 25) hx hb d_Par_endFamilyType_13 (by decide) ?_
  refine kg_cV (As := [.int 25]) (rest := []) h (k_Par_expect (l := l) (g := g) (α := (f_Par_drop (kSi α 21 (α.1 15)))) hfl N 25) S hlocks hno E hI kw_Par_184 ⟨Nat.le_of_ble_eq_true rfl, Nat.le_of_ble_eq_true rfl⟩ (kv_Par E hI.1) rfl hl.1 rfl (Nat.le_of_ble_eq_true rfl) d_Par_endFamilyType_15 (fun α1 ad H locs cells slots e2 h hRm hI => ?_)
  refine lv_aload_n hx hb d_Par_endFamilyType_18 rfl (lv_at hl 0 rfl) ?_
  refine lv_bipush (v := 19) hx hb d_Par_endFamilyType_19 (by decide) ?_
  refine kg_cV (As := [.int 19]) (rest := []) h (k_Par_expect (l := l) (g := g) (α := α1) hfl N 19) S hlocks hno E hI kw_Par_184 ⟨Nat.le_of_ble_eq_true rfl, Nat.le_of_ble_eq_true rfl⟩ (kv_Par E hI.1) rfl hl.1 rfl (Nat.le_of_ble_eq_true rfl) d_Par_endFamilyType_21 (fun α3 ad H locs cells slots e4 h hRm hI => ?_)
  refine lv_aload_n hx hb d_Par_endFamilyType_24 rfl (lv_at hl 0 rfl) ?_
  refine lv_aload_n hx hb d_Par_endFamilyType_25 rfl (lv_at hl 0 rfl) ?_
  refine kf_Par_type S E hI.1 vt_334 d_Par_endFamilyType_26 ?_
  refine kg_cI (As := [.int (α3.1 21)]) (rest := []) h (k_Par_overParameters (l := l) (g := g) (α := α3) hfl N (α3.1 21)) S hlocks hno E hI kw_Par_266 ⟨Nat.le_of_ble_eq_true rfl, Nat.le_of_ble_eq_true rfl⟩ (kv_Par E hI.1) rfl hl.1 rfl (Nat.le_of_ble_eq_true rfl) d_Par_endFamilyType_29 (fun v7 α5 ad H locs cells slots e6 h hRm hI => ?_)
  refine lv_istore_n (lv' := [(1, .int v7), (0, .ref (kad g 5))]) hx hb d_Par_endFamilyType_32 rfl hl (by decide) rfl (fun ls hl => ?_)
  refine lv_aload_n hx hb d_Par_endFamilyType_33 rfl (lv_at hl 1 rfl) ?_
  refine kf_Par_environment S E hI.1 vt_118 d_Par_endFamilyType_34 ?_
  refine lv_aload_n hx hb d_Par_endFamilyType_37 rfl (lv_at hl 1 rfl) ?_
  refine kf_Par_constant S E hI.1 vt_333 d_Par_endFamilyType_38 ?_
  refine lv_iconst (v := 1) hx hb d_Par_endFamilyType_41 (by decide) ?_
  refine lv_iload_n hx hb d_Par_endFamilyType_42 rfl (lv_at hl 0 rfl) ?_
  refine kg_tV (As := [.int (α5.1 19), .int 1, .int v7]) (rest := []) (k_Env_fix (l := l) (g := g) (α := α5) (α5.1 19) 1 v7) S hlocks hno E hI kw_Par_269 ⟨Nat.le_of_ble_eq_true rfl, Nat.le_of_ble_eq_true rfl⟩ (kv_Env E hI.1) rfl hl.1 rfl (Nat.le_of_ble_eq_true rfl) d_Par_endFamilyType_43 (fun ad H locs cells slots hRm hI => ?_)
  refine lv_aload_n hx hb d_Par_endFamilyType_46 rfl (lv_at hl 1 rfl) ?_
  refine lv_aload_n hx hb d_Par_endFamilyType_47 rfl (lv_at hl 1 rfl) ?_
  refine kf_Par_terms S E hI.1 vt_117 d_Par_endFamilyType_48 ?_
  refine lv_iload_n hx hb d_Par_endFamilyType_51 rfl (lv_at hl 0 rfl) ?_
  refine kg_p (As := [.int v7]) (rest := [.ref (kad g 5)]) (k_Terms_size (l := l) (g := g) (α := (f_Env_fix (α5.1 19) 1 v7 α5)) v7) S E hI.1 kw_Par_249 ⟨Nat.le_of_ble_eq_true rfl, Nat.le_of_ble_eq_true rfl⟩ hI.room (kv_Terms E hI.1) rfl hl.1 rfl (Nat.le_of_ble_eq_true rfl) d_Par_endFamilyType_52 rfl ?_
  refine kp_Par_textSize S E hI vt_330 d_Par_endFamilyType_55 (fun H locs hI => ?_)
  refine lv_aload_n hx hb d_Par_endFamilyType_58 rfl (lv_at hl 1 rfl) ?_
  refine lv_aload_n hx hb d_Par_endFamilyType_59 rfl (lv_at hl 1 rfl) ?_
  refine kf_Par_constant S E hI.1 vt_333 d_Par_endFamilyType_60 ?_
  refine lv_iconst (v := 1) hx hb d_Par_endFamilyType_63 (by decide) ?_
  refine lv_iadd hx hb d_Par_endFamilyType_64 ?_
  refine kp_Par_known S E hI vt_332 d_Par_endFamilyType_65 (fun H locs hI => ?_)
  refine lv_aload_n hx hb d_Par_endFamilyType_68 rfl (lv_at hl 1 rfl) ?_
  refine lv_iconst (v := 4) hx hb d_Par_endFamilyType_69 (by decide) ?_
  refine kp_Par_state S E hI vt_340 d_Par_endFamilyType_70 (fun H locs hI => ?_)
  exact kc_vret hx hb hr hlocks E hI h d_Par_endFamilyType_73
def f_Par_endMember  (α : kS) : kS := (kSi (f_Par_drop (kSi (f_Env_fix (f_Par_held 1 α) 1 (α.1 15) α) 17 (((f_Env_fix (f_Par_held 1 α) 1 (α.1 15) α).1 17) + (f_Terms_size ((f_Env_fix (f_Par_held 1 α) 1 (α.1 15) α).1 15) (f_Env_fix (f_Par_held 1 α) 1 (α.1 15) α))))) 13 4)
set_option maxHeartbeats 4000000 in
set_option maxRecDepth 100000 in
theorem k_Par_endMember {l : Launch} {g : kG} {α : kS}   : kC l g y_Par_endMember b_Par_endMember 1 none 12 345 [.ref (kad g 5)] α (kQr (some none, f_Par_endMember α)) := by
  generalize h : f_Par_endMember α = x
  unfold f_Par_endMember at h
  refine kc_ofW (by decide) (fun A ad0 p e s m args below meth c S hr hlocks hno hadm hargs E hI => ?_)
  have hx := S.1
  have hb := S.2.1
  have hown := S.2.2.2.1
  have hT := S.2.2.2.2
  subst hargs
  have hl := lv_entry ([.ref (kad g 5)]) (n := 1) (Nat.le_of_ble_eq_true rfl)
  rw [lg_entry_eq]
  generalize (lg_sl ([.ref (kad g 5)]) ++ List.replicate (1 - (lg_sl ([.ref (kad g 5)])).length) Slot.unset).toArray = ls at hl ⊢
  have hl : lv_has ls 1 [(0, .ref (kad g 5))] := hl
  refine lv_aload_n hx hb d_Par_endMember_0 rfl (lv_at hl 0 rfl) ?_
  refine kf_Par_environment S E hI.1 vt_118 d_Par_endMember_1 ?_
  refine lv_aload_n hx hb d_Par_endMember_4 rfl (lv_at hl 0 rfl) ?_
  refine lv_iconst (v := 1) hx hb d_Par_endMember_5 (by decide) ?_
  refine kg_p (As := [.int 1]) (rest := [.ref (kad g 3)]) (k_Par_held (l := l) (g := g) (α := α) 1) S E hI.1 kw_Par_213 ⟨Nat.le_of_ble_eq_true rfl, Nat.le_of_ble_eq_true rfl⟩ hI.room (kv_Par E hI.1) rfl hl.1 rfl (Nat.le_of_ble_eq_true rfl) d_Par_endMember_6 rfl ?_
  refine lv_iconst (v := 1) hx hb d_Par_endMember_9 (by decide) ?_
  refine lv_aload_n hx hb d_Par_endMember_10 rfl (lv_at hl 0 rfl) ?_
  refine kf_Par_current S E hI.1 vt_496 d_Par_endMember_11 ?_
  refine kg_tV (As := [.int (f_Par_held 1 α), .int 1, .int (α.1 15)]) (rest := []) (k_Env_fix (l := l) (g := g) (α := α) (f_Par_held 1 α) 1 (α.1 15)) S hlocks hno E hI kw_Par_269 ⟨Nat.le_of_ble_eq_true rfl, Nat.le_of_ble_eq_true rfl⟩ (kv_Env E hI.1) rfl hl.1 rfl (Nat.le_of_ble_eq_true rfl) d_Par_endMember_14 (fun ad H locs cells slots hRm hI => ?_)
  refine lv_aload_n hx hb d_Par_endMember_17 rfl (lv_at hl 0 rfl) ?_
  refine lv_dup hx hb d_Par_endMember_18 rfl ?_
  refine kf_Par_textSize S E hI.1 vt_330 d_Par_endMember_19 ?_
  refine lv_aload_n hx hb d_Par_endMember_22 rfl (lv_at hl 0 rfl) ?_
  refine kf_Par_terms S E hI.1 vt_117 d_Par_endMember_23 ?_
  refine lv_aload_n hx hb d_Par_endMember_26 rfl (lv_at hl 0 rfl) ?_
  refine kf_Par_current S E hI.1 vt_496 d_Par_endMember_27 ?_
  refine kg_p (As := [.int ((f_Env_fix (f_Par_held 1 α) 1 (α.1 15) α).1 15)]) (rest := [.int ((f_Env_fix (f_Par_held 1 α) 1 (α.1 15) α).1 17), .ref (kad g 5)]) (k_Terms_size (l := l) (g := g) (α := (f_Env_fix (f_Par_held 1 α) 1 (α.1 15) α)) ((f_Env_fix (f_Par_held 1 α) 1 (α.1 15) α).1 15)) S E hI.1 kw_Par_249 ⟨Nat.le_of_ble_eq_true rfl, Nat.le_of_ble_eq_true rfl⟩ hI.room (kv_Terms E hI.1) rfl hl.1 rfl (Nat.le_of_ble_eq_true rfl) d_Par_endMember_30 rfl ?_
  refine lv_iadd hx hb d_Par_endMember_33 ?_
  refine kp_Par_textSize S E hI vt_330 d_Par_endMember_34 (fun H locs hI => ?_)
  refine lv_aload_n hx hb d_Par_endMember_37 rfl (lv_at hl 0 rfl) ?_
  refine kg_tV (As := []) (rest := []) (k_Par_drop (l := l) (g := g) (α := (kSi (f_Env_fix (f_Par_held 1 α) 1 (α.1 15) α) 17 (((f_Env_fix (f_Par_held 1 α) 1 (α.1 15) α).1 17) + (f_Terms_size ((f_Env_fix (f_Par_held 1 α) 1 (α.1 15) α).1 15) (f_Env_fix (f_Par_held 1 α) 1 (α.1 15) α))))) ) S hlocks hno E hI kw_Par_207 ⟨Nat.le_of_ble_eq_true rfl, Nat.le_of_ble_eq_true rfl⟩ (kv_Par E hI.1) rfl hl.1 rfl (Nat.le_of_ble_eq_true rfl) d_Par_endMember_38 (fun ad H locs cells slots hRm hI => ?_)
  refine lv_aload_n hx hb d_Par_endMember_41 rfl (lv_at hl 0 rfl) ?_
  refine lv_iconst (v := 4) hx hb d_Par_endMember_42 (by decide) ?_
  refine kp_Par_state S E hI vt_340 d_Par_endMember_43 (fun H locs hI => ?_)
  exact kc_vret hx hb hr hlocks E hI (by rw [← h]) d_Par_endMember_46
theorem kw_Par_100 : kWv "FamilyKernel$Parser" 100 "FamilyKernel$Parser" y_Par_begin b_Par_begin 2 none 0 := ⟨vt_336, vt_337, vt_338, vt_40, vt_339, by decide, by decide, by decide +kernel⟩
theorem kw_Par_159 : kWv "FamilyKernel$Parser" 159 "FamilyKernel$Terms" y_Terms_length b_Terms_length 1 (some .int) 0 := ⟨vt_409, vt_185, vt_186, vt_19, vt_187, by decide, by decide, by decide +kernel⟩
theorem kw_Par_106 : kWv "FamilyKernel$Parser" 106 "FamilyKernel$Parser" y_Par_startTerm b_Par_startTerm 3 none 0 := ⟨vt_341, vt_342, vt_343, vt_40, vt_344, by decide, by decide, by decide +kernel⟩
theorem kw_Par_109 : kWv "FamilyKernel$Parser" 109 "FamilyKernel$Parser" y_Par_takeAtom b_Par_takeAtom 2 none 0 := ⟨vt_345, vt_346, vt_347, vt_40, vt_348, by decide, by decide, by decide +kernel⟩
theorem kw_Par_112 : kWv "FamilyKernel$Parser" 112 "FamilyKernel$Parser" y_Par_startGroup b_Par_startGroup 2 none 0 := ⟨vt_349, vt_350, vt_351, vt_40, vt_352, by decide, by decide, by decide +kernel⟩
theorem kw_Par_115 : kWv "FamilyKernel$Parser" 115 "FamilyKernel$Parser" y_Par_takeMember b_Par_takeMember 2 none 0 := ⟨vt_353, vt_354, vt_355, vt_40, vt_356, by decide, by decide, by decide +kernel⟩
theorem kw_Par_118 : kWv "FamilyKernel$Parser" 118 "FamilyKernel$Parser" y_Par_endParen b_Par_endParen 3 none 0 := ⟨vt_357, vt_358, vt_359, vt_40, vt_360, by decide, by decide, by decide +kernel⟩
theorem kw_Par_121 : kWv "FamilyKernel$Parser" 121 "FamilyKernel$Parser" y_Par_endArrow b_Par_endArrow 2 none 0 := ⟨vt_361, vt_362, vt_363, vt_40, vt_364, by decide, by decide, by decide +kernel⟩
theorem kw_Par_124 : kWv "FamilyKernel$Parser" 124 "FamilyKernel$Parser" y_Par_endGroup b_Par_endGroup 4 none 0 := ⟨vt_365, vt_366, vt_367, vt_40, vt_368, by decide, by decide, by decide +kernel⟩
theorem kw_Par_127 : kWv "FamilyKernel$Parser" 127 "FamilyKernel$Parser" y_Par_endBody b_Par_endBody 3 none 0 := ⟨vt_369, vt_370, vt_371, vt_40, vt_372, by decide, by decide, by decide +kernel⟩
theorem kw_Par_130 : kWv "FamilyKernel$Parser" 130 "FamilyKernel$Parser" y_Par_endLetType b_Par_endLetType 2 none 0 := ⟨vt_373, vt_374, vt_375, vt_40, vt_376, by decide, by decide, by decide +kernel⟩
theorem kw_Par_133 : kWv "FamilyKernel$Parser" 133 "FamilyKernel$Parser" y_Par_endLetValue b_Par_endLetValue 3 none 0 := ⟨vt_377, vt_378, vt_379, vt_40, vt_380, by decide, by decide, by decide +kernel⟩
theorem kw_Par_136 : kWv "FamilyKernel$Parser" 136 "FamilyKernel$Parser" y_Par_endLetBody b_Par_endLetBody 2 none 0 := ⟨vt_381, vt_382, vt_383, vt_40, vt_384, by decide, by decide, by decide +kernel⟩
theorem kw_Par_139 : kWv "FamilyKernel$Parser" 139 "FamilyKernel$Parser" y_Par_endType b_Par_endType 2 none 0 := ⟨vt_385, vt_386, vt_387, vt_40, vt_388, by decide, by decide, by decide +kernel⟩
theorem kw_Par_142 : kWv "FamilyKernel$Parser" 142 "FamilyKernel$Parser" y_Par_endValue b_Par_endValue 1 none 0 := ⟨vt_389, vt_390, vt_391, vt_40, vt_392, by decide, by decide, by decide +kernel⟩
theorem kw_Par_145 : kWv "FamilyKernel$Parser" 145 "FamilyKernel$Parser" y_Par_endChecked b_Par_endChecked 1 none 0 := ⟨vt_393, vt_394, vt_395, vt_40, vt_396, by decide, by decide, by decide +kernel⟩
theorem kw_Par_148 : kWv "FamilyKernel$Parser" 148 "FamilyKernel$Parser" y_Par_endFamilyType b_Par_endFamilyType 2 none 0 := ⟨vt_397, vt_398, vt_399, vt_40, vt_400, by decide, by decide, by decide +kernel⟩
theorem kw_Par_151 : kWv "FamilyKernel$Parser" 151 "FamilyKernel$Parser" y_Par_endMember b_Par_endMember 1 none 0 := ⟨vt_401, vt_402, vt_403, vt_40, vt_404, by decide, by decide, by decide +kernel⟩
def f_Par_declaration_j303 (N : Nat)  (γ : kS) : Option (kO × kS) := some (some none, (kSi γ 23 (f_Terms_length γ)))
def f_Par_declaration_j287 (N : Nat)  (γ : kS) : Option (kO × kS) := if (γ.1 13) = 0 then (f_Par_declaration_j303 N  γ) else (kBv (f_Meter_fail N 10 γ) fun α5 => (f_Par_declaration_j303 N  α5))
def f_Par_declaration_79 (N : Nat)  : Nat → Int32 → kS → Option (kO × kS)
  | 0, _, _ => none
  | n + 1, x1, β => if 16777216 ≤ x1 then (f_Par_declaration_j287 N  β) else (if (β.1 13) = 0 then (f_Par_declaration_j287 N  β) else (if (β.1 13) = 1 then (kBv (f_Par_startTerm N β) fun α9 => (f_Par_declaration_79 N n (x1 + 1) α9)) else (if (β.1 13) = 2 then (kBv (f_Par_takeAtom N β) fun α12 => (f_Par_declaration_79 N n (x1 + 1) α12)) else (if (β.1 13) = 3 then (kBv (f_Par_startGroup N β) fun α15 => (f_Par_declaration_79 N n (x1 + 1) α15)) else (if (β.1 13) = 4 then (kBv (f_Par_takeMember N β) fun α18 => (f_Par_declaration_79 N n (x1 + 1) α18)) else (if (β.1 13) = 5 then (kBv (f_Par_endParen N β) fun α21 => (f_Par_declaration_79 N n (x1 + 1) α21)) else (if (β.1 13) = 6 then (kBv (f_Par_endArrow N β) fun α24 => (f_Par_declaration_79 N n (x1 + 1) α24)) else (if (β.1 13) = 7 then (kBv (f_Par_endGroup N β) fun α27 => (f_Par_declaration_79 N n (x1 + 1) α27)) else (if (β.1 13) = 8 then (kBv (f_Par_endBody N β) fun α30 => (f_Par_declaration_79 N n (x1 + 1) α30)) else (if (β.1 13) = 9 then (kBv (f_Par_endLetType N β) fun α33 => (f_Par_declaration_79 N n (x1 + 1) α33)) else (if (β.1 13) = 10 then (kBv (f_Par_endLetValue N β) fun α36 => (f_Par_declaration_79 N n (x1 + 1) α36)) else (if (β.1 13) = 11 then (kBv (f_Par_endLetBody N β) fun α39 => (f_Par_declaration_79 N n (x1 + 1) α39)) else (if (β.1 13) = 12 then (kBv (f_Par_endType N β) fun α42 => (f_Par_declaration_79 N n (x1 + 1) α42)) else (if (β.1 13) = 13 then (kBv (f_Par_endValue N β) fun α45 => (f_Par_declaration_79 N n (x1 + 1) α45)) else (if (β.1 13) = 14 then (kBv (f_Par_endChecked N β) fun α48 => (f_Par_declaration_79 N n (x1 + 1) α48)) else (if (β.1 13) = 15 then (kBv (f_Par_endFamilyType N β) fun α51 => (f_Par_declaration_79 N n (x1 + 1) α51)) else (f_Par_declaration_79 N n (x1 + 1) (f_Par_endMember β))))))))))))))))))
def f_Par_declaration (N : Nat)  (α : kS) : Option (kO × kS) := kBv (f_Par_begin N (kSi (kSi (kSi (kSi (kSi (kSi (kSi (fR_cut (fR_cut (fR_cut (fR_cut α 8 0) 9 0) 10 0) 11 0) 14 0) 16 0) 17 0) 18 (f_Env_length (kSi (kSi (kSi (fR_cut (fR_cut (fR_cut (fR_cut α 8 0) 9 0) 10 0) 11 0) 14 0) 16 0) 17 0))) 19 (-1)) 21 (-1)) 22 (-1))) fun α1 => (f_Par_declaration_79 N N 0 α1)
set_option maxHeartbeats 4000000 in
set_option maxRecDepth 100000 in
theorem k_Par_declaration {l : Launch} {g : kG} {α : kS} (hfl : kFl l) (N : Nat)   : ∀ x, f_Par_declaration N α = some x → kC l g y_Par_declaration b_Par_declaration 2 none 35 1012 [.ref (kad g 5)] α (kQr x) := by
  intro x h
  unfold f_Par_declaration at h
  refine kc_ofW (by decide) (fun A ad0 p e s m args below meth c S hr hlocks hno hadm hargs E hI => ?_)
  have hx := S.1
  have hb := S.2.1
  have hown := S.2.2.2.1
  have hT := S.2.2.2.2
  subst hargs
  have hl := lv_entry ([.ref (kad g 5)]) (n := 2) (Nat.le_of_ble_eq_true rfl)
  rw [lg_entry_eq]
  generalize (lg_sl ([.ref (kad g 5)]) ++ List.replicate (2 - (lg_sl ([.ref (kad g 5)])).length) Slot.unset).toArray = ls at hl ⊢
  have hl : lv_has ls 2 [(0, .ref (kad g 5))] := hl
  refine lv_aload_n hx hb d_Par_declaration_0 rfl (lv_at hl 0 rfl) ?_
  refine kf_Par_open S E hI.1 vt_122 d_Par_declaration_1 ?_
  refine lv_iconst (v := 0) hx hb d_Par_declaration_4 (by decide) ?_
  refine kg_tV (As := [.int 0]) (rest := []) (k_Row_cut (l := l) (g := g) (α := α) (r := 8) (by decide) 0) S hlocks hno E hI kw_Par_79 ⟨Nat.le_of_ble_eq_true rfl, Nat.le_of_ble_eq_true rfl⟩ (kv_Row (r := 8) (by decide) E hI.1) rfl hl.1 rfl (Nat.le_of_ble_eq_true rfl) d_Par_declaration_5 (fun ad H locs cells slots hRm hI => ?_)
  refine lv_aload_n hx hb d_Par_declaration_8 rfl (lv_at hl 0 rfl) ?_
  refine kf_Par_scope S E hI.1 vt_123 d_Par_declaration_9 ?_
  refine lv_iconst (v := 0) hx hb d_Par_declaration_12 (by decide) ?_
  refine kg_tV (As := [.int 0]) (rest := []) (k_Row_cut (l := l) (g := g) (α := (fR_cut α 8 0)) (r := 9) (by decide) 0) S hlocks hno E hI kw_Par_79 ⟨Nat.le_of_ble_eq_true rfl, Nat.le_of_ble_eq_true rfl⟩ (kv_Row (r := 9) (by decide) E hI.1) rfl hl.1 rfl (Nat.le_of_ble_eq_true rfl) d_Par_declaration_13 (fun ad H locs cells slots hRm hI => ?_)
  refine lv_aload_n hx hb d_Par_declaration_16 rfl (lv_at hl 0 rfl) ?_
  refine kf_Par_pending S E hI.1 vt_124 d_Par_declaration_17 ?_
  refine lv_iconst (v := 0) hx hb d_Par_declaration_20 (by decide) ?_
  refine kg_tV (As := [.int 0]) (rest := []) (k_Row_cut (l := l) (g := g) (α := (fR_cut (fR_cut α 8 0) 9 0)) (r := 10) (by decide) 0) S hlocks hno E hI kw_Par_79 ⟨Nat.le_of_ble_eq_true rfl, Nat.le_of_ble_eq_true rfl⟩ (kv_Row (r := 10) (by decide) E hI.1) rfl hl.1 rfl (Nat.le_of_ble_eq_true rfl) d_Par_declaration_21 (fun ad H locs cells slots hRm hI => ?_)
  refine lv_aload_n hx hb d_Par_declaration_24 rfl (lv_at hl 0 rfl) ?_
  refine kf_Par_binders S E hI.1 vt_125 d_Par_declaration_25 ?_
  refine lv_iconst (v := 0) hx hb d_Par_declaration_28 (by decide) ?_
  refine kg_tV (As := [.int 0]) (rest := []) (k_Row_cut (l := l) (g := g) (α := (fR_cut (fR_cut (fR_cut α 8 0) 9 0) 10 0)) (r := 11) (by decide) 0) S hlocks hno E hI kw_Par_79 ⟨Nat.le_of_ble_eq_true rfl, Nat.le_of_ble_eq_true rfl⟩ (kv_Row (r := 11) (by decide) E hI.1) rfl hl.1 rfl (Nat.le_of_ble_eq_true rfl) d_Par_declaration_29 (fun ad H locs cells slots hRm hI => ?_)
  refine lv_aload_n hx hb d_Par_declaration_32 rfl (lv_at hl 0 rfl) ?_
  refine lv_iconst (v := 0) hx hb d_Par_declaration_33 (by decide) ?_
  refine kp_Par_nest S E hI vt_328 d_Par_declaration_34 (fun H locs hI => ?_)
  refine lv_aload_n hx hb d_Par_declaration_37 rfl (lv_at hl 0 rfl) ?_
  refine lv_iconst (v := 0) hx hb d_Par_declaration_38 (by decide) ?_
  refine kp_Par_copies S E hI vt_329 d_Par_declaration_39 (fun H locs hI => ?_)
  refine lv_aload_n hx hb d_Par_declaration_42 rfl (lv_at hl 0 rfl) ?_
  refine lv_iconst (v := 0) hx hb d_Par_declaration_43 (by decide) ?_
  refine kp_Par_textSize S E hI vt_330 d_Par_declaration_44 (fun H locs hI => ?_)
  refine lv_aload_n hx hb d_Par_declaration_47 rfl (lv_at hl 0 rfl) ?_
  refine lv_aload_n hx hb d_Par_declaration_48 rfl (lv_at hl 0 rfl) ?_
  refine kf_Par_environment S E hI.1 vt_118 d_Par_declaration_49 ?_
  refine kg_p (As := []) (rest := [.ref (kad g 5)]) (k_Env_length (l := l) (g := g) (α := (kSi (kSi (kSi (fR_cut (fR_cut (fR_cut (fR_cut α 8 0) 9 0) 10 0) 11 0) 14 0) 16 0) 17 0)) ) S E hI.1 kw_Par_92 ⟨Nat.le_of_ble_eq_true rfl, Nat.le_of_ble_eq_true rfl⟩ hI.room (kv_Env E hI.1) rfl hl.1 rfl (Nat.le_of_ble_eq_true rfl) d_Par_declaration_52 rfl ?_
  refine kp_Par_known S E hI vt_332 d_Par_declaration_55 (fun H locs hI => ?_)
  refine lv_aload_n hx hb d_Par_declaration_58 rfl (lv_at hl 0 rfl) ?_
  refine lv_iconst (v := (-1)) hx hb d_Par_declaration_59 (by decide) ?_
  refine kp_Par_constant S E hI vt_333 d_Par_declaration_60 (fun H locs hI => ?_)
  refine lv_aload_n hx hb d_Par_declaration_63 rfl (lv_at hl 0 rfl) ?_
  refine lv_iconst (v := (-1)) hx hb d_Par_declaration_64 (by decide) ?_
  refine kp_Par_type S E hI vt_334 d_Par_declaration_65 (fun H locs hI => ?_)
  refine lv_aload_n hx hb d_Par_declaration_68 rfl (lv_at hl 0 rfl) ?_
  refine lv_iconst (v := (-1)) hx hb d_Par_declaration_69 (by decide) ?_
  refine kp_Par_value S E hI vt_335 d_Par_declaration_70 (fun H locs hI => ?_)
  refine lv_aload_n hx hb d_Par_declaration_73 rfl (lv_at hl 0 rfl) ?_
  refine kg_cV (As := []) (rest := []) h (k_Par_begin (l := l) (g := g) (α := (kSi (kSi (kSi (kSi (kSi (kSi (kSi (fR_cut (fR_cut (fR_cut (fR_cut α 8 0) 9 0) 10 0) 11 0) 14 0) 16 0) 17 0) 18 (f_Env_length (kSi (kSi (kSi (fR_cut (fR_cut (fR_cut (fR_cut α 8 0) 9 0) 10 0) 11 0) 14 0) 16 0) 17 0))) 19 (-1)) 21 (-1)) 22 (-1))) hfl N) S hlocks hno E hI kw_Par_100 ⟨Nat.le_of_ble_eq_true rfl, Nat.le_of_ble_eq_true rfl⟩ (kv_Par E hI.1) rfl hl.1 rfl (Nat.le_of_ble_eq_true rfl) d_Par_declaration_74 (fun α1 ad H locs cells slots e2 h hRm hI => ?_)
  refine lv_iconst (v := 0) hx hb d_Par_declaration_77 (by decide) ?_
  refine lv_istore_n (lv' := [(1, .int 0), (0, .ref (kad g 5))]) hx hb d_Par_declaration_78 rfl hl (by decide) rfl (fun ls hl => ?_)
  have L79 : ∀ (n79 : Nat) (x1 : Int32) (β : kS) (ad : Nat → Nat) (H : Heap) (locs : List Loc) (cells slots : Nat) (ls : Array Slot), f_Par_declaration_79 N n79 x1 β = some x → kI g A s α ad0 β ad H locs cells slots → lv_has ls 2 [(1, .int x1), (0, .ref (kad g 5))] → W p l e (kR 35 1012 α) s m ([.ref (kad g 5)]).toArray below meth c H locs cells slots (vEQ below (kQ g A α ad0 (kQr x)) ([.ref (kad g 5)]).toArray s A) (F0 m 79 ls []) := by
    intro n79
    induction n79 with
    | zero => intro x1 β ad H locs cells slots ls h hI hl; rw [f_Par_declaration_79] at h; cases h
    | succ n79 ih79 =>
      intro x1 β ad H locs cells slots ls h hI hl
      rw [f_Par_declaration_79] at h
      have J303 : ∀ (γ : kS) (ad : Nat → Nat) (H : Heap) (locs : List Loc) (cells slots : Nat) (ls : Array Slot), f_Par_declaration_j303 N γ = some x → kI g A s α ad0 γ ad H locs cells slots → lv_has ls 2 [(0, .ref (kad g 5))] → W p l e (kR 35 1012 α) s m ([.ref (kad g 5)]).toArray below meth c H locs cells slots (vEQ below (kQ g A α ad0 (kQr x)) ([.ref (kad g 5)]).toArray s A) (F0 m 303 ls []) := by
        intro  γ ad H locs cells slots ls h hI hl
        unfold f_Par_declaration_j303 at h
        refine lv_aload_n hx hb d_Par_declaration_303 rfl (lv_at hl 0 rfl) ?_
        refine lv_aload_n hx hb d_Par_declaration_304 rfl (lv_at hl 0 rfl) ?_
        refine kf_Par_terms S E hI.1 vt_117 d_Par_declaration_305 ?_
        refine kg_p (As := []) (rest := [.ref (kad g 5)]) (k_Terms_length (l := l) (g := g) (α := γ) ) S E hI.1 kw_Par_159 ⟨Nat.le_of_ble_eq_true rfl, Nat.le_of_ble_eq_true rfl⟩ hI.room (kv_Terms E hI.1) rfl hl.1 rfl (Nat.le_of_ble_eq_true rfl) d_Par_declaration_308 rfl ?_
        refine kp_Par_nodes S E hI vt_410 d_Par_declaration_311 (fun H locs hI => ?_)
        exact kc_vret hx hb hr hlocks E hI h d_Par_declaration_314
      have J287 : ∀ (γ : kS) (ad : Nat → Nat) (H : Heap) (locs : List Loc) (cells slots : Nat) (ls : Array Slot), f_Par_declaration_j287 N γ = some x → kI g A s α ad0 γ ad H locs cells slots → lv_has ls 2 [(0, .ref (kad g 5))] → W p l e (kR 35 1012 α) s m ([.ref (kad g 5)]).toArray below meth c H locs cells slots (vEQ below (kQ g A α ad0 (kQr x)) ([.ref (kad g 5)]).toArray s A) (F0 m 287 ls []) := by
        intro  γ ad H locs cells slots ls h hI hl
        unfold f_Par_declaration_j287 at h
        refine lv_aload_n hx hb d_Par_declaration_287 rfl (lv_at hl 0 rfl) ?_
        refine kf_Par_state S E hI.1 vt_340 d_Par_declaration_288 ?_
        refine lv_if_eq (tgt := 303) hx hb d_Par_declaration_291 (by decide) (fun c4 => ?_) (fun c4 => ?_)
        · replace h := Eq.trans (if_pos c4).symm h
          exact J303  _ _ _ _ _ _ _ h hI (lv_sub hl [0] rfl)
        · replace h := Eq.trans (if_neg c4).symm h
          refine lv_aload_n hx hb d_Par_declaration_294 rfl (lv_at hl 0 rfl) ?_
          refine kf_Par_meter S E hI.1 vt_116 d_Par_declaration_295 ?_
          refine lv_bipush (v := 10) hx hb d_Par_declaration_298 (by decide) ?_
          refine kg_cV (As := [.int 10]) (rest := []) h (k_Meter_fail (l := l) (g := g) (α := γ) hfl N 10) S hlocks hno E hI kw_Par_154 ⟨Nat.le_of_ble_eq_true rfl, Nat.le_of_ble_eq_true rfl⟩ (kv_Meter E hI.1) rfl hl.1 rfl (Nat.le_of_ble_eq_true rfl) d_Par_declaration_300 (fun α5 ad H locs cells slots e6 h hRm hI => ?_)
          exact J303  _ _ _ _ _ _ _ h hI (lv_sub hl [0] rfl)
      refine lv_iload_n hx hb d_Par_declaration_79 rfl (lv_at hl 0 rfl) ?_
      refine lv_ldc (v := 16777216) hx hb hown (hT _ vt_120) d_Par_declaration_80 ?_
      refine lv_icmp_ge (tgt := 287) hx hb d_Par_declaration_82 (by decide) (fun c3 => ?_) (fun c3 => ?_)
      · replace h := Eq.trans (if_pos c3).symm h
        exact J287  _ _ _ _ _ _ _ h hI (lv_sub hl [1] rfl)
      · replace h := Eq.trans (if_neg c3).symm h
        refine lv_aload_n hx hb d_Par_declaration_85 rfl (lv_at hl 1 rfl) ?_
        refine kf_Par_state S E hI.1 vt_340 d_Par_declaration_86 ?_
        refine lv_if_eq (tgt := 287) hx hb d_Par_declaration_89 (by decide) (fun c7 => ?_) (fun c7 => ?_)
        · replace h := Eq.trans (if_pos c7).symm h
          exact J287  _ _ _ _ _ _ _ h hI (lv_sub hl [1] rfl)
        · replace h := Eq.trans (if_neg c7).symm h
          refine lv_aload_n hx hb d_Par_declaration_92 rfl (lv_at hl 1 rfl) ?_
          refine kf_Par_state S E hI.1 vt_340 d_Par_declaration_93 ?_
          by_cases c8 : (β.1 13) = 1
          · replace h := Eq.trans (if_pos c8).symm h
            refine lv_tableIn (off := 76) (tgt := 172) hx hb d_Par_declaration_96 (by rw [c8]; decide) (by rw [c8]; decide) (by rw [c8]; rfl) (by decide) ?_
            refine lv_aload_n hx hb d_Par_declaration_172 rfl (lv_at hl 1 rfl) ?_
            refine kg_cV (As := []) (rest := []) h (k_Par_startTerm (l := l) (g := g) (α := β) hfl N) S hlocks hno E hI kw_Par_106 ⟨Nat.le_of_ble_eq_true rfl, Nat.le_of_ble_eq_true rfl⟩ (kv_Par E hI.1) rfl hl.1 rfl (Nat.le_of_ble_eq_true rfl) d_Par_declaration_173 (fun α9 ad H locs cells slots e10 h hRm hI => ?_)
            refine lv_goto (tgt := 281) hx hb d_Par_declaration_176 (by decide) ?_
            refine lv_iinc (v := (x1 + 1)) (lv' := [(1, .int (x1 + 1)), (0, .ref (kad g 5))]) hx hb d_Par_declaration_281 hl (k := 0) rfl rfl (by decide) rfl (fun ls hl => ?_)
            refine lv_goto (tgt := 79) hx hb d_Par_declaration_284 (by decide) ?_
            exact ih79 (x1 + 1) _ _ _ _ _ _ _ h hI (lv_sub hl [0, 1] rfl)
          · replace h := Eq.trans (if_neg c8).symm h
            have nc8 := ksw (z := 1) rfl c8
            by_cases c11 : (β.1 13) = 2
            · replace h := Eq.trans (if_pos c11).symm h
              refine lv_tableIn (off := 83) (tgt := 179) hx hb d_Par_declaration_96 (by rw [c11]; decide) (by rw [c11]; decide) (by rw [c11]; rfl) (by decide) ?_
              refine lv_aload_n hx hb d_Par_declaration_179 rfl (lv_at hl 1 rfl) ?_
              refine kg_cV (As := []) (rest := []) h (k_Par_takeAtom (l := l) (g := g) (α := β) hfl N) S hlocks hno E hI kw_Par_109 ⟨Nat.le_of_ble_eq_true rfl, Nat.le_of_ble_eq_true rfl⟩ (kv_Par E hI.1) rfl hl.1 rfl (Nat.le_of_ble_eq_true rfl) d_Par_declaration_180 (fun α12 ad H locs cells slots e13 h hRm hI => ?_)
              refine lv_goto (tgt := 281) hx hb d_Par_declaration_183 (by decide) ?_
              refine lv_iinc (v := (x1 + 1)) (lv' := [(1, .int (x1 + 1)), (0, .ref (kad g 5))]) hx hb d_Par_declaration_281 hl (k := 0) rfl rfl (by decide) rfl (fun ls hl => ?_)
              refine lv_goto (tgt := 79) hx hb d_Par_declaration_284 (by decide) ?_
              exact ih79 (x1 + 1) _ _ _ _ _ _ _ h hI (lv_sub hl [0, 1] rfl)
            · replace h := Eq.trans (if_neg c11).symm h
              have nc11 := ksw (z := 2) rfl c11
              by_cases c14 : (β.1 13) = 3
              · replace h := Eq.trans (if_pos c14).symm h
                refine lv_tableIn (off := 90) (tgt := 186) hx hb d_Par_declaration_96 (by rw [c14]; decide) (by rw [c14]; decide) (by rw [c14]; rfl) (by decide) ?_
                refine lv_aload_n hx hb d_Par_declaration_186 rfl (lv_at hl 1 rfl) ?_
                refine kg_cV (As := []) (rest := []) h (k_Par_startGroup (l := l) (g := g) (α := β) hfl N) S hlocks hno E hI kw_Par_112 ⟨Nat.le_of_ble_eq_true rfl, Nat.le_of_ble_eq_true rfl⟩ (kv_Par E hI.1) rfl hl.1 rfl (Nat.le_of_ble_eq_true rfl) d_Par_declaration_187 (fun α15 ad H locs cells slots e16 h hRm hI => ?_)
                refine lv_goto (tgt := 281) hx hb d_Par_declaration_190 (by decide) ?_
                refine lv_iinc (v := (x1 + 1)) (lv' := [(1, .int (x1 + 1)), (0, .ref (kad g 5))]) hx hb d_Par_declaration_281 hl (k := 0) rfl rfl (by decide) rfl (fun ls hl => ?_)
                refine lv_goto (tgt := 79) hx hb d_Par_declaration_284 (by decide) ?_
                exact ih79 (x1 + 1) _ _ _ _ _ _ _ h hI (lv_sub hl [0, 1] rfl)
              · replace h := Eq.trans (if_neg c14).symm h
                have nc14 := ksw (z := 3) rfl c14
                by_cases c17 : (β.1 13) = 4
                · replace h := Eq.trans (if_pos c17).symm h
                  refine lv_tableIn (off := 97) (tgt := 193) hx hb d_Par_declaration_96 (by rw [c17]; decide) (by rw [c17]; decide) (by rw [c17]; rfl) (by decide) ?_
                  refine lv_aload_n hx hb d_Par_declaration_193 rfl (lv_at hl 1 rfl) ?_
                  refine kg_cV (As := []) (rest := []) h (k_Par_takeMember (l := l) (g := g) (α := β) hfl N) S hlocks hno E hI kw_Par_115 ⟨Nat.le_of_ble_eq_true rfl, Nat.le_of_ble_eq_true rfl⟩ (kv_Par E hI.1) rfl hl.1 rfl (Nat.le_of_ble_eq_true rfl) d_Par_declaration_194 (fun α18 ad H locs cells slots e19 h hRm hI => ?_)
                  refine lv_goto (tgt := 281) hx hb d_Par_declaration_197 (by decide) ?_
                  refine lv_iinc (v := (x1 + 1)) (lv' := [(1, .int (x1 + 1)), (0, .ref (kad g 5))]) hx hb d_Par_declaration_281 hl (k := 0) rfl rfl (by decide) rfl (fun ls hl => ?_)
                  refine lv_goto (tgt := 79) hx hb d_Par_declaration_284 (by decide) ?_
                  exact ih79 (x1 + 1) _ _ _ _ _ _ _ h hI (lv_sub hl [0, 1] rfl)
                · replace h := Eq.trans (if_neg c17).symm h
                  have nc17 := ksw (z := 4) rfl c17
                  by_cases c20 : (β.1 13) = 5
                  · replace h := Eq.trans (if_pos c20).symm h
                    refine lv_tableIn (off := 104) (tgt := 200) hx hb d_Par_declaration_96 (by rw [c20]; decide) (by rw [c20]; decide) (by rw [c20]; rfl) (by decide) ?_
                    refine lv_aload_n hx hb d_Par_declaration_200 rfl (lv_at hl 1 rfl) ?_
                    refine kg_cV (As := []) (rest := []) h (k_Par_endParen (l := l) (g := g) (α := β) hfl N) S hlocks hno E hI kw_Par_118 ⟨Nat.le_of_ble_eq_true rfl, Nat.le_of_ble_eq_true rfl⟩ (kv_Par E hI.1) rfl hl.1 rfl (Nat.le_of_ble_eq_true rfl) d_Par_declaration_201 (fun α21 ad H locs cells slots e22 h hRm hI => ?_)
                    refine lv_goto (tgt := 281) hx hb d_Par_declaration_204 (by decide) ?_
                    refine lv_iinc (v := (x1 + 1)) (lv' := [(1, .int (x1 + 1)), (0, .ref (kad g 5))]) hx hb d_Par_declaration_281 hl (k := 0) rfl rfl (by decide) rfl (fun ls hl => ?_)
                    refine lv_goto (tgt := 79) hx hb d_Par_declaration_284 (by decide) ?_
                    exact ih79 (x1 + 1) _ _ _ _ _ _ _ h hI (lv_sub hl [0, 1] rfl)
                  · replace h := Eq.trans (if_neg c20).symm h
                    have nc20 := ksw (z := 5) rfl c20
                    by_cases c23 : (β.1 13) = 6
                    · replace h := Eq.trans (if_pos c23).symm h
                      refine lv_tableIn (off := 111) (tgt := 207) hx hb d_Par_declaration_96 (by rw [c23]; decide) (by rw [c23]; decide) (by rw [c23]; rfl) (by decide) ?_
                      refine lv_aload_n hx hb d_Par_declaration_207 rfl (lv_at hl 1 rfl) ?_
                      refine kg_cV (As := []) (rest := []) h (k_Par_endArrow (l := l) (g := g) (α := β) hfl N) S hlocks hno E hI kw_Par_121 ⟨Nat.le_of_ble_eq_true rfl, Nat.le_of_ble_eq_true rfl⟩ (kv_Par E hI.1) rfl hl.1 rfl (Nat.le_of_ble_eq_true rfl) d_Par_declaration_208 (fun α24 ad H locs cells slots e25 h hRm hI => ?_)
                      refine lv_goto (tgt := 281) hx hb d_Par_declaration_211 (by decide) ?_
                      refine lv_iinc (v := (x1 + 1)) (lv' := [(1, .int (x1 + 1)), (0, .ref (kad g 5))]) hx hb d_Par_declaration_281 hl (k := 0) rfl rfl (by decide) rfl (fun ls hl => ?_)
                      refine lv_goto (tgt := 79) hx hb d_Par_declaration_284 (by decide) ?_
                      exact ih79 (x1 + 1) _ _ _ _ _ _ _ h hI (lv_sub hl [0, 1] rfl)
                    · replace h := Eq.trans (if_neg c23).symm h
                      have nc23 := ksw (z := 6) rfl c23
                      by_cases c26 : (β.1 13) = 7
                      · replace h := Eq.trans (if_pos c26).symm h
                        refine lv_tableIn (off := 118) (tgt := 214) hx hb d_Par_declaration_96 (by rw [c26]; decide) (by rw [c26]; decide) (by rw [c26]; rfl) (by decide) ?_
                        refine lv_aload_n hx hb d_Par_declaration_214 rfl (lv_at hl 1 rfl) ?_
                        refine kg_cV (As := []) (rest := []) h (k_Par_endGroup (l := l) (g := g) (α := β) hfl N) S hlocks hno E hI kw_Par_124 ⟨Nat.le_of_ble_eq_true rfl, Nat.le_of_ble_eq_true rfl⟩ (kv_Par E hI.1) rfl hl.1 rfl (Nat.le_of_ble_eq_true rfl) d_Par_declaration_215 (fun α27 ad H locs cells slots e28 h hRm hI => ?_)
                        refine lv_goto (tgt := 281) hx hb d_Par_declaration_218 (by decide) ?_
                        refine lv_iinc (v := (x1 + 1)) (lv' := [(1, .int (x1 + 1)), (0, .ref (kad g 5))]) hx hb d_Par_declaration_281 hl (k := 0) rfl rfl (by decide) rfl (fun ls hl => ?_)
                        refine lv_goto (tgt := 79) hx hb d_Par_declaration_284 (by decide) ?_
                        exact ih79 (x1 + 1) _ _ _ _ _ _ _ h hI (lv_sub hl [0, 1] rfl)
                      · replace h := Eq.trans (if_neg c26).symm h
                        have nc26 := ksw (z := 7) rfl c26
                        by_cases c29 : (β.1 13) = 8
                        · replace h := Eq.trans (if_pos c29).symm h
                          refine lv_tableIn (off := 125) (tgt := 221) hx hb d_Par_declaration_96 (by rw [c29]; decide) (by rw [c29]; decide) (by rw [c29]; rfl) (by decide) ?_
                          refine lv_aload_n hx hb d_Par_declaration_221 rfl (lv_at hl 1 rfl) ?_
                          refine kg_cV (As := []) (rest := []) h (k_Par_endBody (l := l) (g := g) (α := β) hfl N) S hlocks hno E hI kw_Par_127 ⟨Nat.le_of_ble_eq_true rfl, Nat.le_of_ble_eq_true rfl⟩ (kv_Par E hI.1) rfl hl.1 rfl (Nat.le_of_ble_eq_true rfl) d_Par_declaration_222 (fun α30 ad H locs cells slots e31 h hRm hI => ?_)
                          refine lv_goto (tgt := 281) hx hb d_Par_declaration_225 (by decide) ?_
                          refine lv_iinc (v := (x1 + 1)) (lv' := [(1, .int (x1 + 1)), (0, .ref (kad g 5))]) hx hb d_Par_declaration_281 hl (k := 0) rfl rfl (by decide) rfl (fun ls hl => ?_)
                          refine lv_goto (tgt := 79) hx hb d_Par_declaration_284 (by decide) ?_
                          exact ih79 (x1 + 1) _ _ _ _ _ _ _ h hI (lv_sub hl [0, 1] rfl)
                        · replace h := Eq.trans (if_neg c29).symm h
                          have nc29 := ksw (z := 8) rfl c29
                          by_cases c32 : (β.1 13) = 9
                          · replace h := Eq.trans (if_pos c32).symm h
                            refine lv_tableIn (off := 132) (tgt := 228) hx hb d_Par_declaration_96 (by rw [c32]; decide) (by rw [c32]; decide) (by rw [c32]; rfl) (by decide) ?_
                            refine lv_aload_n hx hb d_Par_declaration_228 rfl (lv_at hl 1 rfl) ?_
                            refine kg_cV (As := []) (rest := []) h (k_Par_endLetType (l := l) (g := g) (α := β) hfl N) S hlocks hno E hI kw_Par_130 ⟨Nat.le_of_ble_eq_true rfl, Nat.le_of_ble_eq_true rfl⟩ (kv_Par E hI.1) rfl hl.1 rfl (Nat.le_of_ble_eq_true rfl) d_Par_declaration_229 (fun α33 ad H locs cells slots e34 h hRm hI => ?_)
                            refine lv_goto (tgt := 281) hx hb d_Par_declaration_232 (by decide) ?_
                            refine lv_iinc (v := (x1 + 1)) (lv' := [(1, .int (x1 + 1)), (0, .ref (kad g 5))]) hx hb d_Par_declaration_281 hl (k := 0) rfl rfl (by decide) rfl (fun ls hl => ?_)
                            refine lv_goto (tgt := 79) hx hb d_Par_declaration_284 (by decide) ?_
                            exact ih79 (x1 + 1) _ _ _ _ _ _ _ h hI (lv_sub hl [0, 1] rfl)
                          · replace h := Eq.trans (if_neg c32).symm h
                            have nc32 := ksw (z := 9) rfl c32
                            by_cases c35 : (β.1 13) = 10
                            · replace h := Eq.trans (if_pos c35).symm h
                              refine lv_tableIn (off := 139) (tgt := 235) hx hb d_Par_declaration_96 (by rw [c35]; decide) (by rw [c35]; decide) (by rw [c35]; rfl) (by decide) ?_
                              refine lv_aload_n hx hb d_Par_declaration_235 rfl (lv_at hl 1 rfl) ?_
                              refine kg_cV (As := []) (rest := []) h (k_Par_endLetValue (l := l) (g := g) (α := β) hfl N) S hlocks hno E hI kw_Par_133 ⟨Nat.le_of_ble_eq_true rfl, Nat.le_of_ble_eq_true rfl⟩ (kv_Par E hI.1) rfl hl.1 rfl (Nat.le_of_ble_eq_true rfl) d_Par_declaration_236 (fun α36 ad H locs cells slots e37 h hRm hI => ?_)
                              refine lv_goto (tgt := 281) hx hb d_Par_declaration_239 (by decide) ?_
                              refine lv_iinc (v := (x1 + 1)) (lv' := [(1, .int (x1 + 1)), (0, .ref (kad g 5))]) hx hb d_Par_declaration_281 hl (k := 0) rfl rfl (by decide) rfl (fun ls hl => ?_)
                              refine lv_goto (tgt := 79) hx hb d_Par_declaration_284 (by decide) ?_
                              exact ih79 (x1 + 1) _ _ _ _ _ _ _ h hI (lv_sub hl [0, 1] rfl)
                            · replace h := Eq.trans (if_neg c35).symm h
                              have nc35 := ksw (z := 10) rfl c35
                              by_cases c38 : (β.1 13) = 11
                              · replace h := Eq.trans (if_pos c38).symm h
                                refine lv_tableIn (off := 146) (tgt := 242) hx hb d_Par_declaration_96 (by rw [c38]; decide) (by rw [c38]; decide) (by rw [c38]; rfl) (by decide) ?_
                                refine lv_aload_n hx hb d_Par_declaration_242 rfl (lv_at hl 1 rfl) ?_
                                refine kg_cV (As := []) (rest := []) h (k_Par_endLetBody (l := l) (g := g) (α := β) hfl N) S hlocks hno E hI kw_Par_136 ⟨Nat.le_of_ble_eq_true rfl, Nat.le_of_ble_eq_true rfl⟩ (kv_Par E hI.1) rfl hl.1 rfl (Nat.le_of_ble_eq_true rfl) d_Par_declaration_243 (fun α39 ad H locs cells slots e40 h hRm hI => ?_)
                                refine lv_goto (tgt := 281) hx hb d_Par_declaration_246 (by decide) ?_
                                refine lv_iinc (v := (x1 + 1)) (lv' := [(1, .int (x1 + 1)), (0, .ref (kad g 5))]) hx hb d_Par_declaration_281 hl (k := 0) rfl rfl (by decide) rfl (fun ls hl => ?_)
                                refine lv_goto (tgt := 79) hx hb d_Par_declaration_284 (by decide) ?_
                                exact ih79 (x1 + 1) _ _ _ _ _ _ _ h hI (lv_sub hl [0, 1] rfl)
                              · replace h := Eq.trans (if_neg c38).symm h
                                have nc38 := ksw (z := 11) rfl c38
                                by_cases c41 : (β.1 13) = 12
                                · replace h := Eq.trans (if_pos c41).symm h
                                  refine lv_tableIn (off := 153) (tgt := 249) hx hb d_Par_declaration_96 (by rw [c41]; decide) (by rw [c41]; decide) (by rw [c41]; rfl) (by decide) ?_
                                  refine lv_aload_n hx hb d_Par_declaration_249 rfl (lv_at hl 1 rfl) ?_
                                  refine kg_cV (As := []) (rest := []) h (k_Par_endType (l := l) (g := g) (α := β) hfl N) S hlocks hno E hI kw_Par_139 ⟨Nat.le_of_ble_eq_true rfl, Nat.le_of_ble_eq_true rfl⟩ (kv_Par E hI.1) rfl hl.1 rfl (Nat.le_of_ble_eq_true rfl) d_Par_declaration_250 (fun α42 ad H locs cells slots e43 h hRm hI => ?_)
                                  refine lv_goto (tgt := 281) hx hb d_Par_declaration_253 (by decide) ?_
                                  refine lv_iinc (v := (x1 + 1)) (lv' := [(1, .int (x1 + 1)), (0, .ref (kad g 5))]) hx hb d_Par_declaration_281 hl (k := 0) rfl rfl (by decide) rfl (fun ls hl => ?_)
                                  refine lv_goto (tgt := 79) hx hb d_Par_declaration_284 (by decide) ?_
                                  exact ih79 (x1 + 1) _ _ _ _ _ _ _ h hI (lv_sub hl [0, 1] rfl)
                                · replace h := Eq.trans (if_neg c41).symm h
                                  have nc41 := ksw (z := 12) rfl c41
                                  by_cases c44 : (β.1 13) = 13
                                  · replace h := Eq.trans (if_pos c44).symm h
                                    refine lv_tableIn (off := 160) (tgt := 256) hx hb d_Par_declaration_96 (by rw [c44]; decide) (by rw [c44]; decide) (by rw [c44]; rfl) (by decide) ?_
                                    refine lv_aload_n hx hb d_Par_declaration_256 rfl (lv_at hl 1 rfl) ?_
                                    refine kg_cV (As := []) (rest := []) h (k_Par_endValue (l := l) (g := g) (α := β) hfl N) S hlocks hno E hI kw_Par_142 ⟨Nat.le_of_ble_eq_true rfl, Nat.le_of_ble_eq_true rfl⟩ (kv_Par E hI.1) rfl hl.1 rfl (Nat.le_of_ble_eq_true rfl) d_Par_declaration_257 (fun α45 ad H locs cells slots e46 h hRm hI => ?_)
                                    refine lv_goto (tgt := 281) hx hb d_Par_declaration_260 (by decide) ?_
                                    refine lv_iinc (v := (x1 + 1)) (lv' := [(1, .int (x1 + 1)), (0, .ref (kad g 5))]) hx hb d_Par_declaration_281 hl (k := 0) rfl rfl (by decide) rfl (fun ls hl => ?_)
                                    refine lv_goto (tgt := 79) hx hb d_Par_declaration_284 (by decide) ?_
                                    exact ih79 (x1 + 1) _ _ _ _ _ _ _ h hI (lv_sub hl [0, 1] rfl)
                                  · replace h := Eq.trans (if_neg c44).symm h
                                    have nc44 := ksw (z := 13) rfl c44
                                    by_cases c47 : (β.1 13) = 14
                                    · replace h := Eq.trans (if_pos c47).symm h
                                      refine lv_tableIn (off := 167) (tgt := 263) hx hb d_Par_declaration_96 (by rw [c47]; decide) (by rw [c47]; decide) (by rw [c47]; rfl) (by decide) ?_
                                      refine lv_aload_n hx hb d_Par_declaration_263 rfl (lv_at hl 1 rfl) ?_
                                      refine kg_cV (As := []) (rest := []) h (k_Par_endChecked (l := l) (g := g) (α := β) hfl N) S hlocks hno E hI kw_Par_145 ⟨Nat.le_of_ble_eq_true rfl, Nat.le_of_ble_eq_true rfl⟩ (kv_Par E hI.1) rfl hl.1 rfl (Nat.le_of_ble_eq_true rfl) d_Par_declaration_264 (fun α48 ad H locs cells slots e49 h hRm hI => ?_)
                                      refine lv_goto (tgt := 281) hx hb d_Par_declaration_267 (by decide) ?_
                                      refine lv_iinc (v := (x1 + 1)) (lv' := [(1, .int (x1 + 1)), (0, .ref (kad g 5))]) hx hb d_Par_declaration_281 hl (k := 0) rfl rfl (by decide) rfl (fun ls hl => ?_)
                                      refine lv_goto (tgt := 79) hx hb d_Par_declaration_284 (by decide) ?_
                                      exact ih79 (x1 + 1) _ _ _ _ _ _ _ h hI (lv_sub hl [0, 1] rfl)
                                    · replace h := Eq.trans (if_neg c47).symm h
                                      have nc47 := ksw (z := 14) rfl c47
                                      by_cases c50 : (β.1 13) = 15
                                      · replace h := Eq.trans (if_pos c50).symm h
                                        refine lv_tableIn (off := 174) (tgt := 270) hx hb d_Par_declaration_96 (by rw [c50]; decide) (by rw [c50]; decide) (by rw [c50]; rfl) (by decide) ?_
                                        refine lv_aload_n hx hb d_Par_declaration_270 rfl (lv_at hl 1 rfl) ?_
                                        refine kg_cV (As := []) (rest := []) h (k_Par_endFamilyType (l := l) (g := g) (α := β) hfl N) S hlocks hno E hI kw_Par_148 ⟨Nat.le_of_ble_eq_true rfl, Nat.le_of_ble_eq_true rfl⟩ (kv_Par E hI.1) rfl hl.1 rfl (Nat.le_of_ble_eq_true rfl) d_Par_declaration_271 (fun α51 ad H locs cells slots e52 h hRm hI => ?_)
                                        refine lv_goto (tgt := 281) hx hb d_Par_declaration_274 (by decide) ?_
                                        refine lv_iinc (v := (x1 + 1)) (lv' := [(1, .int (x1 + 1)), (0, .ref (kad g 5))]) hx hb d_Par_declaration_281 hl (k := 0) rfl rfl (by decide) rfl (fun ls hl => ?_)
                                        refine lv_goto (tgt := 79) hx hb d_Par_declaration_284 (by decide) ?_
                                        exact ih79 (x1 + 1) _ _ _ _ _ _ _ h hI (lv_sub hl [0, 1] rfl)
                                      · replace h := Eq.trans (if_neg c50).symm h
                                        have nc50 := ksw (z := 15) rfl c50
                                        refine lv_tableOut (tgt := 277) hx hb d_Par_declaration_96 (by omega) (by decide) ?_
                                        refine lv_aload_n hx hb d_Par_declaration_277 rfl (lv_at hl 1 rfl) ?_
                                        refine kg_tV (As := []) (rest := []) (k_Par_endMember (l := l) (g := g) (α := β) ) S hlocks hno E hI kw_Par_151 ⟨Nat.le_of_ble_eq_true rfl, Nat.le_of_ble_eq_true rfl⟩ (kv_Par E hI.1) rfl hl.1 rfl (Nat.le_of_ble_eq_true rfl) d_Par_declaration_278 (fun ad H locs cells slots hRm hI => ?_)
                                        refine lv_iinc (v := (x1 + 1)) (lv' := [(1, .int (x1 + 1)), (0, .ref (kad g 5))]) hx hb d_Par_declaration_281 hl (k := 0) rfl rfl (by decide) rfl (fun ls hl => ?_)
                                        refine lv_goto (tgt := 79) hx hb d_Par_declaration_284 (by decide) ?_
                                        exact ih79 (x1 + 1) _ _ _ _ _ _ _ h hI (lv_sub hl [0, 1] rfl)
  exact L79 N 0 _ _ _ _ _ _ _ h hI (lv_sub hl [0, 1] rfl)
def f_Par_task  (α : kS) : Int32 := (α.1 20)
set_option maxHeartbeats 4000000 in
set_option maxRecDepth 100000 in
theorem k_Par_task {l : Launch} {g : kG} {α : kS}   : kV l g y_Par_task b_Par_task 1 (some .int) 1 1 [.ref (kad g 5)] α (f_Par_task α) := by
  generalize h : f_Par_task α = x
  unfold f_Par_task at h
  refine kv_ofW (by decide) (fun A ad p e s m args below meth c S hr hlocks hargs E hJ => ?_)
  have hx := S.1
  have hb := S.2.1
  have hown := S.2.2.2.1
  have hT := S.2.2.2.2
  subst hargs
  have hl := lv_entry ([.ref (kad g 5)]) (n := 1) (Nat.le_of_ble_eq_true rfl)
  rw [lg_entry_eq]
  generalize (lg_sl ([.ref (kad g 5)]) ++ List.replicate (1 - (lg_sl ([.ref (kad g 5)])).length) Slot.unset).toArray = ls at hl ⊢
  have hl : lv_has ls 1 [(0, .ref (kad g 5))] := hl
  refine lv_aload_n hx hb d_Par_task_0 rfl (lv_at hl 0 rfl) ?_
  refine kf_Par_task S E hJ vt_417 d_Par_task_1 ?_
  exact kv_iret (w := (α.1 20)) hx hb hr rfl hlocks h d_Par_task_4
def f_Par_type  (α : kS) : Int32 := (α.1 21)
set_option maxHeartbeats 4000000 in
set_option maxRecDepth 100000 in
theorem k_Par_type {l : Launch} {g : kG} {α : kS}   : kV l g y_Par_type b_Par_type 1 (some .int) 1 1 [.ref (kad g 5)] α (f_Par_type α) := by
  generalize h : f_Par_type α = x
  unfold f_Par_type at h
  refine kv_ofW (by decide) (fun A ad p e s m args below meth c S hr hlocks hargs E hJ => ?_)
  have hx := S.1
  have hb := S.2.1
  have hown := S.2.2.2.1
  have hT := S.2.2.2.2
  subst hargs
  have hl := lv_entry ([.ref (kad g 5)]) (n := 1) (Nat.le_of_ble_eq_true rfl)
  rw [lg_entry_eq]
  generalize (lg_sl ([.ref (kad g 5)]) ++ List.replicate (1 - (lg_sl ([.ref (kad g 5)])).length) Slot.unset).toArray = ls at hl ⊢
  have hl : lv_has ls 1 [(0, .ref (kad g 5))] := hl
  refine lv_aload_n hx hb d_Par_type_0 rfl (lv_at hl 0 rfl) ?_
  refine kf_Par_type S E hJ vt_334 d_Par_type_1 ?_
  exact kv_iret (w := (α.1 21)) hx hb hr rfl hlocks h d_Par_type_4
def f_Par_value  (α : kS) : Int32 := (α.1 22)
set_option maxHeartbeats 4000000 in
set_option maxRecDepth 100000 in
theorem k_Par_value {l : Launch} {g : kG} {α : kS}   : kV l g y_Par_value b_Par_value 1 (some .int) 1 1 [.ref (kad g 5)] α (f_Par_value α) := by
  generalize h : f_Par_value α = x
  unfold f_Par_value at h
  refine kv_ofW (by decide) (fun A ad p e s m args below meth c S hr hlocks hargs E hJ => ?_)
  have hx := S.1
  have hb := S.2.1
  have hown := S.2.2.2.1
  have hT := S.2.2.2.2
  subst hargs
  have hl := lv_entry ([.ref (kad g 5)]) (n := 1) (Nat.le_of_ble_eq_true rfl)
  rw [lg_entry_eq]
  generalize (lg_sl ([.ref (kad g 5)]) ++ List.replicate (1 - (lg_sl ([.ref (kad g 5)])).length) Slot.unset).toArray = ls at hl ⊢
  have hl : lv_has ls 1 [(0, .ref (kad g 5))] := hl
  refine lv_aload_n hx hb d_Par_value_0 rfl (lv_at hl 0 rfl) ?_
  refine kf_Par_value S E hJ vt_335 d_Par_value_1 ?_
  exact kv_iret (w := (α.1 22)) hx hb hr rfl hlocks h d_Par_value_4
def f_Par_declared  (α : kS) : Int32 := (α.1 19)
set_option maxHeartbeats 4000000 in
set_option maxRecDepth 100000 in
theorem k_Par_declared {l : Launch} {g : kG} {α : kS}   : kV l g y_Par_declared b_Par_declared 1 (some .int) 1 1 [.ref (kad g 5)] α (f_Par_declared α) := by
  generalize h : f_Par_declared α = x
  unfold f_Par_declared at h
  refine kv_ofW (by decide) (fun A ad p e s m args below meth c S hr hlocks hargs E hJ => ?_)
  have hx := S.1
  have hb := S.2.1
  have hown := S.2.2.2.1
  have hT := S.2.2.2.2
  subst hargs
  have hl := lv_entry ([.ref (kad g 5)]) (n := 1) (Nat.le_of_ble_eq_true rfl)
  rw [lg_entry_eq]
  generalize (lg_sl ([.ref (kad g 5)]) ++ List.replicate (1 - (lg_sl ([.ref (kad g 5)])).length) Slot.unset).toArray = ls at hl ⊢
  have hl : lv_has ls 1 [(0, .ref (kad g 5))] := hl
  refine lv_aload_n hx hb d_Par_declared_0 rfl (lv_at hl 0 rfl) ?_
  refine kf_Par_constant S E hJ vt_333 d_Par_declared_1 ?_
  exact kv_iret (w := (α.1 19)) hx hb hr rfl hlocks h d_Par_declared_4
def f_Par_parameters  (α : kS) : Int32 := (fR_size α 11)
set_option maxHeartbeats 4000000 in
set_option maxRecDepth 100000 in
theorem k_Par_parameters {l : Launch} {g : kG} {α : kS}   : kV l g y_Par_parameters b_Par_parameters 1 (some .int) 11 320 [.ref (kad g 5)] α (f_Par_parameters α) := by
  generalize h : f_Par_parameters α = x
  unfold f_Par_parameters at h
  refine kv_ofW (by decide) (fun A ad p e s m args below meth c S hr hlocks hargs E hJ => ?_)
  have hx := S.1
  have hb := S.2.1
  have hown := S.2.2.2.1
  have hT := S.2.2.2.2
  subst hargs
  have hl := lv_entry ([.ref (kad g 5)]) (n := 1) (Nat.le_of_ble_eq_true rfl)
  rw [lg_entry_eq]
  generalize (lg_sl ([.ref (kad g 5)]) ++ List.replicate (1 - (lg_sl ([.ref (kad g 5)])).length) Slot.unset).toArray = ls at hl ⊢
  have hl : lv_has ls 1 [(0, .ref (kad g 5))] := hl
  refine lv_aload_n hx hb d_Par_parameters_0 rfl (lv_at hl 0 rfl) ?_
  refine kf_Par_binders S E hJ vt_125 d_Par_parameters_1 ?_
  refine kg_p (As := []) (rest := []) (k_Row_size (l := l) (g := g) (α := α) (r := 11) (by decide)) S E hJ kw_Par_65 ⟨Nat.le_of_ble_eq_true rfl, Nat.le_of_ble_eq_true rfl⟩ ⟨Nat.le_refl _, Nat.le_refl _⟩ (kv_Row (r := 11) (by decide) E hJ) rfl hl.1 rfl (Nat.le_of_ble_eq_true rfl) d_Par_parameters_4 rfl ?_
  exact kv_iret (w := (fR_size α 11)) hx hb hr rfl hlocks h d_Par_parameters_7
def f_Par_parameterType (a1 : Int32) (α : kS) : Int32 := (fR_at α 11 a1)
set_option maxHeartbeats 4000000 in
set_option maxRecDepth 100000 in
theorem k_Par_parameterType {l : Launch} {g : kG} {α : kS} (a1 : Int32)  : kV l g y_Par_parameterType b_Par_parameterType 2 (some .int) 11 321 [.ref (kad g 5), .int a1] α (f_Par_parameterType a1 α) := by
  generalize h : f_Par_parameterType a1 α = x
  unfold f_Par_parameterType at h
  refine kv_ofW (by decide) (fun A ad p e s m args below meth c S hr hlocks hargs E hJ => ?_)
  have hx := S.1
  have hb := S.2.1
  have hown := S.2.2.2.1
  have hT := S.2.2.2.2
  subst hargs
  have hl := lv_entry ([.ref (kad g 5), .int a1]) (n := 2) (Nat.le_of_ble_eq_true rfl)
  rw [lg_entry_eq]
  generalize (lg_sl ([.ref (kad g 5), .int a1]) ++ List.replicate (2 - (lg_sl ([.ref (kad g 5), .int a1])).length) Slot.unset).toArray = ls at hl ⊢
  have hl : lv_has ls 2 [(0, .ref (kad g 5)), (1, .int a1)] := hl
  refine lv_aload_n hx hb d_Par_parameterType_0 rfl (lv_at hl 0 rfl) ?_
  refine kf_Par_binders S E hJ vt_125 d_Par_parameterType_1 ?_
  refine lv_iload_n hx hb d_Par_parameterType_4 rfl (lv_at hl 1 rfl) ?_
  refine kg_p (As := [.int a1]) (rest := []) (k_Row_at (l := l) (g := g) (α := α) (r := 11) (by decide) a1) S E hJ kw_Par_69 ⟨Nat.le_of_ble_eq_true rfl, Nat.le_of_ble_eq_true rfl⟩ ⟨Nat.le_refl _, Nat.le_refl _⟩ (kv_Row (r := 11) (by decide) E hJ) rfl hl.1 rfl (Nat.le_of_ble_eq_true rfl) d_Par_parameterType_5 rfl ?_
  exact kv_iret (w := (fR_at α 11 a1)) hx hb hr rfl hlocks h d_Par_parameterType_8
def f_Par_nodes  (α : kS) : Int32 := (α.1 23)
set_option maxHeartbeats 4000000 in
set_option maxRecDepth 100000 in
theorem k_Par_nodes {l : Launch} {g : kG} {α : kS}   : kV l g y_Par_nodes b_Par_nodes 1 (some .int) 1 1 [.ref (kad g 5)] α (f_Par_nodes α) := by
  generalize h : f_Par_nodes α = x
  unfold f_Par_nodes at h
  refine kv_ofW (by decide) (fun A ad p e s m args below meth c S hr hlocks hargs E hJ => ?_)
  have hx := S.1
  have hb := S.2.1
  have hown := S.2.2.2.1
  have hT := S.2.2.2.2
  subst hargs
  have hl := lv_entry ([.ref (kad g 5)]) (n := 1) (Nat.le_of_ble_eq_true rfl)
  rw [lg_entry_eq]
  generalize (lg_sl ([.ref (kad g 5)]) ++ List.replicate (1 - (lg_sl ([.ref (kad g 5)])).length) Slot.unset).toArray = ls at hl ⊢
  have hl : lv_has ls 1 [(0, .ref (kad g 5))] := hl
  refine lv_aload_n hx hb d_Par_nodes_0 rfl (lv_at hl 0 rfl) ?_
  refine kf_Par_nodes S E hJ vt_410 d_Par_nodes_1 ?_
  exact kv_iret (w := (α.1 23)) hx hb hr rfl hlocks h d_Par_nodes_4
