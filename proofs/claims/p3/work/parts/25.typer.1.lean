theorem kw_Typ_84 : kWv "FamilyKernel$Typer" 84 "FamilyKernel$Terms" y_Terms_make b_Terms_make 10 (some .int) 3 := ⟨vt_939, vt_518, vt_519, vt_19, vt_520, by decide, by decide, by decide +kernel⟩
theorem kw_Typ_50 : kWv "FamilyKernel$Typer" 50 "FamilyKernel$Frames" y_Fra_give b_Fra_give 2 none 1 := ⟨vt_917, vt_856, vt_857, vt_47, vt_858, by decide, by decide, by decide +kernel⟩
theorem kw_Typ_33 : kWv "FamilyKernel$Typer" 33 "FamilyKernel$Meter" y_Meter_fail b_Meter_fail 2 none 1 := ⟨vt_910, vt_406, vt_407, vt_13, vt_408, by decide, by decide, by decide +kernel⟩
def f_Typ_inferSort_j15 (N : Nat)  (y1 : Int32) (γ : kS) : Option (kO × kS) := kBi (f_Terms_make N 2 (y1 + 1) 0 γ) fun v4 α2 => (some (some none, (f_Fra_give v4 α2)))
def f_Typ_inferSort (N : Nat) (a1 : Int32) (α : kS) : Option (kO × kS) := if a1 < 100 then (f_Typ_inferSort_j15 N a1 α) else (kBv (f_Meter_fail N 7 α) fun α5 => (f_Typ_inferSort_j15 N a1 α5))
set_option maxHeartbeats 4000000 in
set_option maxRecDepth 100000 in
theorem k_Typ_inferSort {l : Launch} {g : kG} {α : kS} (hfl : kFl l) (N : Nat) (a1 : Int32)  : ∀ x, f_Typ_inferSort N a1 α = some x → kC l g y_Typ_inferSort b_Typ_inferSort 2 none 23 692 [.ref (kad g 8), .int a1] α (kQr x) := by
  intro x h
  unfold f_Typ_inferSort at h
  refine kc_ofW (by decide) (fun A ad0 p e s m args below meth c S hr hlocks hno hadm hargs E hI => ?_)
  have hx := S.1
  have hb := S.2.1
  have hown := S.2.2.2.1
  have hT := S.2.2.2.2
  subst hargs
  have hl := lv_entry ([.ref (kad g 8), .int a1]) (n := 2) (Nat.le_of_ble_eq_true rfl)
  rw [lg_entry_eq]
  generalize (lg_sl ([.ref (kad g 8), .int a1]) ++ List.replicate (2 - (lg_sl ([.ref (kad g 8), .int a1])).length) Slot.unset).toArray = ls at hl ⊢
  have hl : lv_has ls 2 [(0, .ref (kad g 8)), (1, .int a1)] := hl
  have J15 : ∀ (y1 : Int32) (γ : kS) (ad : Nat → Nat) (H : Heap) (locs : List Loc) (cells slots : Nat) (ls : Array Slot), f_Typ_inferSort_j15 N y1 γ = some x → kI g A s α ad0 γ ad H locs cells slots → lv_has ls 2 [(0, .ref (kad g 8)), (1, .int y1)] → W p l e (kR 23 692 α) s m ([.ref (kad g 8), .int a1]).toArray below meth c H locs cells slots (vEQ below (kQ g A α ad0 (kQr x)) ([.ref (kad g 8), .int a1]).toArray s A) (F0 m 15 ls []) := by
    intro y1 γ ad H locs cells slots ls h hI hl
    unfold f_Typ_inferSort_j15 at h
    refine lv_aload_n hx hb d_Typ_inferSort_15 rfl (lv_at hl 0 rfl) ?_
    refine kf_Typ_frames S E hI.1 vt_142 d_Typ_inferSort_16 ?_
    refine lv_aload_n hx hb d_Typ_inferSort_19 rfl (lv_at hl 0 rfl) ?_
    refine kf_Typ_terms S E hI.1 vt_144 d_Typ_inferSort_20 ?_
    refine lv_iconst (v := 2) hx hb d_Typ_inferSort_23 (by decide) ?_
    refine lv_iload_n hx hb d_Typ_inferSort_24 rfl (lv_at hl 1 rfl) ?_
    refine lv_iconst (v := 1) hx hb d_Typ_inferSort_25 (by decide) ?_
    refine lv_iadd hx hb d_Typ_inferSort_26 ?_
    refine lv_iconst (v := 0) hx hb d_Typ_inferSort_27 (by decide) ?_
    refine kg_cI (As := [.int 2, .int (y1 + 1), .int 0]) (rest := [.ref (kad g 6)]) h (k_Terms_make (l := l) (g := g) (α := γ) hfl N 2 (y1 + 1) 0) S hlocks hno E hI kw_Typ_84 ⟨Nat.le_of_ble_eq_true rfl, Nat.le_of_ble_eq_true rfl⟩ (kv_Terms E hI.1) rfl hl.1 rfl (Nat.le_of_ble_eq_true rfl) d_Typ_inferSort_28 (fun v4 α2 ad H locs cells slots e3 h hRm hI => ?_)
    refine kg_tV (As := [.int v4]) (rest := []) (k_Fra_give (l := l) (g := g) (α := α2) v4) S hlocks hno E hI kw_Typ_50 ⟨Nat.le_of_ble_eq_true rfl, Nat.le_of_ble_eq_true rfl⟩ (kv_Fra E hI.1) rfl hl.1 rfl (Nat.le_of_ble_eq_true rfl) d_Typ_inferSort_31 (fun ad H locs cells slots hRm hI => ?_)
    exact kc_vret hx hb hr hlocks E hI h d_Typ_inferSort_34
  refine lv_iload_n hx hb d_Typ_inferSort_0 rfl (lv_at hl 1 rfl) ?_
  refine lv_bipush (v := 100) hx hb d_Typ_inferSort_1 (by decide) ?_
  refine lv_icmp_lt (tgt := 15) hx hb d_Typ_inferSort_3 (by decide) (fun c1 => ?_) (fun c1 => ?_)
  · replace h := Eq.trans (if_pos c1).symm h
    exact J15 a1 _ _ _ _ _ _ _ h hI (lv_sub hl [0, 1] rfl)
  · replace h := Eq.trans (if_neg c1).symm h
    refine lv_aload_n hx hb d_Typ_inferSort_6 rfl (lv_at hl 0 rfl) ?_
    refine kf_Typ_meter S E hI.1 vt_143 d_Typ_inferSort_7 ?_
    refine lv_bipush (v := 7) hx hb d_Typ_inferSort_10 (by decide) ?_
    refine kg_cV (As := [.int 7]) (rest := []) h (k_Meter_fail (l := l) (g := g) (α := α) hfl N 7) S hlocks hno E hI kw_Typ_33 ⟨Nat.le_of_ble_eq_true rfl, Nat.le_of_ble_eq_true rfl⟩ (kv_Meter E hI.1) rfl hl.1 rfl (Nat.le_of_ble_eq_true rfl) d_Typ_inferSort_12 (fun α5 ad H locs cells slots e6 h hRm hI => ?_)
    exact J15 a1 _ _ _ _ _ _ _ h hI (lv_sub hl [0, 1] rfl)
theorem kw_Typ_88 : kWv "FamilyKernel$Typer" 88 "FamilyKernel$Environment" y_Env_allows b_Env_allows 3 (some .boolean) 2 := ⟨vt_940, vt_941, vt_942, vt_26, vt_943, by decide, by decide, by decide +kernel⟩
theorem kw_Typ_56 : kWv "FamilyKernel$Typer" 56 "FamilyKernel$Environment" y_Env_fact b_Env_fact 3 (some .int) 2 := ⟨vt_922, vt_459, vt_460, vt_26, vt_461, by decide, by decide, by decide +kernel⟩
theorem kw_Typ_92 : kWv "FamilyKernel$Typer" 92 "FamilyKernel$Terms" y_Terms_size b_Terms_size 2 (some .int) 1 := ⟨vt_944, vt_545, vt_546, vt_19, vt_547, by decide, by decide, by decide +kernel⟩
theorem kw_Typ_95 : kWv "FamilyKernel$Typer" 95 "FamilyKernel$Meter" y_Meter_charge b_Meter_charge 2 none 1 := ⟨vt_945, vt_637, vt_638, vt_13, vt_639, by decide, by decide, by decide +kernel⟩
theorem kw_Typ_98 : kWv "FamilyKernel$Typer" 98 "FamilyKernel$Terms" y_Terms_rewrite b_Terms_rewrite 9 (some .int) 3 := ⟨vt_946, vt_604, vt_605, vt_19, vt_606, by decide, by decide, by decide +kernel⟩
def f_Typ_inferRecursor_j21 (N : Nat)  (y1 : Int32) (y2 : Int32) (γ : kS) : Option (kO × kS) := kBv (f_Meter_charge N (f_Terms_size (f_Env_fact y1 10 γ) γ) γ) fun α2 => (kBi (f_Terms_rewrite N 5 (f_Env_fact y1 10 γ) y2 α2) fun v6 α4 => (some (some none, (f_Fra_give v6 α4))))
def f_Typ_inferRecursor (N : Nat) (a1 : Int32) (a2 : Int32) (α : kS) : Option (kO × kS) := if (f_Env_allows a1 a2 α) = 0 then (kBv (f_Meter_fail N 9 α) fun α7 => (f_Typ_inferRecursor_j21 N a1 a2 α7)) else (f_Typ_inferRecursor_j21 N a1 a2 α)
set_option maxHeartbeats 4000000 in
set_option maxRecDepth 100000 in
theorem k_Typ_inferRecursor {l : Launch} {g : kG} {α : kS} (hfl : kFl l) (N : Nat) (a1 : Int32) (a2 : Int32)  : ∀ x, f_Typ_inferRecursor N a1 a2 α = some x → kC l g y_Typ_inferRecursor b_Typ_inferRecursor 4 none 32 949 [.ref (kad g 8), .int a1, .int a2] α (kQr x) := by
  intro x h
  unfold f_Typ_inferRecursor at h
  refine kc_ofW (by decide) (fun A ad0 p e s m args below meth c S hr hlocks hno hadm hargs E hI => ?_)
  have hx := S.1
  have hb := S.2.1
  have hown := S.2.2.2.1
  have hT := S.2.2.2.2
  subst hargs
  have hl := lv_entry ([.ref (kad g 8), .int a1, .int a2]) (n := 4) (Nat.le_of_ble_eq_true rfl)
  rw [lg_entry_eq]
  generalize (lg_sl ([.ref (kad g 8), .int a1, .int a2]) ++ List.replicate (4 - (lg_sl ([.ref (kad g 8), .int a1, .int a2])).length) Slot.unset).toArray = ls at hl ⊢
  have hl : lv_has ls 4 [(0, .ref (kad g 8)), (1, .int a1), (2, .int a2)] := hl
  have J21 : ∀ (y1 : Int32) (y2 : Int32) (γ : kS) (ad : Nat → Nat) (H : Heap) (locs : List Loc) (cells slots : Nat) (ls : Array Slot), f_Typ_inferRecursor_j21 N y1 y2 γ = some x → kI g A s α ad0 γ ad H locs cells slots → lv_has ls 4 [(0, .ref (kad g 8)), (1, .int y1), (2, .int y2)] → W p l e (kR 32 949 α) s m ([.ref (kad g 8), .int a1, .int a2]).toArray below meth c H locs cells slots (vEQ below (kQ g A α ad0 (kQr x)) ([.ref (kad g 8), .int a1, .int a2]).toArray s A) (F0 m 21 ls []) := by
    intro y1 y2 γ ad H locs cells slots ls h hI hl
    unfold f_Typ_inferRecursor_j21 at h
    refine lv_aload_n hx hb d_Typ_inferRecursor_21 rfl (lv_at hl 0 rfl) ?_
    refine kf_Typ_environment S E hI.1 vt_145 d_Typ_inferRecursor_22 ?_
    refine lv_iload_n hx hb d_Typ_inferRecursor_25 rfl (lv_at hl 1 rfl) ?_
    refine lv_bipush (v := 10) hx hb d_Typ_inferRecursor_26 (by decide) ?_
    refine kg_p (As := [.int y1, .int 10]) (rest := []) (k_Env_fact (l := l) (g := g) (α := γ) y1 10) S E hI.1 kw_Typ_56 ⟨Nat.le_of_ble_eq_true rfl, Nat.le_of_ble_eq_true rfl⟩ hI.room (kv_Env E hI.1) rfl hl.1 rfl (Nat.le_of_ble_eq_true rfl) d_Typ_inferRecursor_28 rfl ?_
    refine lv_istore_n (lv' := [(3, .int (f_Env_fact y1 10 γ)), (0, .ref (kad g 8)), (1, .int y1), (2, .int y2)]) hx hb d_Typ_inferRecursor_31 rfl hl (by decide) rfl (fun ls hl => ?_)
    refine lv_aload_n hx hb d_Typ_inferRecursor_32 rfl (lv_at hl 1 rfl) ?_
    refine kf_Typ_meter S E hI.1 vt_143 d_Typ_inferRecursor_33 ?_
    refine lv_aload_n hx hb d_Typ_inferRecursor_36 rfl (lv_at hl 1 rfl) ?_
    refine kf_Typ_terms S E hI.1 vt_144 d_Typ_inferRecursor_37 ?_
    refine lv_iload_n hx hb d_Typ_inferRecursor_40 rfl (lv_at hl 0 rfl) ?_
    refine kg_p (As := [.int (f_Env_fact y1 10 γ)]) (rest := [.ref (kad g 1)]) (k_Terms_size (l := l) (g := g) (α := γ) (f_Env_fact y1 10 γ)) S E hI.1 kw_Typ_92 ⟨Nat.le_of_ble_eq_true rfl, Nat.le_of_ble_eq_true rfl⟩ hI.room (kv_Terms E hI.1) rfl hl.1 rfl (Nat.le_of_ble_eq_true rfl) d_Typ_inferRecursor_41 rfl ?_
    refine kg_cV (As := [.int (f_Terms_size (f_Env_fact y1 10 γ) γ)]) (rest := []) h (k_Meter_charge (l := l) (g := g) (α := γ) hfl N (f_Terms_size (f_Env_fact y1 10 γ) γ)) S hlocks hno E hI kw_Typ_95 ⟨Nat.le_of_ble_eq_true rfl, Nat.le_of_ble_eq_true rfl⟩ (kv_Meter E hI.1) rfl hl.1 rfl (Nat.le_of_ble_eq_true rfl) d_Typ_inferRecursor_44 (fun α2 ad H locs cells slots e3 h hRm hI => ?_)
    refine lv_aload_n hx hb d_Typ_inferRecursor_47 rfl (lv_at hl 1 rfl) ?_
    refine kf_Typ_frames S E hI.1 vt_142 d_Typ_inferRecursor_48 ?_
    refine lv_aload_n hx hb d_Typ_inferRecursor_51 rfl (lv_at hl 1 rfl) ?_
    refine kf_Typ_terms S E hI.1 vt_144 d_Typ_inferRecursor_52 ?_
    refine lv_iconst (v := 5) hx hb d_Typ_inferRecursor_55 (by decide) ?_
    refine lv_iload_n hx hb d_Typ_inferRecursor_56 rfl (lv_at hl 0 rfl) ?_
    refine lv_iload_n hx hb d_Typ_inferRecursor_57 rfl (lv_at hl 3 rfl) ?_
    refine kg_cI (As := [.int 5, .int (f_Env_fact y1 10 γ), .int y2]) (rest := [.ref (kad g 6)]) h (k_Terms_rewrite (l := l) (g := g) (α := α2) hfl N 5 (f_Env_fact y1 10 γ) y2) S hlocks hno E hI kw_Typ_98 ⟨Nat.le_of_ble_eq_true rfl, Nat.le_of_ble_eq_true rfl⟩ (kv_Terms E hI.1) rfl hl.1 rfl (Nat.le_of_ble_eq_true rfl) d_Typ_inferRecursor_58 (fun v6 α4 ad H locs cells slots e5 h hRm hI => ?_)
    refine kg_tV (As := [.int v6]) (rest := []) (k_Fra_give (l := l) (g := g) (α := α4) v6) S hlocks hno E hI kw_Typ_50 ⟨Nat.le_of_ble_eq_true rfl, Nat.le_of_ble_eq_true rfl⟩ (kv_Fra E hI.1) rfl hl.1 rfl (Nat.le_of_ble_eq_true rfl) d_Typ_inferRecursor_61 (fun ad H locs cells slots hRm hI => ?_)
    exact kc_vret hx hb hr hlocks E hI h d_Typ_inferRecursor_64
  refine lv_aload_n hx hb d_Typ_inferRecursor_0 rfl (lv_at hl 0 rfl) ?_
  refine kf_Typ_environment S E hI.1 vt_145 d_Typ_inferRecursor_1 ?_
  refine lv_iload_n hx hb d_Typ_inferRecursor_4 rfl (lv_at hl 1 rfl) ?_
  refine lv_iload_n hx hb d_Typ_inferRecursor_5 rfl (lv_at hl 2 rfl) ?_
  refine kg_p (As := [.int a1, .int a2]) (rest := []) (k_Env_allows (l := l) (g := g) (α := α) a1 a2) S E hI.1 kw_Typ_88 ⟨Nat.le_of_ble_eq_true rfl, Nat.le_of_ble_eq_true rfl⟩ hI.room (kv_Env E hI.1) rfl hl.1 rfl (Nat.le_of_ble_eq_true rfl) d_Typ_inferRecursor_6 rfl ?_
  refine lv_if_ne (tgt := 21) hx hb d_Typ_inferRecursor_9 (by decide) (fun c1 => ?_) (fun c1 => ?_)
  · replace h := Eq.trans (if_neg c1).symm h
    exact J21 a1 a2 _ _ _ _ _ _ _ h hI (lv_sub hl [0, 1, 2] rfl)
  · replace h := Eq.trans (if_pos c1).symm h
    refine lv_aload_n hx hb d_Typ_inferRecursor_12 rfl (lv_at hl 0 rfl) ?_
    refine kf_Typ_meter S E hI.1 vt_143 d_Typ_inferRecursor_13 ?_
    refine lv_bipush (v := 9) hx hb d_Typ_inferRecursor_16 (by decide) ?_
    refine kg_cV (As := [.int 9]) (rest := []) h (k_Meter_fail (l := l) (g := g) (α := α) hfl N 9) S hlocks hno E hI kw_Typ_33 ⟨Nat.le_of_ble_eq_true rfl, Nat.le_of_ble_eq_true rfl⟩ (kv_Meter E hI.1) rfl hl.1 rfl (Nat.le_of_ble_eq_true rfl) d_Typ_inferRecursor_18 (fun α7 ad H locs cells slots e8 h hRm hI => ?_)
    exact J21 a1 a2 _ _ _ _ _ _ _ h hI (lv_sub hl [0, 1, 2] rfl)
theorem kw_Typ_29 : kWv "FamilyKernel$Typer" 29 "FamilyKernel$Frames" y_Fra_top b_Fra_top 2 (some .int) 1 := ⟨vt_909, vt_665, vt_666, vt_47, vt_667, by decide, by decide, by decide +kernel⟩
theorem kw_Typ_72 : kWv "FamilyKernel$Typer" 72 "FamilyKernel$Frames" y_Fra_set b_Fra_set 3 none 2 := ⟨vt_932, vt_875, vt_876, vt_47, vt_877, by decide, by decide, by decide +kernel⟩
theorem kw_Typ_101 : kWv "FamilyKernel$Typer" 101 "FamilyKernel$Frames" y_Fra_push b_Fra_push 5 none 4 := ⟨vt_947, vt_819, vt_820, vt_47, vt_821, by decide, by decide, by decide +kernel⟩
def f_Typ_sortWithin (N : Nat) (a1 : Int32) (a2 : Int32) (α : kS) : Option (kO × kS) := kBv (f_Fra_push N 25 0 0 0 (f_Fra_set 0 a1 α)) fun α1 => (kBv (f_Fra_push N 15 a2 0 ((f_Fra_top 4 α) + 1) α1) fun α3 => (some (some none, α3)))
set_option maxHeartbeats 4000000 in
set_option maxRecDepth 100000 in
theorem k_Typ_sortWithin {l : Launch} {g : kG} {α : kS} (hfl : kFl l) (N : Nat) (a1 : Int32) (a2 : Int32)  : ∀ x, f_Typ_sortWithin N a1 a2 α = some x → kC l g y_Typ_sortWithin b_Typ_sortWithin 4 none 32 945 [.ref (kad g 8), .int a1, .int a2] α (kQr x) := by
  intro x h
  unfold f_Typ_sortWithin at h
  refine kc_ofW (by decide) (fun A ad0 p e s m args below meth c S hr hlocks hno hadm hargs E hI => ?_)
  have hx := S.1
  have hb := S.2.1
  have hown := S.2.2.2.1
  have hT := S.2.2.2.2
  subst hargs
  have hl := lv_entry ([.ref (kad g 8), .int a1, .int a2]) (n := 4) (Nat.le_of_ble_eq_true rfl)
  rw [lg_entry_eq]
  generalize (lg_sl ([.ref (kad g 8), .int a1, .int a2]) ++ List.replicate (4 - (lg_sl ([.ref (kad g 8), .int a1, .int a2])).length) Slot.unset).toArray = ls at hl ⊢
  have hl : lv_has ls 4 [(0, .ref (kad g 8)), (1, .int a1), (2, .int a2)] := hl
  refine lv_aload_n hx hb d_Typ_sortWithin_0 rfl (lv_at hl 0 rfl) ?_
  refine kf_Typ_frames S E hI.1 vt_142 d_Typ_sortWithin_1 ?_
  refine lv_iconst (v := 4) hx hb d_Typ_sortWithin_4 (by decide) ?_
  refine kg_p (As := [.int 4]) (rest := []) (k_Fra_top (l := l) (g := g) (α := α) 4) S E hI.1 kw_Typ_29 ⟨Nat.le_of_ble_eq_true rfl, Nat.le_of_ble_eq_true rfl⟩ hI.room (kv_Fra E hI.1) rfl hl.1 rfl (Nat.le_of_ble_eq_true rfl) d_Typ_sortWithin_5 rfl ?_
  refine lv_iconst (v := 1) hx hb d_Typ_sortWithin_8 (by decide) ?_
  refine lv_iadd hx hb d_Typ_sortWithin_9 ?_
  refine lv_istore_n (lv' := [(3, .int ((f_Fra_top 4 α) + 1)), (0, .ref (kad g 8)), (1, .int a1), (2, .int a2)]) hx hb d_Typ_sortWithin_10 rfl hl (by decide) rfl (fun ls hl => ?_)
  refine lv_aload_n hx hb d_Typ_sortWithin_11 rfl (lv_at hl 1 rfl) ?_
  refine kf_Typ_frames S E hI.1 vt_142 d_Typ_sortWithin_12 ?_
  refine lv_iconst (v := 0) hx hb d_Typ_sortWithin_15 (by decide) ?_
  refine lv_iload_n hx hb d_Typ_sortWithin_16 rfl (lv_at hl 2 rfl) ?_
  refine kg_tV (As := [.int 0, .int a1]) (rest := []) (k_Fra_set (l := l) (g := g) (α := α) 0 a1) S hlocks hno E hI kw_Typ_72 ⟨Nat.le_of_ble_eq_true rfl, Nat.le_of_ble_eq_true rfl⟩ (kv_Fra E hI.1) rfl hl.1 rfl (Nat.le_of_ble_eq_true rfl) d_Typ_sortWithin_17 (fun ad H locs cells slots hRm hI => ?_)
  refine lv_aload_n hx hb d_Typ_sortWithin_20 rfl (lv_at hl 1 rfl) ?_
  refine kf_Typ_frames S E hI.1 vt_142 d_Typ_sortWithin_21 ?_
  refine lv_bipush (v := 25) hx hb d_Typ_sortWithin_24 (by decide) ?_
  refine lv_iconst (v := 0) hx hb d_Typ_sortWithin_26 (by decide) ?_
  refine lv_iconst (v := 0) hx hb d_Typ_sortWithin_27 (by decide) ?_
  refine lv_iconst (v := 0) hx hb d_Typ_sortWithin_28 (by decide) ?_
  refine kg_cV (As := [.int 25, .int 0, .int 0, .int 0]) (rest := []) h (k_Fra_push (l := l) (g := g) (α := (f_Fra_set 0 a1 α)) hfl N 25 0 0 0) S hlocks hno E hI kw_Typ_101 ⟨Nat.le_of_ble_eq_true rfl, Nat.le_of_ble_eq_true rfl⟩ (kv_Fra E hI.1) rfl hl.1 rfl (Nat.le_of_ble_eq_true rfl) d_Typ_sortWithin_29 (fun α1 ad H locs cells slots e2 h hRm hI => ?_)
  refine lv_aload_n hx hb d_Typ_sortWithin_32 rfl (lv_at hl 1 rfl) ?_
  refine kf_Typ_frames S E hI.1 vt_142 d_Typ_sortWithin_33 ?_
  refine lv_bipush (v := 15) hx hb d_Typ_sortWithin_36 (by decide) ?_
  refine lv_iload_n hx hb d_Typ_sortWithin_38 rfl (lv_at hl 3 rfl) ?_
  refine lv_iconst (v := 0) hx hb d_Typ_sortWithin_39 (by decide) ?_
  refine lv_iload_n hx hb d_Typ_sortWithin_40 rfl (lv_at hl 0 rfl) ?_
  refine kg_cV (As := [.int 15, .int a2, .int 0, .int ((f_Fra_top 4 α) + 1)]) (rest := []) h (k_Fra_push (l := l) (g := g) (α := α1) hfl N 15 a2 0 ((f_Fra_top 4 α) + 1)) S hlocks hno E hI kw_Typ_101 ⟨Nat.le_of_ble_eq_true rfl, Nat.le_of_ble_eq_true rfl⟩ (kv_Fra E hI.1) rfl hl.1 rfl (Nat.le_of_ble_eq_true rfl) d_Typ_sortWithin_41 (fun α3 ad H locs cells slots e4 h hRm hI => ?_)
  exact kc_vret hx hb hr hlocks E hI h d_Typ_sortWithin_44
def f_Typ_inferWithin (N : Nat) (a1 : Int32) (α : kS) : Option (kO × kS) := kBv (f_Fra_push N 15 a1 0 ((f_Fra_top 4 α) + 1) α) fun α1 => (some (some none, α1))
set_option maxHeartbeats 4000000 in
set_option maxRecDepth 100000 in
theorem k_Typ_inferWithin {l : Launch} {g : kG} {α : kS} (hfl : kFl l) (N : Nat) (a1 : Int32)  : ∀ x, f_Typ_inferWithin N a1 α = some x → kC l g y_Typ_inferWithin b_Typ_inferWithin 2 none 32 945 [.ref (kad g 8), .int a1] α (kQr x) := by
  intro x h
  unfold f_Typ_inferWithin at h
  refine kc_ofW (by decide) (fun A ad0 p e s m args below meth c S hr hlocks hno hadm hargs E hI => ?_)
  have hx := S.1
  have hb := S.2.1
  have hown := S.2.2.2.1
  have hT := S.2.2.2.2
  subst hargs
  have hl := lv_entry ([.ref (kad g 8), .int a1]) (n := 2) (Nat.le_of_ble_eq_true rfl)
  rw [lg_entry_eq]
  generalize (lg_sl ([.ref (kad g 8), .int a1]) ++ List.replicate (2 - (lg_sl ([.ref (kad g 8), .int a1])).length) Slot.unset).toArray = ls at hl ⊢
  have hl : lv_has ls 2 [(0, .ref (kad g 8)), (1, .int a1)] := hl
  refine lv_aload_n hx hb d_Typ_inferWithin_0 rfl (lv_at hl 0 rfl) ?_
  refine kf_Typ_frames S E hI.1 vt_142 d_Typ_inferWithin_1 ?_
  refine lv_bipush (v := 15) hx hb d_Typ_inferWithin_4 (by decide) ?_
  refine lv_iload_n hx hb d_Typ_inferWithin_6 rfl (lv_at hl 1 rfl) ?_
  refine lv_iconst (v := 0) hx hb d_Typ_inferWithin_7 (by decide) ?_
  refine lv_aload_n hx hb d_Typ_inferWithin_8 rfl (lv_at hl 0 rfl) ?_
  refine kf_Typ_frames S E hI.1 vt_142 d_Typ_inferWithin_9 ?_
  refine lv_iconst (v := 4) hx hb d_Typ_inferWithin_12 (by decide) ?_
  refine kg_p (As := [.int 4]) (rest := [.int 0, .int a1, .int 15, .ref (kad g 6)]) (k_Fra_top (l := l) (g := g) (α := α) 4) S E hI.1 kw_Typ_29 ⟨Nat.le_of_ble_eq_true rfl, Nat.le_of_ble_eq_true rfl⟩ hI.room (kv_Fra E hI.1) rfl hl.1 rfl (Nat.le_of_ble_eq_true rfl) d_Typ_inferWithin_13 rfl ?_
  refine lv_iconst (v := 1) hx hb d_Typ_inferWithin_16 (by decide) ?_
  refine lv_iadd hx hb d_Typ_inferWithin_17 ?_
  refine kg_cV (As := [.int 15, .int a1, .int 0, .int ((f_Fra_top 4 α) + 1)]) (rest := []) h (k_Fra_push (l := l) (g := g) (α := α) hfl N 15 a1 0 ((f_Fra_top 4 α) + 1)) S hlocks hno E hI kw_Typ_101 ⟨Nat.le_of_ble_eq_true rfl, Nat.le_of_ble_eq_true rfl⟩ (kv_Fra E hI.1) rfl hl.1 rfl (Nat.le_of_ble_eq_true rfl) d_Typ_inferWithin_18 (fun α1 ad H locs cells slots e2 h hRm hI => ?_)
  exact kc_vret hx hb hr hlocks E hI h d_Typ_inferWithin_21
theorem kw_Typ_39 : kWv "FamilyKernel$Typer" 39 "FamilyKernel$Terms" y_Terms_kind b_Terms_kind 2 (some .int) 1 := ⟨vt_911, vt_541, vt_542, vt_19, vt_543, by decide, by decide, by decide +kernel⟩
theorem kw_Typ_44 : kWv "FamilyKernel$Typer" 44 "FamilyKernel$Terms" y_Terms_left b_Terms_left 2 (some .int) 1 := ⟨vt_912, vt_633, vt_634, vt_19, vt_635, by decide, by decide, by decide +kernel⟩
theorem kw_Typ_47 : kWv "FamilyKernel$Typer" 47 "FamilyKernel$Frames" y_Fra_typeOf b_Fra_typeOf 2 (some .int) 1 := ⟨vt_913, vt_914, vt_915, vt_47, vt_916, by decide, by decide, by decide +kernel⟩
theorem kw_Typ_53 : kWv "FamilyKernel$Typer" 53 "FamilyKernel$Typer" y_Typ_inferSort b_Typ_inferSort 2 none 1 := ⟨vt_918, vt_919, vt_920, vt_61, vt_921, by decide, by decide, by decide +kernel⟩
theorem kw_Typ_62 : kWv "FamilyKernel$Typer" 62 "FamilyKernel$Terms" y_Terms_right b_Terms_right 2 (some .int) 1 := ⟨vt_923, vt_626, vt_627, vt_19, vt_628, by decide, by decide, by decide +kernel⟩
theorem kw_Typ_65 : kWv "FamilyKernel$Typer" 65 "FamilyKernel$Typer" y_Typ_inferRecursor b_Typ_inferRecursor 4 none 2 := ⟨vt_924, vt_925, vt_926, vt_61, vt_927, by decide, by decide, by decide +kernel⟩
theorem kw_Typ_75 : kWv "FamilyKernel$Typer" 75 "FamilyKernel$Terms" y_Terms_behind b_Terms_behind 4 (some .int) 1 := ⟨vt_933, vt_831, vt_832, vt_19, vt_833, by decide, by decide, by decide +kernel⟩
theorem kw_Typ_78 : kWv "FamilyKernel$Typer" 78 "FamilyKernel$Terms" y_Terms_head b_Terms_head 4 (some .int) 1 := ⟨vt_934, vt_827, vt_828, vt_19, vt_829, by decide, by decide, by decide +kernel⟩
theorem kw_Typ_81 : kWv "FamilyKernel$Typer" 81 "FamilyKernel$Typer" y_Typ_inferWithin b_Typ_inferWithin 2 none 1 := ⟨vt_935, vt_936, vt_937, vt_61, vt_938, by decide, by decide, by decide +kernel⟩
theorem kw_Typ_69 : kWv "FamilyKernel$Typer" 69 "FamilyKernel$Typer" y_Typ_sortWithin b_Typ_sortWithin 4 none 2 := ⟨vt_928, vt_929, vt_930, vt_61, vt_931, by decide, by decide, by decide +kernel⟩
def f_Typ_infer_j228 (N : Nat)  (y1 : Int32) (γ : kS) : Option (kO × kS) := ((f_Terms_behind N y1 (f_Fra_set 0 22 γ))).bind fun v11 => (((f_Terms_head N y1 (f_Fra_set 3 v11 (f_Fra_set 0 22 γ)))).bind fun v13 => (kBv (f_Typ_inferWithin N v13 (f_Fra_set 3 v11 (f_Fra_set 0 22 γ))) fun α15 => (some (some none, α15))))
def f_Typ_infer_j23 (N : Nat)  (γ : kS) : Option (kO × kS) := if (f_Terms_kind (f_Fra_top 1 γ) γ) = 1 then (some (some none, (f_Fra_give (f_Fra_typeOf (f_Terms_left (f_Fra_top 1 γ) γ) γ) γ))) else (if (f_Terms_kind (f_Fra_top 1 γ) γ) = 2 then (kBv (f_Typ_inferSort N (f_Terms_left (f_Fra_top 1 γ) γ) γ) fun α4 => (some (some none, α4))) else (if (f_Terms_kind (f_Fra_top 1 γ) γ) = 3 then (some (some none, (f_Fra_give (f_Env_fact (f_Terms_left (f_Fra_top 1 γ) γ) 1 γ) γ))) else (if (f_Terms_kind (f_Fra_top 1 γ) γ) = 4 then (kBv (f_Typ_inferRecursor N (f_Terms_left (f_Fra_top 1 γ) γ) (f_Terms_right (f_Fra_top 1 γ) γ) γ) fun α8 => (some (some none, α8))) else (if (f_Terms_kind (f_Fra_top 1 γ) γ) = 5 then (f_Typ_infer_j228 N (f_Fra_top 1 γ) γ) else (if (f_Terms_kind (f_Fra_top 1 γ) γ) = 6 then (kBv (f_Typ_sortWithin N 16 (f_Terms_left (f_Fra_top 1 γ) γ) γ) fun α18 => (some (some none, α18))) else (if (f_Terms_kind (f_Fra_top 1 γ) γ) = 7 then (kBv (f_Typ_sortWithin N 18 (f_Terms_left (f_Fra_top 1 γ) γ) γ) fun α21 => (some (some none, α21))) else (if (f_Terms_kind (f_Fra_top 1 γ) γ) = 8 then (kBv (f_Typ_sortWithin N 20 (f_Terms_left (f_Fra_top 1 γ) γ) γ) fun α24 => (some (some none, α24))) else (f_Typ_infer_j228 N (f_Fra_top 1 γ) γ))))))))
def f_Typ_infer (N : Nat)  (α : kS) : Option (kO × kS) := if (f_Fra_top 4 α) ≤ 150 then (f_Typ_infer_j23 N  α) else (kBv (f_Meter_fail N 10 α) fun α26 => (f_Typ_infer_j23 N  α26))
set_option maxHeartbeats 4000000 in
set_option maxRecDepth 100000 in
theorem k_Typ_infer {l : Launch} {g : kG} {α : kS} (hfl : kFl l) (N : Nat)   : ∀ x, f_Typ_infer N α = some x → kC l g y_Typ_infer b_Typ_infer 2 none 33 972 [.ref (kad g 8)] α (kQr x) := by
  intro x h
  unfold f_Typ_infer at h
  refine kc_ofW (by decide) (fun A ad0 p e s m args below meth c S hr hlocks hno hadm hargs E hI => ?_)
  have hx := S.1
  have hb := S.2.1
  have hown := S.2.2.2.1
  have hT := S.2.2.2.2
  subst hargs
  have hl := lv_entry ([.ref (kad g 8)]) (n := 2) (Nat.le_of_ble_eq_true rfl)
  rw [lg_entry_eq]
  generalize (lg_sl ([.ref (kad g 8)]) ++ List.replicate (2 - (lg_sl ([.ref (kad g 8)])).length) Slot.unset).toArray = ls at hl ⊢
  have hl : lv_has ls 2 [(0, .ref (kad g 8))] := hl
  have J228 : ∀ (y1 : Int32) (γ : kS) (ad : Nat → Nat) (H : Heap) (locs : List Loc) (cells slots : Nat) (ls : Array Slot), f_Typ_infer_j228 N y1 γ = some x → kI g A s α ad0 γ ad H locs cells slots → lv_has ls 2 [(1, .int y1), (0, .ref (kad g 8))] → W p l e (kR 33 972 α) s m ([.ref (kad g 8)]).toArray below meth c H locs cells slots (vEQ below (kQ g A α ad0 (kQr x)) ([.ref (kad g 8)]).toArray s A) (F0 m 228 ls []) := by
    intro y1 γ ad H locs cells slots ls h hI hl
    unfold f_Typ_infer_j228 at h
    refine lv_aload_n hx hb d_Typ_infer_228 rfl (lv_at hl 1 rfl) ?_
    refine kf_Typ_frames S E hI.1 vt_142 d_Typ_infer_229 ?_
    refine lv_iconst (v := 0) hx hb d_Typ_infer_232 (by decide) ?_
    refine lv_bipush (v := 22) hx hb d_Typ_infer_233 (by decide) ?_
    refine kg_tV (As := [.int 0, .int 22]) (rest := []) (k_Fra_set (l := l) (g := g) (α := γ) 0 22) S hlocks hno E hI kw_Typ_72 ⟨Nat.le_of_ble_eq_true rfl, Nat.le_of_ble_eq_true rfl⟩ (kv_Fra E hI.1) rfl hl.1 rfl (Nat.le_of_ble_eq_true rfl) d_Typ_infer_235 (fun ad H locs cells slots hRm hI => ?_)
    refine lv_aload_n hx hb d_Typ_infer_238 rfl (lv_at hl 1 rfl) ?_
    refine kf_Typ_frames S E hI.1 vt_142 d_Typ_infer_239 ?_
    refine lv_iconst (v := 3) hx hb d_Typ_infer_242 (by decide) ?_
    refine lv_aload_n hx hb d_Typ_infer_243 rfl (lv_at hl 1 rfl) ?_
    refine kf_Typ_terms S E hI.1 vt_144 d_Typ_infer_244 ?_
    refine lv_iload_n hx hb d_Typ_infer_247 rfl (lv_at hl 0 rfl) ?_
    obtain ⟨v11, e12, h⟩ := Option.bind_eq_some_iff.mp h
    refine kg_p (As := [.int y1]) (rest := [.int 3, .ref (kad g 6)]) ((k_Terms_behind (l := l) (g := g) (α := (f_Fra_set 0 22 γ)) N y1) _ e12) S E hI.1 kw_Typ_75 ⟨Nat.le_of_ble_eq_true rfl, Nat.le_of_ble_eq_true rfl⟩ hI.room (kv_Terms E hI.1) rfl hl.1 rfl (Nat.le_of_ble_eq_true rfl) d_Typ_infer_248 rfl ?_
    refine kg_tV (As := [.int 3, .int v11]) (rest := []) (k_Fra_set (l := l) (g := g) (α := (f_Fra_set 0 22 γ)) 3 v11) S hlocks hno E hI kw_Typ_72 ⟨Nat.le_of_ble_eq_true rfl, Nat.le_of_ble_eq_true rfl⟩ (kv_Fra E hI.1) rfl hl.1 rfl (Nat.le_of_ble_eq_true rfl) d_Typ_infer_251 (fun ad H locs cells slots hRm hI => ?_)
    refine lv_aload_n hx hb d_Typ_infer_254 rfl (lv_at hl 1 rfl) ?_
    refine lv_aload_n hx hb d_Typ_infer_255 rfl (lv_at hl 1 rfl) ?_
    refine kf_Typ_terms S E hI.1 vt_144 d_Typ_infer_256 ?_
    refine lv_iload_n hx hb d_Typ_infer_259 rfl (lv_at hl 0 rfl) ?_
    obtain ⟨v13, e14, h⟩ := Option.bind_eq_some_iff.mp h
    refine kg_p (As := [.int y1]) (rest := [.ref (kad g 8)]) ((k_Terms_head (l := l) (g := g) (α := (f_Fra_set 3 v11 (f_Fra_set 0 22 γ))) N y1) _ e14) S E hI.1 kw_Typ_78 ⟨Nat.le_of_ble_eq_true rfl, Nat.le_of_ble_eq_true rfl⟩ hI.room (kv_Terms E hI.1) rfl hl.1 rfl (Nat.le_of_ble_eq_true rfl) d_Typ_infer_260 rfl ?_
    refine kg_cV (As := [.int v13]) (rest := []) h (k_Typ_inferWithin (l := l) (g := g) (α := (f_Fra_set 3 v11 (f_Fra_set 0 22 γ))) hfl N v13) S hlocks hno E hI kw_Typ_81 ⟨Nat.le_of_ble_eq_true rfl, Nat.le_of_ble_eq_true rfl⟩ (kv_Typ E hI.1) rfl hl.1 rfl (Nat.le_of_ble_eq_true rfl) d_Typ_infer_263 (fun α15 ad H locs cells slots e16 h hRm hI => ?_)
    exact kc_vret hx hb hr hlocks E hI h d_Typ_infer_266
  have J23 : ∀ (γ : kS) (ad : Nat → Nat) (H : Heap) (locs : List Loc) (cells slots : Nat) (ls : Array Slot), f_Typ_infer_j23 N γ = some x → kI g A s α ad0 γ ad H locs cells slots → lv_has ls 2 [(0, .ref (kad g 8))] → W p l e (kR 33 972 α) s m ([.ref (kad g 8)]).toArray below meth c H locs cells slots (vEQ below (kQ g A α ad0 (kQr x)) ([.ref (kad g 8)]).toArray s A) (F0 m 23 ls []) := by
    intro  γ ad H locs cells slots ls h hI hl
    unfold f_Typ_infer_j23 at h
    refine lv_aload_n hx hb d_Typ_infer_23 rfl (lv_at hl 0 rfl) ?_
    refine kf_Typ_frames S E hI.1 vt_142 d_Typ_infer_24 ?_
    refine lv_iconst (v := 1) hx hb d_Typ_infer_27 (by decide) ?_
    refine kg_p (As := [.int 1]) (rest := []) (k_Fra_top (l := l) (g := g) (α := γ) 1) S E hI.1 kw_Typ_29 ⟨Nat.le_of_ble_eq_true rfl, Nat.le_of_ble_eq_true rfl⟩ hI.room (kv_Fra E hI.1) rfl hl.1 rfl (Nat.le_of_ble_eq_true rfl) d_Typ_infer_28 rfl ?_
    refine lv_istore_n (lv' := [(1, .int (f_Fra_top 1 γ)), (0, .ref (kad g 8))]) hx hb d_Typ_infer_31 rfl hl (by decide) rfl (fun ls hl => ?_)
    refine lv_aload_n hx hb d_Typ_infer_32 rfl (lv_at hl 1 rfl) ?_
    refine kf_Typ_terms S E hI.1 vt_144 d_Typ_infer_33 ?_
    refine lv_iload_n hx hb d_Typ_infer_36 rfl (lv_at hl 0 rfl) ?_
    refine kg_p (As := [.int (f_Fra_top 1 γ)]) (rest := []) (k_Terms_kind (l := l) (g := g) (α := γ) (f_Fra_top 1 γ)) S E hI.1 kw_Typ_39 ⟨Nat.le_of_ble_eq_true rfl, Nat.le_of_ble_eq_true rfl⟩ hI.room (kv_Terms E hI.1) rfl hl.1 rfl (Nat.le_of_ble_eq_true rfl) d_Typ_infer_37 rfl ?_
    by_cases c2 : (f_Terms_kind (f_Fra_top 1 γ) γ) = 1
    · replace h := Eq.trans (if_pos c2).symm h
      refine lv_tableIn (off := 48) (tgt := 88) hx hb d_Typ_infer_40 (by rw [c2]; decide) (by rw [c2]; decide) (by rw [c2]; rfl) (by decide) ?_
      refine lv_aload_n hx hb d_Typ_infer_88 rfl (lv_at hl 1 rfl) ?_
      refine kf_Typ_frames S E hI.1 vt_142 d_Typ_infer_89 ?_
      refine lv_aload_n hx hb d_Typ_infer_92 rfl (lv_at hl 1 rfl) ?_
      refine kf_Typ_frames S E hI.1 vt_142 d_Typ_infer_93 ?_
      refine lv_aload_n hx hb d_Typ_infer_96 rfl (lv_at hl 1 rfl) ?_
      refine kf_Typ_terms S E hI.1 vt_144 d_Typ_infer_97 ?_
      refine lv_iload_n hx hb d_Typ_infer_100 rfl (lv_at hl 0 rfl) ?_
      refine kg_p (As := [.int (f_Fra_top 1 γ)]) (rest := [.ref (kad g 6), .ref (kad g 6)]) (k_Terms_left (l := l) (g := g) (α := γ) (f_Fra_top 1 γ)) S E hI.1 kw_Typ_44 ⟨Nat.le_of_ble_eq_true rfl, Nat.le_of_ble_eq_true rfl⟩ hI.room (kv_Terms E hI.1) rfl hl.1 rfl (Nat.le_of_ble_eq_true rfl) d_Typ_infer_101 rfl ?_
      refine kg_p (As := [.int (f_Terms_left (f_Fra_top 1 γ) γ)]) (rest := [.ref (kad g 6)]) (k_Fra_typeOf (l := l) (g := g) (α := γ) (f_Terms_left (f_Fra_top 1 γ) γ)) S E hI.1 kw_Typ_47 ⟨Nat.le_of_ble_eq_true rfl, Nat.le_of_ble_eq_true rfl⟩ hI.room (kv_Fra E hI.1) rfl hl.1 rfl (Nat.le_of_ble_eq_true rfl) d_Typ_infer_104 rfl ?_
      refine kg_tV (As := [.int (f_Fra_typeOf (f_Terms_left (f_Fra_top 1 γ) γ) γ)]) (rest := []) (k_Fra_give (l := l) (g := g) (α := γ) (f_Fra_typeOf (f_Terms_left (f_Fra_top 1 γ) γ) γ)) S hlocks hno E hI kw_Typ_50 ⟨Nat.le_of_ble_eq_true rfl, Nat.le_of_ble_eq_true rfl⟩ (kv_Fra E hI.1) rfl hl.1 rfl (Nat.le_of_ble_eq_true rfl) d_Typ_infer_107 (fun ad H locs cells slots hRm hI => ?_)
      refine lv_goto (tgt := 266) hx hb d_Typ_infer_110 (by decide) ?_
      exact kc_vret hx hb hr hlocks E hI h d_Typ_infer_266
    · replace h := Eq.trans (if_neg c2).symm h
      have nc2 := ksw (z := 1) rfl c2
      by_cases c3 : (f_Terms_kind (f_Fra_top 1 γ) γ) = 2
      · replace h := Eq.trans (if_pos c3).symm h
        refine lv_tableIn (off := 73) (tgt := 113) hx hb d_Typ_infer_40 (by rw [c3]; decide) (by rw [c3]; decide) (by rw [c3]; rfl) (by decide) ?_
        refine lv_aload_n hx hb d_Typ_infer_113 rfl (lv_at hl 1 rfl) ?_
        refine lv_aload_n hx hb d_Typ_infer_114 rfl (lv_at hl 1 rfl) ?_
        refine kf_Typ_terms S E hI.1 vt_144 d_Typ_infer_115 ?_
        refine lv_iload_n hx hb d_Typ_infer_118 rfl (lv_at hl 0 rfl) ?_
        refine kg_p (As := [.int (f_Fra_top 1 γ)]) (rest := [.ref (kad g 8)]) (k_Terms_left (l := l) (g := g) (α := γ) (f_Fra_top 1 γ)) S E hI.1 kw_Typ_44 ⟨Nat.le_of_ble_eq_true rfl, Nat.le_of_ble_eq_true rfl⟩ hI.room (kv_Terms E hI.1) rfl hl.1 rfl (Nat.le_of_ble_eq_true rfl) d_Typ_infer_119 rfl ?_
        refine kg_cV (As := [.int (f_Terms_left (f_Fra_top 1 γ) γ)]) (rest := []) h (k_Typ_inferSort (l := l) (g := g) (α := γ) hfl N (f_Terms_left (f_Fra_top 1 γ) γ)) S hlocks hno E hI kw_Typ_53 ⟨Nat.le_of_ble_eq_true rfl, Nat.le_of_ble_eq_true rfl⟩ (kv_Typ E hI.1) rfl hl.1 rfl (Nat.le_of_ble_eq_true rfl) d_Typ_infer_122 (fun α4 ad H locs cells slots e5 h hRm hI => ?_)
        refine lv_goto (tgt := 266) hx hb d_Typ_infer_125 (by decide) ?_
        exact kc_vret hx hb hr hlocks E hI h d_Typ_infer_266
      · replace h := Eq.trans (if_neg c3).symm h
        have nc3 := ksw (z := 2) rfl c3
        by_cases c6 : (f_Terms_kind (f_Fra_top 1 γ) γ) = 3
        · replace h := Eq.trans (if_pos c6).symm h
          refine lv_tableIn (off := 88) (tgt := 128) hx hb d_Typ_infer_40 (by rw [c6]; decide) (by rw [c6]; decide) (by rw [c6]; rfl) (by decide) ?_
          refine lv_aload_n hx hb d_Typ_infer_128 rfl (lv_at hl 1 rfl) ?_
          refine kf_Typ_frames S E hI.1 vt_142 d_Typ_infer_129 ?_
          refine lv_aload_n hx hb d_Typ_infer_132 rfl (lv_at hl 1 rfl) ?_
          refine kf_Typ_environment S E hI.1 vt_145 d_Typ_infer_133 ?_
          refine lv_aload_n hx hb d_Typ_infer_136 rfl (lv_at hl 1 rfl) ?_
          refine kf_Typ_terms S E hI.1 vt_144 d_Typ_infer_137 ?_
          refine lv_iload_n hx hb d_Typ_infer_140 rfl (lv_at hl 0 rfl) ?_
          refine kg_p (As := [.int (f_Fra_top 1 γ)]) (rest := [.ref (kad g 3), .ref (kad g 6)]) (k_Terms_left (l := l) (g := g) (α := γ) (f_Fra_top 1 γ)) S E hI.1 kw_Typ_44 ⟨Nat.le_of_ble_eq_true rfl, Nat.le_of_ble_eq_true rfl⟩ hI.room (kv_Terms E hI.1) rfl hl.1 rfl (Nat.le_of_ble_eq_true rfl) d_Typ_infer_141 rfl ?_
          refine lv_iconst (v := 1) hx hb d_Typ_infer_144 (by decide) ?_
          refine kg_p (As := [.int (f_Terms_left (f_Fra_top 1 γ) γ), .int 1]) (rest := [.ref (kad g 6)]) (k_Env_fact (l := l) (g := g) (α := γ) (f_Terms_left (f_Fra_top 1 γ) γ) 1) S E hI.1 kw_Typ_56 ⟨Nat.le_of_ble_eq_true rfl, Nat.le_of_ble_eq_true rfl⟩ hI.room (kv_Env E hI.1) rfl hl.1 rfl (Nat.le_of_ble_eq_true rfl) d_Typ_infer_145 rfl ?_
          refine kg_tV (As := [.int (f_Env_fact (f_Terms_left (f_Fra_top 1 γ) γ) 1 γ)]) (rest := []) (k_Fra_give (l := l) (g := g) (α := γ) (f_Env_fact (f_Terms_left (f_Fra_top 1 γ) γ) 1 γ)) S hlocks hno E hI kw_Typ_50 ⟨Nat.le_of_ble_eq_true rfl, Nat.le_of_ble_eq_true rfl⟩ (kv_Fra E hI.1) rfl hl.1 rfl (Nat.le_of_ble_eq_true rfl) d_Typ_infer_148 (fun ad H locs cells slots hRm hI => ?_)
          refine lv_goto (tgt := 266) hx hb d_Typ_infer_151 (by decide) ?_
          exact kc_vret hx hb hr hlocks E hI h d_Typ_infer_266
        · replace h := Eq.trans (if_neg c6).symm h
          have nc6 := ksw (z := 3) rfl c6
          by_cases c7 : (f_Terms_kind (f_Fra_top 1 γ) γ) = 4
          · replace h := Eq.trans (if_pos c7).symm h
            refine lv_tableIn (off := 114) (tgt := 154) hx hb d_Typ_infer_40 (by rw [c7]; decide) (by rw [c7]; decide) (by rw [c7]; rfl) (by decide) ?_
            refine lv_aload_n hx hb d_Typ_infer_154 rfl (lv_at hl 1 rfl) ?_
            refine lv_aload_n hx hb d_Typ_infer_155 rfl (lv_at hl 1 rfl) ?_
            refine kf_Typ_terms S E hI.1 vt_144 d_Typ_infer_156 ?_
            refine lv_iload_n hx hb d_Typ_infer_159 rfl (lv_at hl 0 rfl) ?_
            refine kg_p (As := [.int (f_Fra_top 1 γ)]) (rest := [.ref (kad g 8)]) (k_Terms_left (l := l) (g := g) (α := γ) (f_Fra_top 1 γ)) S E hI.1 kw_Typ_44 ⟨Nat.le_of_ble_eq_true rfl, Nat.le_of_ble_eq_true rfl⟩ hI.room (kv_Terms E hI.1) rfl hl.1 rfl (Nat.le_of_ble_eq_true rfl) d_Typ_infer_160 rfl ?_
            refine lv_aload_n hx hb d_Typ_infer_163 rfl (lv_at hl 1 rfl) ?_
            refine kf_Typ_terms S E hI.1 vt_144 d_Typ_infer_164 ?_
            refine lv_iload_n hx hb d_Typ_infer_167 rfl (lv_at hl 0 rfl) ?_
            refine kg_p (As := [.int (f_Fra_top 1 γ)]) (rest := [.int (f_Terms_left (f_Fra_top 1 γ) γ), .ref (kad g 8)]) (k_Terms_right (l := l) (g := g) (α := γ) (f_Fra_top 1 γ)) S E hI.1 kw_Typ_62 ⟨Nat.le_of_ble_eq_true rfl, Nat.le_of_ble_eq_true rfl⟩ hI.room (kv_Terms E hI.1) rfl hl.1 rfl (Nat.le_of_ble_eq_true rfl) d_Typ_infer_168 rfl ?_
            refine kg_cV (As := [.int (f_Terms_left (f_Fra_top 1 γ) γ), .int (f_Terms_right (f_Fra_top 1 γ) γ)]) (rest := []) h (k_Typ_inferRecursor (l := l) (g := g) (α := γ) hfl N (f_Terms_left (f_Fra_top 1 γ) γ) (f_Terms_right (f_Fra_top 1 γ) γ)) S hlocks hno E hI kw_Typ_65 ⟨Nat.le_of_ble_eq_true rfl, Nat.le_of_ble_eq_true rfl⟩ (kv_Typ E hI.1) rfl hl.1 rfl (Nat.le_of_ble_eq_true rfl) d_Typ_infer_171 (fun α8 ad H locs cells slots e9 h hRm hI => ?_)
            refine lv_goto (tgt := 266) hx hb d_Typ_infer_174 (by decide) ?_
            exact kc_vret hx hb hr hlocks E hI h d_Typ_infer_266
          · replace h := Eq.trans (if_neg c7).symm h
            have nc7 := ksw (z := 4) rfl c7
            by_cases c10 : (f_Terms_kind (f_Fra_top 1 γ) γ) = 5
            · replace h := Eq.trans (if_pos c10).symm h
              refine lv_tableIn (off := 188) (tgt := 228) hx hb d_Typ_infer_40 (by rw [c10]; decide) (by rw [c10]; decide) (by rw [c10]; rfl) (by decide) ?_
              exact J228 (f_Fra_top 1 γ) _ _ _ _ _ _ _ h hI (lv_sub hl [0, 1] rfl)
            · replace h := Eq.trans (if_neg c10).symm h
              have nc10 := ksw (z := 5) rfl c10
              by_cases c17 : (f_Terms_kind (f_Fra_top 1 γ) γ) = 6
              · replace h := Eq.trans (if_pos c17).symm h
                refine lv_tableIn (off := 137) (tgt := 177) hx hb d_Typ_infer_40 (by rw [c17]; decide) (by rw [c17]; decide) (by rw [c17]; rfl) (by decide) ?_
                refine lv_aload_n hx hb d_Typ_infer_177 rfl (lv_at hl 1 rfl) ?_
                refine lv_bipush (v := 16) hx hb d_Typ_infer_178 (by decide) ?_
                refine lv_aload_n hx hb d_Typ_infer_180 rfl (lv_at hl 1 rfl) ?_
                refine kf_Typ_terms S E hI.1 vt_144 d_Typ_infer_181 ?_
                refine lv_iload_n hx hb d_Typ_infer_184 rfl (lv_at hl 0 rfl) ?_
                refine kg_p (As := [.int (f_Fra_top 1 γ)]) (rest := [.int 16, .ref (kad g 8)]) (k_Terms_left (l := l) (g := g) (α := γ) (f_Fra_top 1 γ)) S E hI.1 kw_Typ_44 ⟨Nat.le_of_ble_eq_true rfl, Nat.le_of_ble_eq_true rfl⟩ hI.room (kv_Terms E hI.1) rfl hl.1 rfl (Nat.le_of_ble_eq_true rfl) d_Typ_infer_185 rfl ?_
                refine kg_cV (As := [.int 16, .int (f_Terms_left (f_Fra_top 1 γ) γ)]) (rest := []) h (k_Typ_sortWithin (l := l) (g := g) (α := γ) hfl N 16 (f_Terms_left (f_Fra_top 1 γ) γ)) S hlocks hno E hI kw_Typ_69 ⟨Nat.le_of_ble_eq_true rfl, Nat.le_of_ble_eq_true rfl⟩ (kv_Typ E hI.1) rfl hl.1 rfl (Nat.le_of_ble_eq_true rfl) d_Typ_infer_188 (fun α18 ad H locs cells slots e19 h hRm hI => ?_)
                refine lv_goto (tgt := 266) hx hb d_Typ_infer_191 (by decide) ?_
                exact kc_vret hx hb hr hlocks E hI h d_Typ_infer_266
              · replace h := Eq.trans (if_neg c17).symm h
                have nc17 := ksw (z := 6) rfl c17
                by_cases c20 : (f_Terms_kind (f_Fra_top 1 γ) γ) = 7
                · replace h := Eq.trans (if_pos c20).symm h
                  refine lv_tableIn (off := 154) (tgt := 194) hx hb d_Typ_infer_40 (by rw [c20]; decide) (by rw [c20]; decide) (by rw [c20]; rfl) (by decide) ?_
                  refine lv_aload_n hx hb d_Typ_infer_194 rfl (lv_at hl 1 rfl) ?_
                  refine lv_bipush (v := 18) hx hb d_Typ_infer_195 (by decide) ?_
                  refine lv_aload_n hx hb d_Typ_infer_197 rfl (lv_at hl 1 rfl) ?_
                  refine kf_Typ_terms S E hI.1 vt_144 d_Typ_infer_198 ?_
                  refine lv_iload_n hx hb d_Typ_infer_201 rfl (lv_at hl 0 rfl) ?_
                  refine kg_p (As := [.int (f_Fra_top 1 γ)]) (rest := [.int 18, .ref (kad g 8)]) (k_Terms_left (l := l) (g := g) (α := γ) (f_Fra_top 1 γ)) S E hI.1 kw_Typ_44 ⟨Nat.le_of_ble_eq_true rfl, Nat.le_of_ble_eq_true rfl⟩ hI.room (kv_Terms E hI.1) rfl hl.1 rfl (Nat.le_of_ble_eq_true rfl) d_Typ_infer_202 rfl ?_
                  refine kg_cV (As := [.int 18, .int (f_Terms_left (f_Fra_top 1 γ) γ)]) (rest := []) h (k_Typ_sortWithin (l := l) (g := g) (α := γ) hfl N 18 (f_Terms_left (f_Fra_top 1 γ) γ)) S hlocks hno E hI kw_Typ_69 ⟨Nat.le_of_ble_eq_true rfl, Nat.le_of_ble_eq_true rfl⟩ (kv_Typ E hI.1) rfl hl.1 rfl (Nat.le_of_ble_eq_true rfl) d_Typ_infer_205 (fun α21 ad H locs cells slots e22 h hRm hI => ?_)
                  refine lv_goto (tgt := 266) hx hb d_Typ_infer_208 (by decide) ?_
                  exact kc_vret hx hb hr hlocks E hI h d_Typ_infer_266
                · replace h := Eq.trans (if_neg c20).symm h
                  have nc20 := ksw (z := 7) rfl c20
                  by_cases c23 : (f_Terms_kind (f_Fra_top 1 γ) γ) = 8
                  · replace h := Eq.trans (if_pos c23).symm h
                    refine lv_tableIn (off := 171) (tgt := 211) hx hb d_Typ_infer_40 (by rw [c23]; decide) (by rw [c23]; decide) (by rw [c23]; rfl) (by decide) ?_
                    refine lv_aload_n hx hb d_Typ_infer_211 rfl (lv_at hl 1 rfl) ?_
                    refine lv_bipush (v := 20) hx hb d_Typ_infer_212 (by decide) ?_
                    refine lv_aload_n hx hb d_Typ_infer_214 rfl (lv_at hl 1 rfl) ?_
                    refine kf_Typ_terms S E hI.1 vt_144 d_Typ_infer_215 ?_
                    refine lv_iload_n hx hb d_Typ_infer_218 rfl (lv_at hl 0 rfl) ?_
                    refine kg_p (As := [.int (f_Fra_top 1 γ)]) (rest := [.int 20, .ref (kad g 8)]) (k_Terms_left (l := l) (g := g) (α := γ) (f_Fra_top 1 γ)) S E hI.1 kw_Typ_44 ⟨Nat.le_of_ble_eq_true rfl, Nat.le_of_ble_eq_true rfl⟩ hI.room (kv_Terms E hI.1) rfl hl.1 rfl (Nat.le_of_ble_eq_true rfl) d_Typ_infer_219 rfl ?_
                    refine kg_cV (As := [.int 20, .int (f_Terms_left (f_Fra_top 1 γ) γ)]) (rest := []) h (k_Typ_sortWithin (l := l) (g := g) (α := γ) hfl N 20 (f_Terms_left (f_Fra_top 1 γ) γ)) S hlocks hno E hI kw_Typ_69 ⟨Nat.le_of_ble_eq_true rfl, Nat.le_of_ble_eq_true rfl⟩ (kv_Typ E hI.1) rfl hl.1 rfl (Nat.le_of_ble_eq_true rfl) d_Typ_infer_222 (fun α24 ad H locs cells slots e25 h hRm hI => ?_)
                    refine lv_goto (tgt := 266) hx hb d_Typ_infer_225 (by decide) ?_
                    exact kc_vret hx hb hr hlocks E hI h d_Typ_infer_266
                  · replace h := Eq.trans (if_neg c23).symm h
                    have nc23 := ksw (z := 8) rfl c23
                    refine lv_tableOut (tgt := 228) hx hb d_Typ_infer_40 (by omega) (by decide) ?_
                    exact J228 (f_Fra_top 1 γ) _ _ _ _ _ _ _ h hI (lv_sub hl [0, 1] rfl)
  refine lv_aload_n hx hb d_Typ_infer_0 rfl (lv_at hl 0 rfl) ?_
  refine kf_Typ_frames S E hI.1 vt_142 d_Typ_infer_1 ?_
  refine lv_iconst (v := 4) hx hb d_Typ_infer_4 (by decide) ?_
  refine kg_p (As := [.int 4]) (rest := []) (k_Fra_top (l := l) (g := g) (α := α) 4) S E hI.1 kw_Typ_29 ⟨Nat.le_of_ble_eq_true rfl, Nat.le_of_ble_eq_true rfl⟩ hI.room (kv_Fra E hI.1) rfl hl.1 rfl (Nat.le_of_ble_eq_true rfl) d_Typ_infer_5 rfl ?_
  refine lv_sipush (v := 150) hx hb d_Typ_infer_8 (by decide) ?_
  refine lv_icmp_le (tgt := 23) hx hb d_Typ_infer_11 (by decide) (fun c1 => ?_) (fun c1 => ?_)
  · replace h := Eq.trans (if_pos c1).symm h
    exact J23  _ _ _ _ _ _ _ h hI (lv_sub hl [0] rfl)
  · replace h := Eq.trans (if_neg c1).symm h
    refine lv_aload_n hx hb d_Typ_infer_14 rfl (lv_at hl 0 rfl) ?_
    refine kf_Typ_meter S E hI.1 vt_143 d_Typ_infer_15 ?_
    refine lv_bipush (v := 10) hx hb d_Typ_infer_18 (by decide) ?_
    refine kg_cV (As := [.int 10]) (rest := []) h (k_Meter_fail (l := l) (g := g) (α := α) hfl N 10) S hlocks hno E hI kw_Typ_33 ⟨Nat.le_of_ble_eq_true rfl, Nat.le_of_ble_eq_true rfl⟩ (kv_Meter E hI.1) rfl hl.1 rfl (Nat.le_of_ble_eq_true rfl) d_Typ_infer_20 (fun α26 ad H locs cells slots e27 h hRm hI => ?_)
    exact J23  _ _ _ _ _ _ _ h hI (lv_sub hl [0] rfl)
theorem kw_Typ_109 : kWv "FamilyKernel$Typer" 109 "FamilyKernel$Frames" y_Fra_newVariable b_Fra_newVariable 2 (some .int) 1 := ⟨vt_953, vt_893, vt_894, vt_47, vt_895, by decide, by decide, by decide +kernel⟩
def f_Typ_openBody (N : Nat) (a1 : Int32) (α : kS) : Option (kO × kS) := kBi (f_Fra_newVariable N (f_Terms_left a1 α) α) fun v3 α1 => (kBi (f_Terms_make N 1 v3 0 α1) fun v6 α4 => (kBi (f_Terms_rewrite N 0 (f_Terms_right a1 α4) v6 α4) fun v9 α7 => (some (some (some v9), α7))))
set_option maxHeartbeats 4000000 in
set_option maxRecDepth 100000 in
theorem k_Typ_openBody {l : Launch} {g : kG} {α : kS} (hfl : kFl l) (N : Nat) (a1 : Int32)  : ∀ x, f_Typ_openBody N a1 α = some x → kC l g y_Typ_openBody b_Typ_openBody 3 (some .int) 32 949 [.ref (kad g 8), .int a1] α (kQr x) := by
  intro x h
  unfold f_Typ_openBody at h
  refine kc_ofW (by decide) (fun A ad0 p e s m args below meth c S hr hlocks hno hadm hargs E hI => ?_)
  have hx := S.1
  have hb := S.2.1
  have hown := S.2.2.2.1
  have hT := S.2.2.2.2
  subst hargs
  have hl := lv_entry ([.ref (kad g 8), .int a1]) (n := 3) (Nat.le_of_ble_eq_true rfl)
  rw [lg_entry_eq]
  generalize (lg_sl ([.ref (kad g 8), .int a1]) ++ List.replicate (3 - (lg_sl ([.ref (kad g 8), .int a1])).length) Slot.unset).toArray = ls at hl ⊢
  have hl : lv_has ls 3 [(0, .ref (kad g 8)), (1, .int a1)] := hl
  refine lv_aload_n hx hb d_Typ_openBody_0 rfl (lv_at hl 0 rfl) ?_
  refine kf_Typ_terms S E hI.1 vt_144 d_Typ_openBody_1 ?_
  refine lv_iconst (v := 1) hx hb d_Typ_openBody_4 (by decide) ?_
  refine lv_aload_n hx hb d_Typ_openBody_5 rfl (lv_at hl 0 rfl) ?_
  refine kf_Typ_frames S E hI.1 vt_142 d_Typ_openBody_6 ?_
  refine lv_aload_n hx hb d_Typ_openBody_9 rfl (lv_at hl 0 rfl) ?_
  refine kf_Typ_terms S E hI.1 vt_144 d_Typ_openBody_10 ?_
  refine lv_iload_n hx hb d_Typ_openBody_13 rfl (lv_at hl 1 rfl) ?_
  refine kg_p (As := [.int a1]) (rest := [.ref (kad g 6), .int 1, .ref (kad g 2)]) (k_Terms_left (l := l) (g := g) (α := α) a1) S E hI.1 kw_Typ_44 ⟨Nat.le_of_ble_eq_true rfl, Nat.le_of_ble_eq_true rfl⟩ hI.room (kv_Terms E hI.1) rfl hl.1 rfl (Nat.le_of_ble_eq_true rfl) d_Typ_openBody_14 rfl ?_
  refine kg_cI (As := [.int (f_Terms_left a1 α)]) (rest := [.int 1, .ref (kad g 2)]) h (k_Fra_newVariable (l := l) (g := g) (α := α) hfl N (f_Terms_left a1 α)) S hlocks hno E hI kw_Typ_109 ⟨Nat.le_of_ble_eq_true rfl, Nat.le_of_ble_eq_true rfl⟩ (kv_Fra E hI.1) rfl hl.1 rfl (Nat.le_of_ble_eq_true rfl) d_Typ_openBody_17 (fun v3 α1 ad H locs cells slots e2 h hRm hI => ?_)
  refine lv_iconst (v := 0) hx hb d_Typ_openBody_20 (by decide) ?_
  refine kg_cI (As := [.int 1, .int v3, .int 0]) (rest := []) h (k_Terms_make (l := l) (g := g) (α := α1) hfl N 1 v3 0) S hlocks hno E hI kw_Typ_84 ⟨Nat.le_of_ble_eq_true rfl, Nat.le_of_ble_eq_true rfl⟩ (kv_Terms E hI.1) rfl hl.1 rfl (Nat.le_of_ble_eq_true rfl) d_Typ_openBody_21 (fun v6 α4 ad H locs cells slots e5 h hRm hI => ?_)
  refine lv_istore_n (lv' := [(2, .int v6), (0, .ref (kad g 8)), (1, .int a1)]) hx hb d_Typ_openBody_24 rfl hl (by decide) rfl (fun ls hl => ?_)
  refine lv_aload_n hx hb d_Typ_openBody_25 rfl (lv_at hl 1 rfl) ?_
  refine kf_Typ_terms S E hI.1 vt_144 d_Typ_openBody_26 ?_
  refine lv_iconst (v := 0) hx hb d_Typ_openBody_29 (by decide) ?_
  refine lv_aload_n hx hb d_Typ_openBody_30 rfl (lv_at hl 1 rfl) ?_
  refine kf_Typ_terms S E hI.1 vt_144 d_Typ_openBody_31 ?_
  refine lv_iload_n hx hb d_Typ_openBody_34 rfl (lv_at hl 2 rfl) ?_
  refine kg_p (As := [.int a1]) (rest := [.int 0, .ref (kad g 2)]) (k_Terms_right (l := l) (g := g) (α := α4) a1) S E hI.1 kw_Typ_62 ⟨Nat.le_of_ble_eq_true rfl, Nat.le_of_ble_eq_true rfl⟩ hI.room (kv_Terms E hI.1) rfl hl.1 rfl (Nat.le_of_ble_eq_true rfl) d_Typ_openBody_35 rfl ?_
  refine lv_iload_n hx hb d_Typ_openBody_38 rfl (lv_at hl 0 rfl) ?_
  refine kg_cI (As := [.int 0, .int (f_Terms_right a1 α4), .int v6]) (rest := []) h (k_Terms_rewrite (l := l) (g := g) (α := α4) hfl N 0 (f_Terms_right a1 α4) v6) S hlocks hno E hI kw_Typ_98 ⟨Nat.le_of_ble_eq_true rfl, Nat.le_of_ble_eq_true rfl⟩ (kv_Terms E hI.1) rfl hl.1 rfl (Nat.le_of_ble_eq_true rfl) d_Typ_openBody_39 (fun v9 α7 ad H locs cells slots e8 h hRm hI => ?_)
  exact kc_iret (w := v9) hx hb hr rfl hlocks E hI h d_Typ_openBody_42
theorem kw_Typ_105 : kWv "FamilyKernel$Typer" 105 "FamilyKernel$Frames" y_Fra_result b_Fra_result 1 (some .int) 0 := ⟨vt_948, vt_884, vt_885, vt_47, vt_886, by decide, by decide, by decide +kernel⟩
theorem kw_Typ_112 : kWv "FamilyKernel$Typer" 112 "FamilyKernel$Typer" y_Typ_openBody b_Typ_openBody 3 (some .int) 1 := ⟨vt_949, vt_950, vt_951, vt_61, vt_952, by decide, by decide, by decide +kernel⟩
def f_Typ_piBody (N : Nat)  (α : kS) : Option (kO × kS) := kBi (f_Typ_openBody N (f_Fra_top 1 (f_Fra_set 2 (f_Fra_result α) α)) (f_Fra_set 2 (f_Fra_result α) α)) fun v3 α1 => (kBv (f_Typ_sortWithin N 17 v3 α1) fun α4 => (some (some none, α4)))
set_option maxHeartbeats 4000000 in
set_option maxRecDepth 100000 in
theorem k_Typ_piBody {l : Launch} {g : kG} {α : kS} (hfl : kFl l) (N : Nat)   : ∀ x, f_Typ_piBody N α = some x → kC l g y_Typ_piBody b_Typ_piBody 1 none 33 971 [.ref (kad g 8)] α (kQr x) := by
  intro x h
  unfold f_Typ_piBody at h
  refine kc_ofW (by decide) (fun A ad0 p e s m args below meth c S hr hlocks hno hadm hargs E hI => ?_)
  have hx := S.1
  have hb := S.2.1
  have hown := S.2.2.2.1
  have hT := S.2.2.2.2
  subst hargs
  have hl := lv_entry ([.ref (kad g 8)]) (n := 1) (Nat.le_of_ble_eq_true rfl)
  rw [lg_entry_eq]
  generalize (lg_sl ([.ref (kad g 8)]) ++ List.replicate (1 - (lg_sl ([.ref (kad g 8)])).length) Slot.unset).toArray = ls at hl ⊢
  have hl : lv_has ls 1 [(0, .ref (kad g 8))] := hl
  refine lv_aload_n hx hb d_Typ_piBody_0 rfl (lv_at hl 0 rfl) ?_
  refine kf_Typ_frames S E hI.1 vt_142 d_Typ_piBody_1 ?_
  refine lv_iconst (v := 2) hx hb d_Typ_piBody_4 (by decide) ?_
  refine lv_aload_n hx hb d_Typ_piBody_5 rfl (lv_at hl 0 rfl) ?_
  refine kf_Typ_frames S E hI.1 vt_142 d_Typ_piBody_6 ?_
  refine kg_p (As := []) (rest := [.int 2, .ref (kad g 6)]) (k_Fra_result (l := l) (g := g) (α := α) ) S E hI.1 kw_Typ_105 ⟨Nat.le_of_ble_eq_true rfl, Nat.le_of_ble_eq_true rfl⟩ hI.room (kv_Fra E hI.1) rfl hl.1 rfl (Nat.le_of_ble_eq_true rfl) d_Typ_piBody_9 rfl ?_
  refine kg_tV (As := [.int 2, .int (f_Fra_result α)]) (rest := []) (k_Fra_set (l := l) (g := g) (α := α) 2 (f_Fra_result α)) S hlocks hno E hI kw_Typ_72 ⟨Nat.le_of_ble_eq_true rfl, Nat.le_of_ble_eq_true rfl⟩ (kv_Fra E hI.1) rfl hl.1 rfl (Nat.le_of_ble_eq_true rfl) d_Typ_piBody_12 (fun ad H locs cells slots hRm hI => ?_)
  refine lv_aload_n hx hb d_Typ_piBody_15 rfl (lv_at hl 0 rfl) ?_
  refine lv_bipush (v := 17) hx hb d_Typ_piBody_16 (by decide) ?_
  refine lv_aload_n hx hb d_Typ_piBody_18 rfl (lv_at hl 0 rfl) ?_
  refine lv_aload_n hx hb d_Typ_piBody_19 rfl (lv_at hl 0 rfl) ?_
  refine kf_Typ_frames S E hI.1 vt_142 d_Typ_piBody_20 ?_
  refine lv_iconst (v := 1) hx hb d_Typ_piBody_23 (by decide) ?_
  refine kg_p (As := [.int 1]) (rest := [.ref (kad g 8), .int 17, .ref (kad g 8)]) (k_Fra_top (l := l) (g := g) (α := (f_Fra_set 2 (f_Fra_result α) α)) 1) S E hI.1 kw_Typ_29 ⟨Nat.le_of_ble_eq_true rfl, Nat.le_of_ble_eq_true rfl⟩ hI.room (kv_Fra E hI.1) rfl hl.1 rfl (Nat.le_of_ble_eq_true rfl) d_Typ_piBody_24 rfl ?_
  refine kg_cI (As := [.int (f_Fra_top 1 (f_Fra_set 2 (f_Fra_result α) α))]) (rest := [.int 17, .ref (kad g 8)]) h (k_Typ_openBody (l := l) (g := g) (α := (f_Fra_set 2 (f_Fra_result α) α)) hfl N (f_Fra_top 1 (f_Fra_set 2 (f_Fra_result α) α))) S hlocks hno E hI kw_Typ_112 ⟨Nat.le_of_ble_eq_true rfl, Nat.le_of_ble_eq_true rfl⟩ (kv_Typ E hI.1) rfl hl.1 rfl (Nat.le_of_ble_eq_true rfl) d_Typ_piBody_27 (fun v3 α1 ad H locs cells slots e2 h hRm hI => ?_)
  refine kg_cV (As := [.int 17, .int v3]) (rest := []) h (k_Typ_sortWithin (l := l) (g := g) (α := α1) hfl N 17 v3) S hlocks hno E hI kw_Typ_69 ⟨Nat.le_of_ble_eq_true rfl, Nat.le_of_ble_eq_true rfl⟩ (kv_Typ E hI.1) rfl hl.1 rfl (Nat.le_of_ble_eq_true rfl) d_Typ_piBody_30 (fun α4 ad H locs cells slots e5 h hRm hI => ?_)
  exact kc_vret hx hb hr hlocks E hI h d_Typ_piBody_33
theorem kw_Typ_115 : kWv "FamilyKernel$Typer" 115 "FamilyKernel$Frames" y_Fra_dropVariable b_Fra_dropVariable 1 (some .int) 0 := ⟨vt_954, vt_901, vt_902, vt_47, vt_903, by decide, by decide, by decide +kernel⟩
def f_Typ_piEnd (N : Nat)  (α : kS) : Option (kO × kS) := if (f_Fra_result α) = 0 then (kBi (f_Terms_make N 2 0 0 (f_Fra_dropVariable α).2) fun v7 α5 => (some (some none, (f_Fra_give v7 α5)))) else (kBi (f_Terms_make N 2 (if (f_Fra_result α) < (f_Fra_top 2 (f_Fra_dropVariable α).2) then (f_Fra_top 2 (f_Fra_dropVariable α).2) else (f_Fra_result α)) 0 (f_Fra_dropVariable α).2) fun v4 α2 => (some (some none, (f_Fra_give v4 α2))))
set_option maxHeartbeats 4000000 in
set_option maxRecDepth 100000 in
theorem k_Typ_piEnd {l : Launch} {g : kG} {α : kS} (hfl : kFl l) (N : Nat)   : ∀ x, f_Typ_piEnd N α = some x → kC l g y_Typ_piEnd b_Typ_piEnd 2 none 23 692 [.ref (kad g 8)] α (kQr x) := by
  intro x h
  unfold f_Typ_piEnd at h
  refine kc_ofW (by decide) (fun A ad0 p e s m args below meth c S hr hlocks hno hadm hargs E hI => ?_)
  have hx := S.1
  have hb := S.2.1
  have hown := S.2.2.2.1
  have hT := S.2.2.2.2
  subst hargs
  have hl := lv_entry ([.ref (kad g 8)]) (n := 2) (Nat.le_of_ble_eq_true rfl)
  rw [lg_entry_eq]
  generalize (lg_sl ([.ref (kad g 8)]) ++ List.replicate (2 - (lg_sl ([.ref (kad g 8)])).length) Slot.unset).toArray = ls at hl ⊢
  have hl : lv_has ls 2 [(0, .ref (kad g 8))] := hl
  refine lv_aload_n hx hb d_Typ_piEnd_0 rfl (lv_at hl 0 rfl) ?_
  refine kf_Typ_frames S E hI.1 vt_142 d_Typ_piEnd_1 ?_
  refine kg_p (As := []) (rest := []) (k_Fra_result (l := l) (g := g) (α := α) ) S E hI.1 kw_Typ_105 ⟨Nat.le_of_ble_eq_true rfl, Nat.le_of_ble_eq_true rfl⟩ hI.room (kv_Fra E hI.1) rfl hl.1 rfl (Nat.le_of_ble_eq_true rfl) d_Typ_piEnd_4 rfl ?_
  refine lv_istore_n (lv' := [(1, .int (f_Fra_result α)), (0, .ref (kad g 8))]) hx hb d_Typ_piEnd_7 rfl hl (by decide) rfl (fun ls hl => ?_)
  refine lv_aload_n hx hb d_Typ_piEnd_8 rfl (lv_at hl 1 rfl) ?_
  refine kf_Typ_frames S E hI.1 vt_142 d_Typ_piEnd_9 ?_
  refine kg_tI (As := []) (rest := []) (k_Fra_dropVariable (l := l) (g := g) (α := α) ) S hlocks hno E hI kw_Typ_115 ⟨Nat.le_of_ble_eq_true rfl, Nat.le_of_ble_eq_true rfl⟩ (kv_Fra E hI.1) rfl hl.1 rfl (Nat.le_of_ble_eq_true rfl) d_Typ_piEnd_12 (fun ad H locs cells slots hRm hI => ?_)
  refine lv_pop hx hb d_Typ_piEnd_15 rfl ?_
  refine lv_aload_n hx hb d_Typ_piEnd_16 rfl (lv_at hl 1 rfl) ?_
  refine kf_Typ_frames S E hI.1 vt_142 d_Typ_piEnd_17 ?_
  refine lv_aload_n hx hb d_Typ_piEnd_20 rfl (lv_at hl 1 rfl) ?_
  refine kf_Typ_terms S E hI.1 vt_144 d_Typ_piEnd_21 ?_
  refine lv_iconst (v := 2) hx hb d_Typ_piEnd_24 (by decide) ?_
  refine lv_iload_n hx hb d_Typ_piEnd_25 rfl (lv_at hl 0 rfl) ?_
  refine lv_if_ne (tgt := 33) hx hb d_Typ_piEnd_26 (by decide) (fun c1 => ?_) (fun c1 => ?_)
  · replace h := Eq.trans (if_neg c1).symm h
    refine lv_iload_n hx hb d_Typ_piEnd_33 rfl (lv_at hl 0 rfl) ?_
    refine lv_aload_n hx hb d_Typ_piEnd_34 rfl (lv_at hl 1 rfl) ?_
    refine kf_Typ_frames S E hI.1 vt_142 d_Typ_piEnd_35 ?_
    refine lv_iconst (v := 2) hx hb d_Typ_piEnd_38 (by decide) ?_
    refine kg_p (As := [.int 2]) (rest := [.int (f_Fra_result α), .int 2, .ref (kad g 2), .ref (kad g 6)]) (k_Fra_top (l := l) (g := g) (α := (f_Fra_dropVariable α).2) 2) S E hI.1 kw_Typ_29 ⟨Nat.le_of_ble_eq_true rfl, Nat.le_of_ble_eq_true rfl⟩ hI.room (kv_Fra E hI.1) rfl hl.1 rfl (Nat.le_of_ble_eq_true rfl) d_Typ_piEnd_39 rfl ?_
    refine va_mmax (x := (f_Fra_result α)) (y := (f_Fra_top 2 (f_Fra_dropVariable α).2)) hx hb (S.2.2.1.trans hl.1.symm) hown (hT _ vt_955) (hT _ vt_553) (hT _ vt_317) (hT _ vt_554) (Nat.le_of_ble_eq_true rfl) (Nat.le_of_ble_eq_true rfl) hI.room.1 hI.room.2 d_Typ_piEnd_42 ?_
    refine lv_iconst (v := 0) hx hb d_Typ_piEnd_45 (by decide) ?_
    refine kg_cI (As := [.int 2, .int (if (f_Fra_result α) < (f_Fra_top 2 (f_Fra_dropVariable α).2) then (f_Fra_top 2 (f_Fra_dropVariable α).2) else (f_Fra_result α)), .int 0]) (rest := [.ref (kad g 6)]) h (k_Terms_make (l := l) (g := g) (α := (f_Fra_dropVariable α).2) hfl N 2 (if (f_Fra_result α) < (f_Fra_top 2 (f_Fra_dropVariable α).2) then (f_Fra_top 2 (f_Fra_dropVariable α).2) else (f_Fra_result α)) 0) S hlocks hno E hI kw_Typ_84 ⟨Nat.le_of_ble_eq_true rfl, Nat.le_of_ble_eq_true rfl⟩ (kv_Terms E hI.1) rfl hl.1 rfl (Nat.le_of_ble_eq_true rfl) d_Typ_piEnd_46 (fun v4 α2 ad H locs cells slots e3 h hRm hI => ?_)
    refine kg_tV (As := [.int v4]) (rest := []) (k_Fra_give (l := l) (g := g) (α := α2) v4) S hlocks hno E hI kw_Typ_50 ⟨Nat.le_of_ble_eq_true rfl, Nat.le_of_ble_eq_true rfl⟩ (kv_Fra E hI.1) rfl hl.1 rfl (Nat.le_of_ble_eq_true rfl) d_Typ_piEnd_49 (fun ad H locs cells slots hRm hI => ?_)
    exact kc_vret hx hb hr hlocks E hI h d_Typ_piEnd_52
  · replace h := Eq.trans (if_pos c1).symm h
    refine lv_iconst (v := 0) hx hb d_Typ_piEnd_29 (by decide) ?_
    refine lv_goto (tgt := 45) hx hb d_Typ_piEnd_30 (by decide) ?_
    refine lv_iconst (v := 0) hx hb d_Typ_piEnd_45 (by decide) ?_
    refine kg_cI (As := [.int 2, .int 0, .int 0]) (rest := [.ref (kad g 6)]) h (k_Terms_make (l := l) (g := g) (α := (f_Fra_dropVariable α).2) hfl N 2 0 0) S hlocks hno E hI kw_Typ_84 ⟨Nat.le_of_ble_eq_true rfl, Nat.le_of_ble_eq_true rfl⟩ (kv_Terms E hI.1) rfl hl.1 rfl (Nat.le_of_ble_eq_true rfl) d_Typ_piEnd_46 (fun v7 α5 ad H locs cells slots e6 h hRm hI => ?_)
    refine kg_tV (As := [.int v7]) (rest := []) (k_Fra_give (l := l) (g := g) (α := α5) v7) S hlocks hno E hI kw_Typ_50 ⟨Nat.le_of_ble_eq_true rfl, Nat.le_of_ble_eq_true rfl⟩ (kv_Fra E hI.1) rfl hl.1 rfl (Nat.le_of_ble_eq_true rfl) d_Typ_piEnd_49 (fun ad H locs cells slots hRm hI => ?_)
    exact kc_vret hx hb hr hlocks E hI h d_Typ_piEnd_52
def f_Typ_lamBody (N : Nat)  (α : kS) : Option (kO × kS) := kBi (f_Typ_openBody N (f_Fra_top 1 (f_Fra_set 0 19 α)) (f_Fra_set 0 19 α)) fun v3 α1 => (kBv (f_Typ_inferWithin N v3 α1) fun α4 => (some (some none, α4)))
set_option maxHeartbeats 4000000 in
set_option maxRecDepth 100000 in
theorem k_Typ_lamBody {l : Launch} {g : kG} {α : kS} (hfl : kFl l) (N : Nat)   : ∀ x, f_Typ_lamBody N α = some x → kC l g y_Typ_lamBody b_Typ_lamBody 1 none 33 971 [.ref (kad g 8)] α (kQr x) := by
  intro x h
  unfold f_Typ_lamBody at h
  refine kc_ofW (by decide) (fun A ad0 p e s m args below meth c S hr hlocks hno hadm hargs E hI => ?_)
  have hx := S.1
  have hb := S.2.1
  have hown := S.2.2.2.1
  have hT := S.2.2.2.2
  subst hargs
  have hl := lv_entry ([.ref (kad g 8)]) (n := 1) (Nat.le_of_ble_eq_true rfl)
  rw [lg_entry_eq]
  generalize (lg_sl ([.ref (kad g 8)]) ++ List.replicate (1 - (lg_sl ([.ref (kad g 8)])).length) Slot.unset).toArray = ls at hl ⊢
  have hl : lv_has ls 1 [(0, .ref (kad g 8))] := hl
  refine lv_aload_n hx hb d_Typ_lamBody_0 rfl (lv_at hl 0 rfl) ?_
  refine kf_Typ_frames S E hI.1 vt_142 d_Typ_lamBody_1 ?_
  refine lv_iconst (v := 0) hx hb d_Typ_lamBody_4 (by decide) ?_
  refine lv_bipush (v := 19) hx hb d_Typ_lamBody_5 (by decide) ?_
  refine kg_tV (As := [.int 0, .int 19]) (rest := []) (k_Fra_set (l := l) (g := g) (α := α) 0 19) S hlocks hno E hI kw_Typ_72 ⟨Nat.le_of_ble_eq_true rfl, Nat.le_of_ble_eq_true rfl⟩ (kv_Fra E hI.1) rfl hl.1 rfl (Nat.le_of_ble_eq_true rfl) d_Typ_lamBody_7 (fun ad H locs cells slots hRm hI => ?_)
  refine lv_aload_n hx hb d_Typ_lamBody_10 rfl (lv_at hl 0 rfl) ?_
  refine lv_aload_n hx hb d_Typ_lamBody_11 rfl (lv_at hl 0 rfl) ?_
  refine lv_aload_n hx hb d_Typ_lamBody_12 rfl (lv_at hl 0 rfl) ?_
  refine kf_Typ_frames S E hI.1 vt_142 d_Typ_lamBody_13 ?_
  refine lv_iconst (v := 1) hx hb d_Typ_lamBody_16 (by decide) ?_
  refine kg_p (As := [.int 1]) (rest := [.ref (kad g 8), .ref (kad g 8)]) (k_Fra_top (l := l) (g := g) (α := (f_Fra_set 0 19 α)) 1) S E hI.1 kw_Typ_29 ⟨Nat.le_of_ble_eq_true rfl, Nat.le_of_ble_eq_true rfl⟩ hI.room (kv_Fra E hI.1) rfl hl.1 rfl (Nat.le_of_ble_eq_true rfl) d_Typ_lamBody_17 rfl ?_
  refine kg_cI (As := [.int (f_Fra_top 1 (f_Fra_set 0 19 α))]) (rest := [.ref (kad g 8)]) h (k_Typ_openBody (l := l) (g := g) (α := (f_Fra_set 0 19 α)) hfl N (f_Fra_top 1 (f_Fra_set 0 19 α))) S hlocks hno E hI kw_Typ_112 ⟨Nat.le_of_ble_eq_true rfl, Nat.le_of_ble_eq_true rfl⟩ (kv_Typ E hI.1) rfl hl.1 rfl (Nat.le_of_ble_eq_true rfl) d_Typ_lamBody_20 (fun v3 α1 ad H locs cells slots e2 h hRm hI => ?_)
  refine kg_cV (As := [.int v3]) (rest := []) h (k_Typ_inferWithin (l := l) (g := g) (α := α1) hfl N v3) S hlocks hno E hI kw_Typ_81 ⟨Nat.le_of_ble_eq_true rfl, Nat.le_of_ble_eq_true rfl⟩ (kv_Typ E hI.1) rfl hl.1 rfl (Nat.le_of_ble_eq_true rfl) d_Typ_lamBody_23 (fun α4 ad H locs cells slots e5 h hRm hI => ?_)
  exact kc_vret hx hb hr hlocks E hI h d_Typ_lamBody_26
def f_Typ_lamEnd (N : Nat)  (α : kS) : Option (kO × kS) := kBi (f_Terms_rewrite N 2 (f_Fra_result α) (f_Fra_dropVariable α).1 (f_Fra_dropVariable α).2) fun v3 α1 => (kBi (f_Terms_make N 6 (f_Terms_left (f_Fra_top 1 α1) α1) v3 α1) fun v6 α4 => (some (some none, (f_Fra_give v6 α4))))
set_option maxHeartbeats 4000000 in
set_option maxRecDepth 100000 in
theorem k_Typ_lamEnd {l : Launch} {g : kG} {α : kS} (hfl : kFl l) (N : Nat)   : ∀ x, f_Typ_lamEnd N α = some x → kC l g y_Typ_lamEnd b_Typ_lamEnd 2 none 32 949 [.ref (kad g 8)] α (kQr x) := by
  intro x h
  unfold f_Typ_lamEnd at h
  refine kc_ofW (by decide) (fun A ad0 p e s m args below meth c S hr hlocks hno hadm hargs E hI => ?_)
  have hx := S.1
  have hb := S.2.1
  have hown := S.2.2.2.1
  have hT := S.2.2.2.2
  subst hargs
  have hl := lv_entry ([.ref (kad g 8)]) (n := 2) (Nat.le_of_ble_eq_true rfl)
  rw [lg_entry_eq]
  generalize (lg_sl ([.ref (kad g 8)]) ++ List.replicate (2 - (lg_sl ([.ref (kad g 8)])).length) Slot.unset).toArray = ls at hl ⊢
  have hl : lv_has ls 2 [(0, .ref (kad g 8))] := hl
  refine lv_aload_n hx hb d_Typ_lamEnd_0 rfl (lv_at hl 0 rfl) ?_
  refine kf_Typ_terms S E hI.1 vt_144 d_Typ_lamEnd_1 ?_
  refine lv_iconst (v := 2) hx hb d_Typ_lamEnd_4 (by decide) ?_
  refine lv_aload_n hx hb d_Typ_lamEnd_5 rfl (lv_at hl 0 rfl) ?_
  refine kf_Typ_frames S E hI.1 vt_142 d_Typ_lamEnd_6 ?_
  refine kg_p (As := []) (rest := [.int 2, .ref (kad g 2)]) (k_Fra_result (l := l) (g := g) (α := α) ) S E hI.1 kw_Typ_105 ⟨Nat.le_of_ble_eq_true rfl, Nat.le_of_ble_eq_true rfl⟩ hI.room (kv_Fra E hI.1) rfl hl.1 rfl (Nat.le_of_ble_eq_true rfl) d_Typ_lamEnd_9 rfl ?_
  refine lv_aload_n hx hb d_Typ_lamEnd_12 rfl (lv_at hl 0 rfl) ?_
  refine kf_Typ_frames S E hI.1 vt_142 d_Typ_lamEnd_13 ?_
  refine kg_tI (As := []) (rest := [.int (f_Fra_result α), .int 2, .ref (kad g 2)]) (k_Fra_dropVariable (l := l) (g := g) (α := α) ) S hlocks hno E hI kw_Typ_115 ⟨Nat.le_of_ble_eq_true rfl, Nat.le_of_ble_eq_true rfl⟩ (kv_Fra E hI.1) rfl hl.1 rfl (Nat.le_of_ble_eq_true rfl) d_Typ_lamEnd_16 (fun ad H locs cells slots hRm hI => ?_)
  refine kg_cI (As := [.int 2, .int (f_Fra_result α), .int (f_Fra_dropVariable α).1]) (rest := []) h (k_Terms_rewrite (l := l) (g := g) (α := (f_Fra_dropVariable α).2) hfl N 2 (f_Fra_result α) (f_Fra_dropVariable α).1) S hlocks hno E hI kw_Typ_98 ⟨Nat.le_of_ble_eq_true rfl, Nat.le_of_ble_eq_true rfl⟩ (kv_Terms E hI.1) rfl hl.1 rfl (Nat.le_of_ble_eq_true rfl) d_Typ_lamEnd_19 (fun v3 α1 ad H locs cells slots e2 h hRm hI => ?_)
  refine lv_istore_n (lv' := [(1, .int v3), (0, .ref (kad g 8))]) hx hb d_Typ_lamEnd_22 rfl hl (by decide) rfl (fun ls hl => ?_)
  refine lv_aload_n hx hb d_Typ_lamEnd_23 rfl (lv_at hl 1 rfl) ?_
  refine kf_Typ_frames S E hI.1 vt_142 d_Typ_lamEnd_24 ?_
  refine lv_aload_n hx hb d_Typ_lamEnd_27 rfl (lv_at hl 1 rfl) ?_
  refine kf_Typ_terms S E hI.1 vt_144 d_Typ_lamEnd_28 ?_
  refine lv_bipush (v := 6) hx hb d_Typ_lamEnd_31 (by decide) ?_
  refine lv_aload_n hx hb d_Typ_lamEnd_33 rfl (lv_at hl 1 rfl) ?_
  refine kf_Typ_terms S E hI.1 vt_144 d_Typ_lamEnd_34 ?_
  refine lv_aload_n hx hb d_Typ_lamEnd_37 rfl (lv_at hl 1 rfl) ?_
  refine kf_Typ_frames S E hI.1 vt_142 d_Typ_lamEnd_38 ?_
  refine lv_iconst (v := 1) hx hb d_Typ_lamEnd_41 (by decide) ?_
  refine kg_p (As := [.int 1]) (rest := [.ref (kad g 2), .int 6, .ref (kad g 2), .ref (kad g 6)]) (k_Fra_top (l := l) (g := g) (α := α1) 1) S E hI.1 kw_Typ_29 ⟨Nat.le_of_ble_eq_true rfl, Nat.le_of_ble_eq_true rfl⟩ hI.room (kv_Fra E hI.1) rfl hl.1 rfl (Nat.le_of_ble_eq_true rfl) d_Typ_lamEnd_42 rfl ?_
  refine kg_p (As := [.int (f_Fra_top 1 α1)]) (rest := [.int 6, .ref (kad g 2), .ref (kad g 6)]) (k_Terms_left (l := l) (g := g) (α := α1) (f_Fra_top 1 α1)) S E hI.1 kw_Typ_44 ⟨Nat.le_of_ble_eq_true rfl, Nat.le_of_ble_eq_true rfl⟩ hI.room (kv_Terms E hI.1) rfl hl.1 rfl (Nat.le_of_ble_eq_true rfl) d_Typ_lamEnd_45 rfl ?_
  refine lv_iload_n hx hb d_Typ_lamEnd_48 rfl (lv_at hl 0 rfl) ?_
  refine kg_cI (As := [.int 6, .int (f_Terms_left (f_Fra_top 1 α1) α1), .int v3]) (rest := [.ref (kad g 6)]) h (k_Terms_make (l := l) (g := g) (α := α1) hfl N 6 (f_Terms_left (f_Fra_top 1 α1) α1) v3) S hlocks hno E hI kw_Typ_84 ⟨Nat.le_of_ble_eq_true rfl, Nat.le_of_ble_eq_true rfl⟩ (kv_Terms E hI.1) rfl hl.1 rfl (Nat.le_of_ble_eq_true rfl) d_Typ_lamEnd_49 (fun v6 α4 ad H locs cells slots e5 h hRm hI => ?_)
  refine kg_tV (As := [.int v6]) (rest := []) (k_Fra_give (l := l) (g := g) (α := α4) v6) S hlocks hno E hI kw_Typ_50 ⟨Nat.le_of_ble_eq_true rfl, Nat.le_of_ble_eq_true rfl⟩ (kv_Fra E hI.1) rfl hl.1 rfl (Nat.le_of_ble_eq_true rfl) d_Typ_lamEnd_52 (fun ad H locs cells slots hRm hI => ?_)
  exact kc_vret hx hb hr hlocks E hI h d_Typ_lamEnd_55
def f_Typ_checkWithin (N : Nat) (a1 : Int32) (a2 : Int32) (a3 : Int32) (α : kS) : Option (kO × kS) := kBv (f_Fra_push N 27 a3 0 0 (f_Fra_set 0 a1 α)) fun α1 => (kBv (f_Fra_push N 15 a2 0 ((f_Fra_top 4 α) + 1) α1) fun α3 => (some (some none, α3)))
set_option maxHeartbeats 4000000 in
set_option maxRecDepth 100000 in
theorem k_Typ_checkWithin {l : Launch} {g : kG} {α : kS} (hfl : kFl l) (N : Nat) (a1 : Int32) (a2 : Int32) (a3 : Int32)  : ∀ x, f_Typ_checkWithin N a1 a2 a3 α = some x → kC l g y_Typ_checkWithin b_Typ_checkWithin 5 none 32 945 [.ref (kad g 8), .int a1, .int a2, .int a3] α (kQr x) := by
  intro x h
  unfold f_Typ_checkWithin at h
  refine kc_ofW (by decide) (fun A ad0 p e s m args below meth c S hr hlocks hno hadm hargs E hI => ?_)
  have hx := S.1
  have hb := S.2.1
  have hown := S.2.2.2.1
  have hT := S.2.2.2.2
  subst hargs
  have hl := lv_entry ([.ref (kad g 8), .int a1, .int a2, .int a3]) (n := 5) (Nat.le_of_ble_eq_true rfl)
  rw [lg_entry_eq]
  generalize (lg_sl ([.ref (kad g 8), .int a1, .int a2, .int a3]) ++ List.replicate (5 - (lg_sl ([.ref (kad g 8), .int a1, .int a2, .int a3])).length) Slot.unset).toArray = ls at hl ⊢
  have hl : lv_has ls 5 [(0, .ref (kad g 8)), (1, .int a1), (2, .int a2), (3, .int a3)] := hl
  refine lv_aload_n hx hb d_Typ_checkWithin_0 rfl (lv_at hl 0 rfl) ?_
  refine kf_Typ_frames S E hI.1 vt_142 d_Typ_checkWithin_1 ?_
  refine lv_iconst (v := 4) hx hb d_Typ_checkWithin_4 (by decide) ?_
  refine kg_p (As := [.int 4]) (rest := []) (k_Fra_top (l := l) (g := g) (α := α) 4) S E hI.1 kw_Typ_29 ⟨Nat.le_of_ble_eq_true rfl, Nat.le_of_ble_eq_true rfl⟩ hI.room (kv_Fra E hI.1) rfl hl.1 rfl (Nat.le_of_ble_eq_true rfl) d_Typ_checkWithin_5 rfl ?_
  refine lv_iconst (v := 1) hx hb d_Typ_checkWithin_8 (by decide) ?_
  refine lv_iadd hx hb d_Typ_checkWithin_9 ?_
  refine lv_istore (lv' := [(4, .int ((f_Fra_top 4 α) + 1)), (0, .ref (kad g 8)), (1, .int a1), (2, .int a2), (3, .int a3)]) hx hb d_Typ_checkWithin_10 hl (by decide) rfl (fun ls hl => ?_)
  refine lv_aload_n hx hb d_Typ_checkWithin_12 rfl (lv_at hl 1 rfl) ?_
  refine kf_Typ_frames S E hI.1 vt_142 d_Typ_checkWithin_13 ?_
  refine lv_iconst (v := 0) hx hb d_Typ_checkWithin_16 (by decide) ?_
  refine lv_iload_n hx hb d_Typ_checkWithin_17 rfl (lv_at hl 2 rfl) ?_
  refine kg_tV (As := [.int 0, .int a1]) (rest := []) (k_Fra_set (l := l) (g := g) (α := α) 0 a1) S hlocks hno E hI kw_Typ_72 ⟨Nat.le_of_ble_eq_true rfl, Nat.le_of_ble_eq_true rfl⟩ (kv_Fra E hI.1) rfl hl.1 rfl (Nat.le_of_ble_eq_true rfl) d_Typ_checkWithin_18 (fun ad H locs cells slots hRm hI => ?_)
  refine lv_aload_n hx hb d_Typ_checkWithin_21 rfl (lv_at hl 1 rfl) ?_
  refine kf_Typ_frames S E hI.1 vt_142 d_Typ_checkWithin_22 ?_
  refine lv_bipush (v := 27) hx hb d_Typ_checkWithin_25 (by decide) ?_
  refine lv_iload_n hx hb d_Typ_checkWithin_27 rfl (lv_at hl 4 rfl) ?_
  refine lv_iconst (v := 0) hx hb d_Typ_checkWithin_28 (by decide) ?_
  refine lv_iconst (v := 0) hx hb d_Typ_checkWithin_29 (by decide) ?_
  refine kg_cV (As := [.int 27, .int a3, .int 0, .int 0]) (rest := []) h (k_Fra_push (l := l) (g := g) (α := (f_Fra_set 0 a1 α)) hfl N 27 a3 0 0) S hlocks hno E hI kw_Typ_101 ⟨Nat.le_of_ble_eq_true rfl, Nat.le_of_ble_eq_true rfl⟩ (kv_Fra E hI.1) rfl hl.1 rfl (Nat.le_of_ble_eq_true rfl) d_Typ_checkWithin_30 (fun α1 ad H locs cells slots e2 h hRm hI => ?_)
  refine lv_aload_n hx hb d_Typ_checkWithin_33 rfl (lv_at hl 1 rfl) ?_
  refine kf_Typ_frames S E hI.1 vt_142 d_Typ_checkWithin_34 ?_
  refine lv_bipush (v := 15) hx hb d_Typ_checkWithin_37 (by decide) ?_
  refine lv_iload_n hx hb d_Typ_checkWithin_39 rfl (lv_at hl 3 rfl) ?_
  refine lv_iconst (v := 0) hx hb d_Typ_checkWithin_40 (by decide) ?_
  refine lv_iload hx hb d_Typ_checkWithin_41 (lv_at hl 0 rfl) ?_
  refine kg_cV (As := [.int 15, .int a2, .int 0, .int ((f_Fra_top 4 α) + 1)]) (rest := []) h (k_Fra_push (l := l) (g := g) (α := α1) hfl N 15 a2 0 ((f_Fra_top 4 α) + 1)) S hlocks hno E hI kw_Typ_101 ⟨Nat.le_of_ble_eq_true rfl, Nat.le_of_ble_eq_true rfl⟩ (kv_Fra E hI.1) rfl hl.1 rfl (Nat.le_of_ble_eq_true rfl) d_Typ_checkWithin_43 (fun α3 ad H locs cells slots e4 h hRm hI => ?_)
  exact kc_vret hx hb hr hlocks E hI h d_Typ_checkWithin_46
theorem kw_Typ_123 : kWv "FamilyKernel$Typer" 123 "FamilyKernel$Typer" y_Typ_checkWithin b_Typ_checkWithin 5 none 3 := ⟨vt_956, vt_957, vt_958, vt_61, vt_959, by decide, by decide, by decide +kernel⟩
def f_Typ_letValue (N : Nat)  (α : kS) : Option (kO × kS) := kBv (f_Typ_checkWithin N 21 (f_Terms_left (f_Terms_right (f_Fra_top 1 α) α) α) (f_Terms_left (f_Fra_top 1 α) α) α) fun α1 => (some (some none, α1))
set_option maxHeartbeats 4000000 in
set_option maxRecDepth 100000 in
theorem k_Typ_letValue {l : Launch} {g : kG} {α : kS} (hfl : kFl l) (N : Nat)   : ∀ x, f_Typ_letValue N α = some x → kC l g y_Typ_letValue b_Typ_letValue 2 none 33 969 [.ref (kad g 8)] α (kQr x) := by
  intro x h
  unfold f_Typ_letValue at h
  refine kc_ofW (by decide) (fun A ad0 p e s m args below meth c S hr hlocks hno hadm hargs E hI => ?_)
  have hx := S.1
  have hb := S.2.1
  have hown := S.2.2.2.1
  have hT := S.2.2.2.2
  subst hargs
  have hl := lv_entry ([.ref (kad g 8)]) (n := 2) (Nat.le_of_ble_eq_true rfl)
  rw [lg_entry_eq]
  generalize (lg_sl ([.ref (kad g 8)]) ++ List.replicate (2 - (lg_sl ([.ref (kad g 8)])).length) Slot.unset).toArray = ls at hl ⊢
  have hl : lv_has ls 2 [(0, .ref (kad g 8))] := hl
  refine lv_aload_n hx hb d_Typ_letValue_0 rfl (lv_at hl 0 rfl) ?_
  refine kf_Typ_frames S E hI.1 vt_142 d_Typ_letValue_1 ?_
  refine lv_iconst (v := 1) hx hb d_Typ_letValue_4 (by decide) ?_
  refine kg_p (As := [.int 1]) (rest := []) (k_Fra_top (l := l) (g := g) (α := α) 1) S E hI.1 kw_Typ_29 ⟨Nat.le_of_ble_eq_true rfl, Nat.le_of_ble_eq_true rfl⟩ hI.room (kv_Fra E hI.1) rfl hl.1 rfl (Nat.le_of_ble_eq_true rfl) d_Typ_letValue_5 rfl ?_
  refine lv_istore_n (lv' := [(1, .int (f_Fra_top 1 α)), (0, .ref (kad g 8))]) hx hb d_Typ_letValue_8 rfl hl (by decide) rfl (fun ls hl => ?_)
  refine lv_aload_n hx hb d_Typ_letValue_9 rfl (lv_at hl 1 rfl) ?_
  refine lv_bipush (v := 21) hx hb d_Typ_letValue_10 (by decide) ?_
  refine lv_aload_n hx hb d_Typ_letValue_12 rfl (lv_at hl 1 rfl) ?_
  refine kf_Typ_terms S E hI.1 vt_144 d_Typ_letValue_13 ?_
  refine lv_aload_n hx hb d_Typ_letValue_16 rfl (lv_at hl 1 rfl) ?_
  refine kf_Typ_terms S E hI.1 vt_144 d_Typ_letValue_17 ?_
  refine lv_iload_n hx hb d_Typ_letValue_20 rfl (lv_at hl 0 rfl) ?_
  refine kg_p (As := [.int (f_Fra_top 1 α)]) (rest := [.ref (kad g 2), .int 21, .ref (kad g 8)]) (k_Terms_right (l := l) (g := g) (α := α) (f_Fra_top 1 α)) S E hI.1 kw_Typ_62 ⟨Nat.le_of_ble_eq_true rfl, Nat.le_of_ble_eq_true rfl⟩ hI.room (kv_Terms E hI.1) rfl hl.1 rfl (Nat.le_of_ble_eq_true rfl) d_Typ_letValue_21 rfl ?_
  refine kg_p (As := [.int (f_Terms_right (f_Fra_top 1 α) α)]) (rest := [.int 21, .ref (kad g 8)]) (k_Terms_left (l := l) (g := g) (α := α) (f_Terms_right (f_Fra_top 1 α) α)) S E hI.1 kw_Typ_44 ⟨Nat.le_of_ble_eq_true rfl, Nat.le_of_ble_eq_true rfl⟩ hI.room (kv_Terms E hI.1) rfl hl.1 rfl (Nat.le_of_ble_eq_true rfl) d_Typ_letValue_24 rfl ?_
  refine lv_aload_n hx hb d_Typ_letValue_27 rfl (lv_at hl 1 rfl) ?_
  refine kf_Typ_terms S E hI.1 vt_144 d_Typ_letValue_28 ?_
  refine lv_iload_n hx hb d_Typ_letValue_31 rfl (lv_at hl 0 rfl) ?_
  refine kg_p (As := [.int (f_Fra_top 1 α)]) (rest := [.int (f_Terms_left (f_Terms_right (f_Fra_top 1 α) α) α), .int 21, .ref (kad g 8)]) (k_Terms_left (l := l) (g := g) (α := α) (f_Fra_top 1 α)) S E hI.1 kw_Typ_44 ⟨Nat.le_of_ble_eq_true rfl, Nat.le_of_ble_eq_true rfl⟩ hI.room (kv_Terms E hI.1) rfl hl.1 rfl (Nat.le_of_ble_eq_true rfl) d_Typ_letValue_32 rfl ?_
  refine kg_cV (As := [.int 21, .int (f_Terms_left (f_Terms_right (f_Fra_top 1 α) α) α), .int (f_Terms_left (f_Fra_top 1 α) α)]) (rest := []) h (k_Typ_checkWithin (l := l) (g := g) (α := α) hfl N 21 (f_Terms_left (f_Terms_right (f_Fra_top 1 α) α) α) (f_Terms_left (f_Fra_top 1 α) α)) S hlocks hno E hI kw_Typ_123 ⟨Nat.le_of_ble_eq_true rfl, Nat.le_of_ble_eq_true rfl⟩ (kv_Typ E hI.1) rfl hl.1 rfl (Nat.le_of_ble_eq_true rfl) d_Typ_letValue_35 (fun α1 ad H locs cells slots e2 h hRm hI => ?_)
  exact kc_vret hx hb hr hlocks E hI h d_Typ_letValue_38
def f_Typ_letBody (N : Nat)  (α : kS) : Option (kO × kS) := kBi (f_Terms_rewrite N 0 (f_Terms_right (f_Terms_right (f_Fra_top 1 α) α) (f_Fra_set 0 0 α)) (f_Terms_left (f_Terms_right (f_Fra_top 1 α) α) (f_Fra_set 0 0 α)) (f_Fra_set 0 0 α)) fun v3 α1 => (kBv (f_Typ_inferWithin N v3 α1) fun α4 => (some (some none, α4)))
set_option maxHeartbeats 4000000 in
set_option maxRecDepth 100000 in
theorem k_Typ_letBody {l : Launch} {g : kG} {α : kS} (hfl : kFl l) (N : Nat)   : ∀ x, f_Typ_letBody N α = some x → kC l g y_Typ_letBody b_Typ_letBody 2 none 33 966 [.ref (kad g 8)] α (kQr x) := by
  intro x h
  unfold f_Typ_letBody at h
  refine kc_ofW (by decide) (fun A ad0 p e s m args below meth c S hr hlocks hno hadm hargs E hI => ?_)
  have hx := S.1
  have hb := S.2.1
  have hown := S.2.2.2.1
  have hT := S.2.2.2.2
  subst hargs
  have hl := lv_entry ([.ref (kad g 8)]) (n := 2) (Nat.le_of_ble_eq_true rfl)
  rw [lg_entry_eq]
  generalize (lg_sl ([.ref (kad g 8)]) ++ List.replicate (2 - (lg_sl ([.ref (kad g 8)])).length) Slot.unset).toArray = ls at hl ⊢
  have hl : lv_has ls 2 [(0, .ref (kad g 8))] := hl
  refine lv_aload_n hx hb d_Typ_letBody_0 rfl (lv_at hl 0 rfl) ?_
  refine kf_Typ_terms S E hI.1 vt_144 d_Typ_letBody_1 ?_
  refine lv_aload_n hx hb d_Typ_letBody_4 rfl (lv_at hl 0 rfl) ?_
  refine kf_Typ_frames S E hI.1 vt_142 d_Typ_letBody_5 ?_
  refine lv_iconst (v := 1) hx hb d_Typ_letBody_8 (by decide) ?_
  refine kg_p (As := [.int 1]) (rest := [.ref (kad g 2)]) (k_Fra_top (l := l) (g := g) (α := α) 1) S E hI.1 kw_Typ_29 ⟨Nat.le_of_ble_eq_true rfl, Nat.le_of_ble_eq_true rfl⟩ hI.room (kv_Fra E hI.1) rfl hl.1 rfl (Nat.le_of_ble_eq_true rfl) d_Typ_letBody_9 rfl ?_
  refine kg_p (As := [.int (f_Fra_top 1 α)]) (rest := []) (k_Terms_right (l := l) (g := g) (α := α) (f_Fra_top 1 α)) S E hI.1 kw_Typ_62 ⟨Nat.le_of_ble_eq_true rfl, Nat.le_of_ble_eq_true rfl⟩ hI.room (kv_Terms E hI.1) rfl hl.1 rfl (Nat.le_of_ble_eq_true rfl) d_Typ_letBody_12 rfl ?_
  refine lv_istore_n (lv' := [(1, .int (f_Terms_right (f_Fra_top 1 α) α)), (0, .ref (kad g 8))]) hx hb d_Typ_letBody_15 rfl hl (by decide) rfl (fun ls hl => ?_)
  refine lv_aload_n hx hb d_Typ_letBody_16 rfl (lv_at hl 1 rfl) ?_
  refine kf_Typ_frames S E hI.1 vt_142 d_Typ_letBody_17 ?_
  refine lv_iconst (v := 0) hx hb d_Typ_letBody_20 (by decide) ?_
  refine lv_iconst (v := 0) hx hb d_Typ_letBody_21 (by decide) ?_
  refine kg_tV (As := [.int 0, .int 0]) (rest := []) (k_Fra_set (l := l) (g := g) (α := α) 0 0) S hlocks hno E hI kw_Typ_72 ⟨Nat.le_of_ble_eq_true rfl, Nat.le_of_ble_eq_true rfl⟩ (kv_Fra E hI.1) rfl hl.1 rfl (Nat.le_of_ble_eq_true rfl) d_Typ_letBody_22 (fun ad H locs cells slots hRm hI => ?_)
  refine lv_aload_n hx hb d_Typ_letBody_25 rfl (lv_at hl 1 rfl) ?_
  refine lv_aload_n hx hb d_Typ_letBody_26 rfl (lv_at hl 1 rfl) ?_
  refine kf_Typ_terms S E hI.1 vt_144 d_Typ_letBody_27 ?_
  refine lv_iconst (v := 0) hx hb d_Typ_letBody_30 (by decide) ?_
  refine lv_aload_n hx hb d_Typ_letBody_31 rfl (lv_at hl 1 rfl) ?_
  refine kf_Typ_terms S E hI.1 vt_144 d_Typ_letBody_32 ?_
  refine lv_iload_n hx hb d_Typ_letBody_35 rfl (lv_at hl 0 rfl) ?_
  refine kg_p (As := [.int (f_Terms_right (f_Fra_top 1 α) α)]) (rest := [.int 0, .ref (kad g 2), .ref (kad g 8)]) (k_Terms_right (l := l) (g := g) (α := (f_Fra_set 0 0 α)) (f_Terms_right (f_Fra_top 1 α) α)) S E hI.1 kw_Typ_62 ⟨Nat.le_of_ble_eq_true rfl, Nat.le_of_ble_eq_true rfl⟩ hI.room (kv_Terms E hI.1) rfl hl.1 rfl (Nat.le_of_ble_eq_true rfl) d_Typ_letBody_36 rfl ?_
  refine lv_aload_n hx hb d_Typ_letBody_39 rfl (lv_at hl 1 rfl) ?_
  refine kf_Typ_terms S E hI.1 vt_144 d_Typ_letBody_40 ?_
  refine lv_iload_n hx hb d_Typ_letBody_43 rfl (lv_at hl 0 rfl) ?_
  refine kg_p (As := [.int (f_Terms_right (f_Fra_top 1 α) α)]) (rest := [.int (f_Terms_right (f_Terms_right (f_Fra_top 1 α) α) (f_Fra_set 0 0 α)), .int 0, .ref (kad g 2), .ref (kad g 8)]) (k_Terms_left (l := l) (g := g) (α := (f_Fra_set 0 0 α)) (f_Terms_right (f_Fra_top 1 α) α)) S E hI.1 kw_Typ_44 ⟨Nat.le_of_ble_eq_true rfl, Nat.le_of_ble_eq_true rfl⟩ hI.room (kv_Terms E hI.1) rfl hl.1 rfl (Nat.le_of_ble_eq_true rfl) d_Typ_letBody_44 rfl ?_
  refine kg_cI (As := [.int 0, .int (f_Terms_right (f_Terms_right (f_Fra_top 1 α) α) (f_Fra_set 0 0 α)), .int (f_Terms_left (f_Terms_right (f_Fra_top 1 α) α) (f_Fra_set 0 0 α))]) (rest := [.ref (kad g 8)]) h (k_Terms_rewrite (l := l) (g := g) (α := (f_Fra_set 0 0 α)) hfl N 0 (f_Terms_right (f_Terms_right (f_Fra_top 1 α) α) (f_Fra_set 0 0 α)) (f_Terms_left (f_Terms_right (f_Fra_top 1 α) α) (f_Fra_set 0 0 α))) S hlocks hno E hI kw_Typ_98 ⟨Nat.le_of_ble_eq_true rfl, Nat.le_of_ble_eq_true rfl⟩ (kv_Terms E hI.1) rfl hl.1 rfl (Nat.le_of_ble_eq_true rfl) d_Typ_letBody_47 (fun v3 α1 ad H locs cells slots e2 h hRm hI => ?_)
  refine kg_cV (As := [.int v3]) (rest := []) h (k_Typ_inferWithin (l := l) (g := g) (α := α1) hfl N v3) S hlocks hno E hI kw_Typ_81 ⟨Nat.le_of_ble_eq_true rfl, Nat.le_of_ble_eq_true rfl⟩ (kv_Typ E hI.1) rfl hl.1 rfl (Nat.le_of_ble_eq_true rfl) d_Typ_letBody_50 (fun α4 ad H locs cells slots e5 h hRm hI => ?_)
  exact kc_vret hx hb hr hlocks E hI h d_Typ_letBody_53
def f_Typ_askFunction (N : Nat) (a1 : Int32) (α : kS) : Option (kO × kS) := kBv (f_Fra_push N 1 a1 0 0 (f_Fra_set 0 23 α)) fun α1 => (some (some none, α1))
set_option maxHeartbeats 4000000 in
set_option maxRecDepth 100000 in
theorem k_Typ_askFunction {l : Launch} {g : kG} {α : kS} (hfl : kFl l) (N : Nat) (a1 : Int32)  : ∀ x, f_Typ_askFunction N a1 α = some x → kC l g y_Typ_askFunction b_Typ_askFunction 2 none 32 945 [.ref (kad g 8), .int a1] α (kQr x) := by
  intro x h
  unfold f_Typ_askFunction at h
  refine kc_ofW (by decide) (fun A ad0 p e s m args below meth c S hr hlocks hno hadm hargs E hI => ?_)
  have hx := S.1
  have hb := S.2.1
  have hown := S.2.2.2.1
  have hT := S.2.2.2.2
  subst hargs
  have hl := lv_entry ([.ref (kad g 8), .int a1]) (n := 2) (Nat.le_of_ble_eq_true rfl)
  rw [lg_entry_eq]
  generalize (lg_sl ([.ref (kad g 8), .int a1]) ++ List.replicate (2 - (lg_sl ([.ref (kad g 8), .int a1])).length) Slot.unset).toArray = ls at hl ⊢
  have hl : lv_has ls 2 [(0, .ref (kad g 8)), (1, .int a1)] := hl
  refine lv_aload_n hx hb d_Typ_askFunction_0 rfl (lv_at hl 0 rfl) ?_
  refine kf_Typ_frames S E hI.1 vt_142 d_Typ_askFunction_1 ?_
  refine lv_iconst (v := 0) hx hb d_Typ_askFunction_4 (by decide) ?_
  refine lv_bipush (v := 23) hx hb d_Typ_askFunction_5 (by decide) ?_
  refine kg_tV (As := [.int 0, .int 23]) (rest := []) (k_Fra_set (l := l) (g := g) (α := α) 0 23) S hlocks hno E hI kw_Typ_72 ⟨Nat.le_of_ble_eq_true rfl, Nat.le_of_ble_eq_true rfl⟩ (kv_Fra E hI.1) rfl hl.1 rfl (Nat.le_of_ble_eq_true rfl) d_Typ_askFunction_7 (fun ad H locs cells slots hRm hI => ?_)
  refine lv_aload_n hx hb d_Typ_askFunction_10 rfl (lv_at hl 0 rfl) ?_
  refine kf_Typ_frames S E hI.1 vt_142 d_Typ_askFunction_11 ?_
  refine lv_iconst (v := 1) hx hb d_Typ_askFunction_14 (by decide) ?_
  refine lv_iload_n hx hb d_Typ_askFunction_15 rfl (lv_at hl 1 rfl) ?_
  refine lv_iconst (v := 0) hx hb d_Typ_askFunction_16 (by decide) ?_
  refine lv_iconst (v := 0) hx hb d_Typ_askFunction_17 (by decide) ?_
  refine kg_cV (As := [.int 1, .int a1, .int 0, .int 0]) (rest := []) h (k_Fra_push (l := l) (g := g) (α := (f_Fra_set 0 23 α)) hfl N 1 a1 0 0) S hlocks hno E hI kw_Typ_101 ⟨Nat.le_of_ble_eq_true rfl, Nat.le_of_ble_eq_true rfl⟩ (kv_Fra E hI.1) rfl hl.1 rfl (Nat.le_of_ble_eq_true rfl) d_Typ_askFunction_18 (fun α1 ad H locs cells slots e2 h hRm hI => ?_)
  exact kc_vret hx hb hr hlocks E hI h d_Typ_askFunction_21
theorem kw_Typ_127 : kWv "FamilyKernel$Typer" 127 "FamilyKernel$Typer" y_Typ_askFunction b_Typ_askFunction 2 none 1 := ⟨vt_960, vt_961, vt_962, vt_61, vt_963, by decide, by decide, by decide +kernel⟩
def f_Typ_appType (N : Nat)  (α : kS) : Option (kO × kS) := kBv (f_Typ_askFunction N (f_Fra_result α) α) fun α1 => (some (some none, α1))
set_option maxHeartbeats 4000000 in
set_option maxRecDepth 100000 in
theorem k_Typ_appType {l : Launch} {g : kG} {α : kS} (hfl : kFl l) (N : Nat)   : ∀ x, f_Typ_appType N α = some x → kC l g y_Typ_appType b_Typ_appType 1 none 33 966 [.ref (kad g 8)] α (kQr x) := by
  intro x h
  unfold f_Typ_appType at h
  refine kc_ofW (by decide) (fun A ad0 p e s m args below meth c S hr hlocks hno hadm hargs E hI => ?_)
  have hx := S.1
  have hb := S.2.1
  have hown := S.2.2.2.1
  have hT := S.2.2.2.2
  subst hargs
  have hl := lv_entry ([.ref (kad g 8)]) (n := 1) (Nat.le_of_ble_eq_true rfl)
  rw [lg_entry_eq]
  generalize (lg_sl ([.ref (kad g 8)]) ++ List.replicate (1 - (lg_sl ([.ref (kad g 8)])).length) Slot.unset).toArray = ls at hl ⊢
  have hl : lv_has ls 1 [(0, .ref (kad g 8))] := hl
  refine lv_aload_n hx hb d_Typ_appType_0 rfl (lv_at hl 0 rfl) ?_
  refine lv_aload_n hx hb d_Typ_appType_1 rfl (lv_at hl 0 rfl) ?_
  refine kf_Typ_frames S E hI.1 vt_142 d_Typ_appType_2 ?_
  refine kg_p (As := []) (rest := [.ref (kad g 8)]) (k_Fra_result (l := l) (g := g) (α := α) ) S E hI.1 kw_Typ_105 ⟨Nat.le_of_ble_eq_true rfl, Nat.le_of_ble_eq_true rfl⟩ hI.room (kv_Fra E hI.1) rfl hl.1 rfl (Nat.le_of_ble_eq_true rfl) d_Typ_appType_5 rfl ?_
  refine kg_cV (As := [.int (f_Fra_result α)]) (rest := []) h (k_Typ_askFunction (l := l) (g := g) (α := α) hfl N (f_Fra_result α)) S hlocks hno E hI kw_Typ_127 ⟨Nat.le_of_ble_eq_true rfl, Nat.le_of_ble_eq_true rfl⟩ (kv_Typ E hI.1) rfl hl.1 rfl (Nat.le_of_ble_eq_true rfl) d_Typ_appType_8 (fun α1 ad H locs cells slots e2 h hRm hI => ?_)
  exact kc_vret hx hb hr hlocks E hI h d_Typ_appType_11
theorem kw_Typ_133 : kWv "FamilyKernel$Typer" 133 "FamilyKernel$Terms" y_Terms_fromLast b_Terms_fromLast 5 (some .int) 2 := ⟨vt_968, vt_836, vt_837, vt_19, vt_838, by decide, by decide, by decide +kernel⟩
def f_Typ_nextArgument (N : Nat)  (α : kS) : Option Int32 := ((f_Terms_fromLast N (f_Fra_top 1 α) ((f_Fra_top 3 α) - 1) α)).bind fun v1 => (some v1)
set_option maxHeartbeats 4000000 in
set_option maxRecDepth 100000 in
theorem k_Typ_nextArgument {l : Launch} {g : kG} {α : kS} (N : Nat)   : ∀ x, f_Typ_nextArgument N α = some x → kV l g y_Typ_nextArgument b_Typ_nextArgument 1 (some .int) 12 342 [.ref (kad g 8)] α x := by
  intro x h
  unfold f_Typ_nextArgument at h
  refine kv_ofW (by decide) (fun A ad p e s m args below meth c S hr hlocks hargs E hJ => ?_)
  have hx := S.1
  have hb := S.2.1
  have hown := S.2.2.2.1
  have hT := S.2.2.2.2
  subst hargs
  have hl := lv_entry ([.ref (kad g 8)]) (n := 1) (Nat.le_of_ble_eq_true rfl)
  rw [lg_entry_eq]
  generalize (lg_sl ([.ref (kad g 8)]) ++ List.replicate (1 - (lg_sl ([.ref (kad g 8)])).length) Slot.unset).toArray = ls at hl ⊢
  have hl : lv_has ls 1 [(0, .ref (kad g 8))] := hl
  refine lv_aload_n hx hb d_Typ_nextArgument_0 rfl (lv_at hl 0 rfl) ?_
  refine kf_Typ_terms S E hJ vt_144 d_Typ_nextArgument_1 ?_
  refine lv_aload_n hx hb d_Typ_nextArgument_4 rfl (lv_at hl 0 rfl) ?_
  refine kf_Typ_frames S E hJ vt_142 d_Typ_nextArgument_5 ?_
  refine lv_iconst (v := 1) hx hb d_Typ_nextArgument_8 (by decide) ?_
  refine kg_p (As := [.int 1]) (rest := [.ref (kad g 2)]) (k_Fra_top (l := l) (g := g) (α := α) 1) S E hJ kw_Typ_29 ⟨Nat.le_of_ble_eq_true rfl, Nat.le_of_ble_eq_true rfl⟩ ⟨Nat.le_refl _, Nat.le_refl _⟩ (kv_Fra E hJ) rfl hl.1 rfl (Nat.le_of_ble_eq_true rfl) d_Typ_nextArgument_9 rfl ?_
  refine lv_aload_n hx hb d_Typ_nextArgument_12 rfl (lv_at hl 0 rfl) ?_
  refine kf_Typ_frames S E hJ vt_142 d_Typ_nextArgument_13 ?_
  refine lv_iconst (v := 3) hx hb d_Typ_nextArgument_16 (by decide) ?_
  refine kg_p (As := [.int 3]) (rest := [.int (f_Fra_top 1 α), .ref (kad g 2)]) (k_Fra_top (l := l) (g := g) (α := α) 3) S E hJ kw_Typ_29 ⟨Nat.le_of_ble_eq_true rfl, Nat.le_of_ble_eq_true rfl⟩ ⟨Nat.le_refl _, Nat.le_refl _⟩ (kv_Fra E hJ) rfl hl.1 rfl (Nat.le_of_ble_eq_true rfl) d_Typ_nextArgument_17 rfl ?_
  refine lv_iconst (v := 1) hx hb d_Typ_nextArgument_20 (by decide) ?_
  refine lv_isub hx hb d_Typ_nextArgument_21 ?_
  obtain ⟨v1, e2, h⟩ := Option.bind_eq_some_iff.mp h
  refine kg_p (As := [.int (f_Fra_top 1 α), .int ((f_Fra_top 3 α) - 1)]) (rest := []) ((k_Terms_fromLast (l := l) (g := g) (α := α) N (f_Fra_top 1 α) ((f_Fra_top 3 α) - 1)) _ e2) S E hJ kw_Typ_133 ⟨Nat.le_of_ble_eq_true rfl, Nat.le_of_ble_eq_true rfl⟩ ⟨Nat.le_refl _, Nat.le_refl _⟩ (kv_Terms E hJ) rfl hl.1 rfl (Nat.le_of_ble_eq_true rfl) d_Typ_nextArgument_22 rfl ?_
  exact kv_iret (w := v1) hx hb hr rfl hlocks (Option.some.inj h) d_Typ_nextArgument_25
theorem kw_Typ_130 : kWv "FamilyKernel$Typer" 130 "FamilyKernel$Typer" y_Typ_nextArgument b_Typ_nextArgument 1 (some .int) 0 := ⟨vt_964, vt_965, vt_966, vt_61, vt_967, by decide, by decide, by decide +kernel⟩
def f_Typ_appArgument_j29 (N : Nat)  (y1 : Int32) (γ : kS) : Option (kO × kS) := ((f_Typ_nextArgument N (f_Fra_set 2 y1 γ))).bind fun v2 => (kBv (f_Typ_checkWithin N 24 v2 (f_Terms_left y1 (f_Fra_set 2 y1 γ)) (f_Fra_set 2 y1 γ)) fun α4 => (some (some none, α4)))
def f_Typ_appArgument (N : Nat)  (α : kS) : Option (kO × kS) := if (f_Terms_kind (f_Fra_result α) α) = 6 then (f_Typ_appArgument_j29 N (f_Fra_result α) α) else (kBv (f_Meter_fail N 5 α) fun α6 => (f_Typ_appArgument_j29 N (f_Fra_result α) α6))
set_option maxHeartbeats 4000000 in
set_option maxRecDepth 100000 in
theorem k_Typ_appArgument {l : Launch} {g : kG} {α : kS} (hfl : kFl l) (N : Nat)   : ∀ x, f_Typ_appArgument N α = some x → kC l g y_Typ_appArgument b_Typ_appArgument 2 none 33 969 [.ref (kad g 8)] α (kQr x) := by
  intro x h
  unfold f_Typ_appArgument at h
  refine kc_ofW (by decide) (fun A ad0 p e s m args below meth c S hr hlocks hno hadm hargs E hI => ?_)
  have hx := S.1
  have hb := S.2.1
  have hown := S.2.2.2.1
  have hT := S.2.2.2.2
  subst hargs
  have hl := lv_entry ([.ref (kad g 8)]) (n := 2) (Nat.le_of_ble_eq_true rfl)
  rw [lg_entry_eq]
  generalize (lg_sl ([.ref (kad g 8)]) ++ List.replicate (2 - (lg_sl ([.ref (kad g 8)])).length) Slot.unset).toArray = ls at hl ⊢
  have hl : lv_has ls 2 [(0, .ref (kad g 8))] := hl
  have J29 : ∀ (y1 : Int32) (γ : kS) (ad : Nat → Nat) (H : Heap) (locs : List Loc) (cells slots : Nat) (ls : Array Slot), f_Typ_appArgument_j29 N y1 γ = some x → kI g A s α ad0 γ ad H locs cells slots → lv_has ls 2 [(1, .int y1), (0, .ref (kad g 8))] → W p l e (kR 33 969 α) s m ([.ref (kad g 8)]).toArray below meth c H locs cells slots (vEQ below (kQ g A α ad0 (kQr x)) ([.ref (kad g 8)]).toArray s A) (F0 m 29 ls []) := by
    intro y1 γ ad H locs cells slots ls h hI hl
    unfold f_Typ_appArgument_j29 at h
    refine lv_aload_n hx hb d_Typ_appArgument_29 rfl (lv_at hl 1 rfl) ?_
    refine kf_Typ_frames S E hI.1 vt_142 d_Typ_appArgument_30 ?_
    refine lv_iconst (v := 2) hx hb d_Typ_appArgument_33 (by decide) ?_
    refine lv_iload_n hx hb d_Typ_appArgument_34 rfl (lv_at hl 0 rfl) ?_
    refine kg_tV (As := [.int 2, .int y1]) (rest := []) (k_Fra_set (l := l) (g := g) (α := γ) 2 y1) S hlocks hno E hI kw_Typ_72 ⟨Nat.le_of_ble_eq_true rfl, Nat.le_of_ble_eq_true rfl⟩ (kv_Fra E hI.1) rfl hl.1 rfl (Nat.le_of_ble_eq_true rfl) d_Typ_appArgument_35 (fun ad H locs cells slots hRm hI => ?_)
    refine lv_aload_n hx hb d_Typ_appArgument_38 rfl (lv_at hl 1 rfl) ?_
    refine lv_bipush (v := 24) hx hb d_Typ_appArgument_39 (by decide) ?_
    refine lv_aload_n hx hb d_Typ_appArgument_41 rfl (lv_at hl 1 rfl) ?_
    obtain ⟨v2, e3, h⟩ := Option.bind_eq_some_iff.mp h
    refine kg_p (As := []) (rest := [.int 24, .ref (kad g 8)]) ((k_Typ_nextArgument (l := l) (g := g) (α := (f_Fra_set 2 y1 γ)) N) _ e3) S E hI.1 kw_Typ_130 ⟨Nat.le_of_ble_eq_true rfl, Nat.le_of_ble_eq_true rfl⟩ hI.room (kv_Typ E hI.1) rfl hl.1 rfl (Nat.le_of_ble_eq_true rfl) d_Typ_appArgument_42 rfl ?_
    refine lv_aload_n hx hb d_Typ_appArgument_45 rfl (lv_at hl 1 rfl) ?_
    refine kf_Typ_terms S E hI.1 vt_144 d_Typ_appArgument_46 ?_
    refine lv_iload_n hx hb d_Typ_appArgument_49 rfl (lv_at hl 0 rfl) ?_
    refine kg_p (As := [.int y1]) (rest := [.int v2, .int 24, .ref (kad g 8)]) (k_Terms_left (l := l) (g := g) (α := (f_Fra_set 2 y1 γ)) y1) S E hI.1 kw_Typ_44 ⟨Nat.le_of_ble_eq_true rfl, Nat.le_of_ble_eq_true rfl⟩ hI.room (kv_Terms E hI.1) rfl hl.1 rfl (Nat.le_of_ble_eq_true rfl) d_Typ_appArgument_50 rfl ?_
    refine kg_cV (As := [.int 24, .int v2, .int (f_Terms_left y1 (f_Fra_set 2 y1 γ))]) (rest := []) h (k_Typ_checkWithin (l := l) (g := g) (α := (f_Fra_set 2 y1 γ)) hfl N 24 v2 (f_Terms_left y1 (f_Fra_set 2 y1 γ))) S hlocks hno E hI kw_Typ_123 ⟨Nat.le_of_ble_eq_true rfl, Nat.le_of_ble_eq_true rfl⟩ (kv_Typ E hI.1) rfl hl.1 rfl (Nat.le_of_ble_eq_true rfl) d_Typ_appArgument_53 (fun α4 ad H locs cells slots e5 h hRm hI => ?_)
    exact kc_vret hx hb hr hlocks E hI h d_Typ_appArgument_56
  refine lv_aload_n hx hb d_Typ_appArgument_0 rfl (lv_at hl 0 rfl) ?_
  refine kf_Typ_frames S E hI.1 vt_142 d_Typ_appArgument_1 ?_
  refine kg_p (As := []) (rest := []) (k_Fra_result (l := l) (g := g) (α := α) ) S E hI.1 kw_Typ_105 ⟨Nat.le_of_ble_eq_true rfl, Nat.le_of_ble_eq_true rfl⟩ hI.room (kv_Fra E hI.1) rfl hl.1 rfl (Nat.le_of_ble_eq_true rfl) d_Typ_appArgument_4 rfl ?_
  refine lv_istore_n (lv' := [(1, .int (f_Fra_result α)), (0, .ref (kad g 8))]) hx hb d_Typ_appArgument_7 rfl hl (by decide) rfl (fun ls hl => ?_)
  refine lv_aload_n hx hb d_Typ_appArgument_8 rfl (lv_at hl 1 rfl) ?_
  refine kf_Typ_terms S E hI.1 vt_144 d_Typ_appArgument_9 ?_
  refine lv_iload_n hx hb d_Typ_appArgument_12 rfl (lv_at hl 0 rfl) ?_
  refine kg_p (As := [.int (f_Fra_result α)]) (rest := []) (k_Terms_kind (l := l) (g := g) (α := α) (f_Fra_result α)) S E hI.1 kw_Typ_39 ⟨Nat.le_of_ble_eq_true rfl, Nat.le_of_ble_eq_true rfl⟩ hI.room (kv_Terms E hI.1) rfl hl.1 rfl (Nat.le_of_ble_eq_true rfl) d_Typ_appArgument_13 rfl ?_
  refine lv_bipush (v := 6) hx hb d_Typ_appArgument_16 (by decide) ?_
  refine lv_icmp_eq (tgt := 29) hx hb d_Typ_appArgument_18 (by decide) (fun c1 => ?_) (fun c1 => ?_)
  · replace h := Eq.trans (if_pos c1).symm h
    exact J29 (f_Fra_result α) _ _ _ _ _ _ _ h hI (lv_sub hl [0, 1] rfl)
  · replace h := Eq.trans (if_neg c1).symm h
    refine lv_aload_n hx hb d_Typ_appArgument_21 rfl (lv_at hl 1 rfl) ?_
    refine kf_Typ_meter S E hI.1 vt_143 d_Typ_appArgument_22 ?_
    refine lv_iconst (v := 5) hx hb d_Typ_appArgument_25 (by decide) ?_
    refine kg_cV (As := [.int 5]) (rest := []) h (k_Meter_fail (l := l) (g := g) (α := α) hfl N 5) S hlocks hno E hI kw_Typ_33 ⟨Nat.le_of_ble_eq_true rfl, Nat.le_of_ble_eq_true rfl⟩ (kv_Meter E hI.1) rfl hl.1 rfl (Nat.le_of_ble_eq_true rfl) d_Typ_appArgument_26 (fun α6 ad H locs cells slots e7 h hRm hI => ?_)
    exact J29 (f_Fra_result α) _ _ _ _ _ _ _ h hI (lv_sub hl [0, 1] rfl)
def f_Typ_appOpen (N : Nat)  (α : kS) : Option (kO × kS) := ((f_Typ_nextArgument N α)).bind fun v1 => (kBi (f_Terms_rewrite N 0 (f_Terms_right (f_Fra_top 2 α) α) v1 α) fun v5 α3 => (if ((f_Fra_top 3 α3) - 1) = 0 then (some (some none, (f_Fra_give v5 α3))) else (kBv (f_Typ_askFunction N v5 (f_Fra_set 3 ((f_Fra_top 3 α3) - 1) α3)) fun α7 => (some (some none, α7)))))
set_option maxHeartbeats 4000000 in
set_option maxRecDepth 100000 in
theorem k_Typ_appOpen {l : Launch} {g : kG} {α : kS} (hfl : kFl l) (N : Nat)   : ∀ x, f_Typ_appOpen N α = some x → kC l g y_Typ_appOpen b_Typ_appOpen 4 none 33 966 [.ref (kad g 8)] α (kQr x) := by
  intro x h
  unfold f_Typ_appOpen at h
  refine kc_ofW (by decide) (fun A ad0 p e s m args below meth c S hr hlocks hno hadm hargs E hI => ?_)
  have hx := S.1
  have hb := S.2.1
  have hown := S.2.2.2.1
  have hT := S.2.2.2.2
  subst hargs
  have hl := lv_entry ([.ref (kad g 8)]) (n := 4) (Nat.le_of_ble_eq_true rfl)
  rw [lg_entry_eq]
  generalize (lg_sl ([.ref (kad g 8)]) ++ List.replicate (4 - (lg_sl ([.ref (kad g 8)])).length) Slot.unset).toArray = ls at hl ⊢
  have hl : lv_has ls 4 [(0, .ref (kad g 8))] := hl
  refine lv_aload_n hx hb d_Typ_appOpen_0 rfl (lv_at hl 0 rfl) ?_
  refine kf_Typ_terms S E hI.1 vt_144 d_Typ_appOpen_1 ?_
  refine lv_aload_n hx hb d_Typ_appOpen_4 rfl (lv_at hl 0 rfl) ?_
  refine kf_Typ_frames S E hI.1 vt_142 d_Typ_appOpen_5 ?_
  refine lv_iconst (v := 2) hx hb d_Typ_appOpen_8 (by decide) ?_
  refine kg_p (As := [.int 2]) (rest := [.ref (kad g 2)]) (k_Fra_top (l := l) (g := g) (α := α) 2) S E hI.1 kw_Typ_29 ⟨Nat.le_of_ble_eq_true rfl, Nat.le_of_ble_eq_true rfl⟩ hI.room (kv_Fra E hI.1) rfl hl.1 rfl (Nat.le_of_ble_eq_true rfl) d_Typ_appOpen_9 rfl ?_
  refine kg_p (As := [.int (f_Fra_top 2 α)]) (rest := []) (k_Terms_right (l := l) (g := g) (α := α) (f_Fra_top 2 α)) S E hI.1 kw_Typ_62 ⟨Nat.le_of_ble_eq_true rfl, Nat.le_of_ble_eq_true rfl⟩ hI.room (kv_Terms E hI.1) rfl hl.1 rfl (Nat.le_of_ble_eq_true rfl) d_Typ_appOpen_12 rfl ?_
  refine lv_istore_n (lv' := [(1, .int (f_Terms_right (f_Fra_top 2 α) α)), (0, .ref (kad g 8))]) hx hb d_Typ_appOpen_15 rfl hl (by decide) rfl (fun ls hl => ?_)
  refine lv_aload_n hx hb d_Typ_appOpen_16 rfl (lv_at hl 1 rfl) ?_
  refine kf_Typ_terms S E hI.1 vt_144 d_Typ_appOpen_17 ?_
  refine lv_iconst (v := 0) hx hb d_Typ_appOpen_20 (by decide) ?_
  refine lv_iload_n hx hb d_Typ_appOpen_21 rfl (lv_at hl 0 rfl) ?_
  refine lv_aload_n hx hb d_Typ_appOpen_22 rfl (lv_at hl 1 rfl) ?_
  obtain ⟨v1, e2, h⟩ := Option.bind_eq_some_iff.mp h
  refine kg_p (As := []) (rest := [.int (f_Terms_right (f_Fra_top 2 α) α), .int 0, .ref (kad g 2)]) ((k_Typ_nextArgument (l := l) (g := g) (α := α) N) _ e2) S E hI.1 kw_Typ_130 ⟨Nat.le_of_ble_eq_true rfl, Nat.le_of_ble_eq_true rfl⟩ hI.room (kv_Typ E hI.1) rfl hl.1 rfl (Nat.le_of_ble_eq_true rfl) d_Typ_appOpen_23 rfl ?_
  refine kg_cI (As := [.int 0, .int (f_Terms_right (f_Fra_top 2 α) α), .int v1]) (rest := []) h (k_Terms_rewrite (l := l) (g := g) (α := α) hfl N 0 (f_Terms_right (f_Fra_top 2 α) α) v1) S hlocks hno E hI kw_Typ_98 ⟨Nat.le_of_ble_eq_true rfl, Nat.le_of_ble_eq_true rfl⟩ (kv_Terms E hI.1) rfl hl.1 rfl (Nat.le_of_ble_eq_true rfl) d_Typ_appOpen_26 (fun v5 α3 ad H locs cells slots e4 h hRm hI => ?_)
  refine lv_istore_n (lv' := [(2, .int v5), (1, .int (f_Terms_right (f_Fra_top 2 α) α)), (0, .ref (kad g 8))]) hx hb d_Typ_appOpen_29 rfl hl (by decide) rfl (fun ls hl => ?_)
  refine lv_aload_n hx hb d_Typ_appOpen_30 rfl (lv_at hl 2 rfl) ?_
  refine kf_Typ_frames S E hI.1 vt_142 d_Typ_appOpen_31 ?_
  refine lv_iconst (v := 3) hx hb d_Typ_appOpen_34 (by decide) ?_
  refine kg_p (As := [.int 3]) (rest := []) (k_Fra_top (l := l) (g := g) (α := α3) 3) S E hI.1 kw_Typ_29 ⟨Nat.le_of_ble_eq_true rfl, Nat.le_of_ble_eq_true rfl⟩ hI.room (kv_Fra E hI.1) rfl hl.1 rfl (Nat.le_of_ble_eq_true rfl) d_Typ_appOpen_35 rfl ?_
  refine lv_iconst (v := 1) hx hb d_Typ_appOpen_38 (by decide) ?_
  refine lv_isub hx hb d_Typ_appOpen_39 ?_
  refine lv_istore_n (lv' := [(3, .int ((f_Fra_top 3 α3) - 1)), (2, .int v5), (1, .int (f_Terms_right (f_Fra_top 2 α) α)), (0, .ref (kad g 8))]) hx hb d_Typ_appOpen_40 rfl hl (by decide) rfl (fun ls hl => ?_)
  refine lv_iload_n hx hb d_Typ_appOpen_41 rfl (lv_at hl 0 rfl) ?_
  refine lv_if_ne (tgt := 56) hx hb d_Typ_appOpen_42 (by decide) (fun c6 => ?_) (fun c6 => ?_)
  · replace h := Eq.trans (if_neg c6).symm h
    refine lv_aload_n hx hb d_Typ_appOpen_56 rfl (lv_at hl 3 rfl) ?_
    refine kf_Typ_frames S E hI.1 vt_142 d_Typ_appOpen_57 ?_
    refine lv_iconst (v := 3) hx hb d_Typ_appOpen_60 (by decide) ?_
    refine lv_iload_n hx hb d_Typ_appOpen_61 rfl (lv_at hl 0 rfl) ?_
    refine kg_tV (As := [.int 3, .int ((f_Fra_top 3 α3) - 1)]) (rest := []) (k_Fra_set (l := l) (g := g) (α := α3) 3 ((f_Fra_top 3 α3) - 1)) S hlocks hno E hI kw_Typ_72 ⟨Nat.le_of_ble_eq_true rfl, Nat.le_of_ble_eq_true rfl⟩ (kv_Fra E hI.1) rfl hl.1 rfl (Nat.le_of_ble_eq_true rfl) d_Typ_appOpen_62 (fun ad H locs cells slots hRm hI => ?_)
    refine lv_aload_n hx hb d_Typ_appOpen_65 rfl (lv_at hl 3 rfl) ?_
    refine lv_iload_n hx hb d_Typ_appOpen_66 rfl (lv_at hl 1 rfl) ?_
    refine kg_cV (As := [.int v5]) (rest := []) h (k_Typ_askFunction (l := l) (g := g) (α := (f_Fra_set 3 ((f_Fra_top 3 α3) - 1) α3)) hfl N v5) S hlocks hno E hI kw_Typ_127 ⟨Nat.le_of_ble_eq_true rfl, Nat.le_of_ble_eq_true rfl⟩ (kv_Typ E hI.1) rfl hl.1 rfl (Nat.le_of_ble_eq_true rfl) d_Typ_appOpen_67 (fun α7 ad H locs cells slots e8 h hRm hI => ?_)
    exact kc_vret hx hb hr hlocks E hI h d_Typ_appOpen_70
  · replace h := Eq.trans (if_pos c6).symm h
    refine lv_aload_n hx hb d_Typ_appOpen_45 rfl (lv_at hl 3 rfl) ?_
    refine kf_Typ_frames S E hI.1 vt_142 d_Typ_appOpen_46 ?_
    refine lv_iload_n hx hb d_Typ_appOpen_49 rfl (lv_at hl 1 rfl) ?_
    refine kg_tV (As := [.int v5]) (rest := []) (k_Fra_give (l := l) (g := g) (α := α3) v5) S hlocks hno E hI kw_Typ_50 ⟨Nat.le_of_ble_eq_true rfl, Nat.le_of_ble_eq_true rfl⟩ (kv_Fra E hI.1) rfl hl.1 rfl (Nat.le_of_ble_eq_true rfl) d_Typ_appOpen_50 (fun ad H locs cells slots hRm hI => ?_)
    refine lv_goto (tgt := 70) hx hb d_Typ_appOpen_53 (by decide) ?_
    exact kc_vret hx hb hr hlocks E hI h d_Typ_appOpen_70
def f_Typ_sortType (N : Nat)  (α : kS) : Option (kO × kS) := kBv (f_Fra_push N 1 (f_Fra_result (f_Fra_set 0 26 α)) 0 0 (f_Fra_set 0 26 α)) fun α1 => (some (some none, α1))
set_option maxHeartbeats 4000000 in
set_option maxRecDepth 100000 in
theorem k_Typ_sortType {l : Launch} {g : kG} {α : kS} (hfl : kFl l) (N : Nat)   : ∀ x, f_Typ_sortType N α = some x → kC l g y_Typ_sortType b_Typ_sortType 1 none 32 945 [.ref (kad g 8)] α (kQr x) := by
  intro x h
  unfold f_Typ_sortType at h
  refine kc_ofW (by decide) (fun A ad0 p e s m args below meth c S hr hlocks hno hadm hargs E hI => ?_)
  have hx := S.1
  have hb := S.2.1
  have hown := S.2.2.2.1
  have hT := S.2.2.2.2
  subst hargs
  have hl := lv_entry ([.ref (kad g 8)]) (n := 1) (Nat.le_of_ble_eq_true rfl)
  rw [lg_entry_eq]
  generalize (lg_sl ([.ref (kad g 8)]) ++ List.replicate (1 - (lg_sl ([.ref (kad g 8)])).length) Slot.unset).toArray = ls at hl ⊢
  have hl : lv_has ls 1 [(0, .ref (kad g 8))] := hl
  refine lv_aload_n hx hb d_Typ_sortType_0 rfl (lv_at hl 0 rfl) ?_
  refine kf_Typ_frames S E hI.1 vt_142 d_Typ_sortType_1 ?_
  refine lv_iconst (v := 0) hx hb d_Typ_sortType_4 (by decide) ?_
  refine lv_bipush (v := 26) hx hb d_Typ_sortType_5 (by decide) ?_
  refine kg_tV (As := [.int 0, .int 26]) (rest := []) (k_Fra_set (l := l) (g := g) (α := α) 0 26) S hlocks hno E hI kw_Typ_72 ⟨Nat.le_of_ble_eq_true rfl, Nat.le_of_ble_eq_true rfl⟩ (kv_Fra E hI.1) rfl hl.1 rfl (Nat.le_of_ble_eq_true rfl) d_Typ_sortType_7 (fun ad H locs cells slots hRm hI => ?_)
  refine lv_aload_n hx hb d_Typ_sortType_10 rfl (lv_at hl 0 rfl) ?_
  refine kf_Typ_frames S E hI.1 vt_142 d_Typ_sortType_11 ?_
  refine lv_iconst (v := 1) hx hb d_Typ_sortType_14 (by decide) ?_
  refine lv_aload_n hx hb d_Typ_sortType_15 rfl (lv_at hl 0 rfl) ?_
  refine kf_Typ_frames S E hI.1 vt_142 d_Typ_sortType_16 ?_
  refine kg_p (As := []) (rest := [.int 1, .ref (kad g 6)]) (k_Fra_result (l := l) (g := g) (α := (f_Fra_set 0 26 α)) ) S E hI.1 kw_Typ_105 ⟨Nat.le_of_ble_eq_true rfl, Nat.le_of_ble_eq_true rfl⟩ hI.room (kv_Fra E hI.1) rfl hl.1 rfl (Nat.le_of_ble_eq_true rfl) d_Typ_sortType_19 rfl ?_
  refine lv_iconst (v := 0) hx hb d_Typ_sortType_22 (by decide) ?_
  refine lv_iconst (v := 0) hx hb d_Typ_sortType_23 (by decide) ?_
  refine kg_cV (As := [.int 1, .int (f_Fra_result (f_Fra_set 0 26 α)), .int 0, .int 0]) (rest := []) h (k_Fra_push (l := l) (g := g) (α := (f_Fra_set 0 26 α)) hfl N 1 (f_Fra_result (f_Fra_set 0 26 α)) 0 0) S hlocks hno E hI kw_Typ_101 ⟨Nat.le_of_ble_eq_true rfl, Nat.le_of_ble_eq_true rfl⟩ (kv_Fra E hI.1) rfl hl.1 rfl (Nat.le_of_ble_eq_true rfl) d_Typ_sortType_24 (fun α1 ad H locs cells slots e2 h hRm hI => ?_)
  exact kc_vret hx hb hr hlocks E hI h d_Typ_sortType_27
def f_Typ_sortEnd_j27 (N : Nat)  (γ : kS) : Option (kO × kS) := some (some none, (f_Fra_give (f_Terms_left (f_Fra_result γ) γ) γ))
def f_Typ_sortEnd (N : Nat)  (α : kS) : Option (kO × kS) := if (f_Terms_kind (f_Fra_result α) α) = 2 then (f_Typ_sortEnd_j27 N  α) else (kBv (f_Meter_fail N 6 α) fun α2 => (f_Typ_sortEnd_j27 N  α2))
set_option maxHeartbeats 4000000 in
set_option maxRecDepth 100000 in
theorem k_Typ_sortEnd {l : Launch} {g : kG} {α : kS} (hfl : kFl l) (N : Nat)   : ∀ x, f_Typ_sortEnd N α = some x → kC l g y_Typ_sortEnd b_Typ_sortEnd 1 none 13 362 [.ref (kad g 8)] α (kQr x) := by
  intro x h
  unfold f_Typ_sortEnd at h
  refine kc_ofW (by decide) (fun A ad0 p e s m args below meth c S hr hlocks hno hadm hargs E hI => ?_)
  have hx := S.1
  have hb := S.2.1
  have hown := S.2.2.2.1
  have hT := S.2.2.2.2
  subst hargs
  have hl := lv_entry ([.ref (kad g 8)]) (n := 1) (Nat.le_of_ble_eq_true rfl)
  rw [lg_entry_eq]
  generalize (lg_sl ([.ref (kad g 8)]) ++ List.replicate (1 - (lg_sl ([.ref (kad g 8)])).length) Slot.unset).toArray = ls at hl ⊢
  have hl : lv_has ls 1 [(0, .ref (kad g 8))] := hl
  have J27 : ∀ (γ : kS) (ad : Nat → Nat) (H : Heap) (locs : List Loc) (cells slots : Nat) (ls : Array Slot), f_Typ_sortEnd_j27 N γ = some x → kI g A s α ad0 γ ad H locs cells slots → lv_has ls 1 [(0, .ref (kad g 8))] → W p l e (kR 13 362 α) s m ([.ref (kad g 8)]).toArray below meth c H locs cells slots (vEQ below (kQ g A α ad0 (kQr x)) ([.ref (kad g 8)]).toArray s A) (F0 m 27 ls []) := by
    intro  γ ad H locs cells slots ls h hI hl
    unfold f_Typ_sortEnd_j27 at h
    refine lv_aload_n hx hb d_Typ_sortEnd_27 rfl (lv_at hl 0 rfl) ?_
    refine kf_Typ_frames S E hI.1 vt_142 d_Typ_sortEnd_28 ?_
    refine lv_aload_n hx hb d_Typ_sortEnd_31 rfl (lv_at hl 0 rfl) ?_
    refine kf_Typ_terms S E hI.1 vt_144 d_Typ_sortEnd_32 ?_
    refine lv_aload_n hx hb d_Typ_sortEnd_35 rfl (lv_at hl 0 rfl) ?_
    refine kf_Typ_frames S E hI.1 vt_142 d_Typ_sortEnd_36 ?_
    refine kg_p (As := []) (rest := [.ref (kad g 2), .ref (kad g 6)]) (k_Fra_result (l := l) (g := g) (α := γ) ) S E hI.1 kw_Typ_105 ⟨Nat.le_of_ble_eq_true rfl, Nat.le_of_ble_eq_true rfl⟩ hI.room (kv_Fra E hI.1) rfl hl.1 rfl (Nat.le_of_ble_eq_true rfl) d_Typ_sortEnd_39 rfl ?_
    refine kg_p (As := [.int (f_Fra_result γ)]) (rest := [.ref (kad g 6)]) (k_Terms_left (l := l) (g := g) (α := γ) (f_Fra_result γ)) S E hI.1 kw_Typ_44 ⟨Nat.le_of_ble_eq_true rfl, Nat.le_of_ble_eq_true rfl⟩ hI.room (kv_Terms E hI.1) rfl hl.1 rfl (Nat.le_of_ble_eq_true rfl) d_Typ_sortEnd_42 rfl ?_
    refine kg_tV (As := [.int (f_Terms_left (f_Fra_result γ) γ)]) (rest := []) (k_Fra_give (l := l) (g := g) (α := γ) (f_Terms_left (f_Fra_result γ) γ)) S hlocks hno E hI kw_Typ_50 ⟨Nat.le_of_ble_eq_true rfl, Nat.le_of_ble_eq_true rfl⟩ (kv_Fra E hI.1) rfl hl.1 rfl (Nat.le_of_ble_eq_true rfl) d_Typ_sortEnd_45 (fun ad H locs cells slots hRm hI => ?_)
    exact kc_vret hx hb hr hlocks E hI h d_Typ_sortEnd_48
  refine lv_aload_n hx hb d_Typ_sortEnd_0 rfl (lv_at hl 0 rfl) ?_
  refine kf_Typ_terms S E hI.1 vt_144 d_Typ_sortEnd_1 ?_
  refine lv_aload_n hx hb d_Typ_sortEnd_4 rfl (lv_at hl 0 rfl) ?_
  refine kf_Typ_frames S E hI.1 vt_142 d_Typ_sortEnd_5 ?_
  refine kg_p (As := []) (rest := [.ref (kad g 2)]) (k_Fra_result (l := l) (g := g) (α := α) ) S E hI.1 kw_Typ_105 ⟨Nat.le_of_ble_eq_true rfl, Nat.le_of_ble_eq_true rfl⟩ hI.room (kv_Fra E hI.1) rfl hl.1 rfl (Nat.le_of_ble_eq_true rfl) d_Typ_sortEnd_8 rfl ?_
  refine kg_p (As := [.int (f_Fra_result α)]) (rest := []) (k_Terms_kind (l := l) (g := g) (α := α) (f_Fra_result α)) S E hI.1 kw_Typ_39 ⟨Nat.le_of_ble_eq_true rfl, Nat.le_of_ble_eq_true rfl⟩ hI.room (kv_Terms E hI.1) rfl hl.1 rfl (Nat.le_of_ble_eq_true rfl) d_Typ_sortEnd_11 rfl ?_
  refine lv_iconst (v := 2) hx hb d_Typ_sortEnd_14 (by decide) ?_
  refine lv_icmp_eq (tgt := 27) hx hb d_Typ_sortEnd_15 (by decide) (fun c1 => ?_) (fun c1 => ?_)
  · replace h := Eq.trans (if_pos c1).symm h
    exact J27  _ _ _ _ _ _ _ h hI (lv_sub hl [0] rfl)
  · replace h := Eq.trans (if_neg c1).symm h
    refine lv_aload_n hx hb d_Typ_sortEnd_18 rfl (lv_at hl 0 rfl) ?_
    refine kf_Typ_meter S E hI.1 vt_143 d_Typ_sortEnd_19 ?_
    refine lv_bipush (v := 6) hx hb d_Typ_sortEnd_22 (by decide) ?_
    refine kg_cV (As := [.int 6]) (rest := []) h (k_Meter_fail (l := l) (g := g) (α := α) hfl N 6) S hlocks hno E hI kw_Typ_33 ⟨Nat.le_of_ble_eq_true rfl, Nat.le_of_ble_eq_true rfl⟩ (kv_Meter E hI.1) rfl hl.1 rfl (Nat.le_of_ble_eq_true rfl) d_Typ_sortEnd_24 (fun α2 ad H locs cells slots e3 h hRm hI => ?_)
    exact J27  _ _ _ _ _ _ _ h hI (lv_sub hl [0] rfl)
def f_Typ_checkType (N : Nat)  (α : kS) : Option (kO × kS) := kBv (f_Fra_push N 3 (f_Fra_result (f_Fra_set 0 0 α)) (f_Fra_top 1 α) 1 (f_Fra_set 0 0 α)) fun α1 => (some (some none, α1))
set_option maxHeartbeats 4000000 in
set_option maxRecDepth 100000 in
theorem k_Typ_checkType {l : Launch} {g : kG} {α : kS} (hfl : kFl l) (N : Nat)   : ∀ x, f_Typ_checkType N α = some x → kC l g y_Typ_checkType b_Typ_checkType 2 none 32 945 [.ref (kad g 8)] α (kQr x) := by
  intro x h
  unfold f_Typ_checkType at h
  refine kc_ofW (by decide) (fun A ad0 p e s m args below meth c S hr hlocks hno hadm hargs E hI => ?_)
  have hx := S.1
  have hb := S.2.1
  have hown := S.2.2.2.1
  have hT := S.2.2.2.2
  subst hargs
  have hl := lv_entry ([.ref (kad g 8)]) (n := 2) (Nat.le_of_ble_eq_true rfl)
  rw [lg_entry_eq]
  generalize (lg_sl ([.ref (kad g 8)]) ++ List.replicate (2 - (lg_sl ([.ref (kad g 8)])).length) Slot.unset).toArray = ls at hl ⊢
  have hl : lv_has ls 2 [(0, .ref (kad g 8))] := hl
  refine lv_aload_n hx hb d_Typ_checkType_0 rfl (lv_at hl 0 rfl) ?_
  refine kf_Typ_frames S E hI.1 vt_142 d_Typ_checkType_1 ?_
  refine lv_iconst (v := 1) hx hb d_Typ_checkType_4 (by decide) ?_
  refine kg_p (As := [.int 1]) (rest := []) (k_Fra_top (l := l) (g := g) (α := α) 1) S E hI.1 kw_Typ_29 ⟨Nat.le_of_ble_eq_true rfl, Nat.le_of_ble_eq_true rfl⟩ hI.room (kv_Fra E hI.1) rfl hl.1 rfl (Nat.le_of_ble_eq_true rfl) d_Typ_checkType_5 rfl ?_
  refine lv_istore_n (lv' := [(1, .int (f_Fra_top 1 α)), (0, .ref (kad g 8))]) hx hb d_Typ_checkType_8 rfl hl (by decide) rfl (fun ls hl => ?_)
  refine lv_aload_n hx hb d_Typ_checkType_9 rfl (lv_at hl 1 rfl) ?_
  refine kf_Typ_frames S E hI.1 vt_142 d_Typ_checkType_10 ?_
  refine lv_iconst (v := 0) hx hb d_Typ_checkType_13 (by decide) ?_
  refine lv_iconst (v := 0) hx hb d_Typ_checkType_14 (by decide) ?_
  refine kg_tV (As := [.int 0, .int 0]) (rest := []) (k_Fra_set (l := l) (g := g) (α := α) 0 0) S hlocks hno E hI kw_Typ_72 ⟨Nat.le_of_ble_eq_true rfl, Nat.le_of_ble_eq_true rfl⟩ (kv_Fra E hI.1) rfl hl.1 rfl (Nat.le_of_ble_eq_true rfl) d_Typ_checkType_15 (fun ad H locs cells slots hRm hI => ?_)
  refine lv_aload_n hx hb d_Typ_checkType_18 rfl (lv_at hl 1 rfl) ?_
  refine kf_Typ_frames S E hI.1 vt_142 d_Typ_checkType_19 ?_
  refine lv_iconst (v := 3) hx hb d_Typ_checkType_22 (by decide) ?_
  refine lv_aload_n hx hb d_Typ_checkType_23 rfl (lv_at hl 1 rfl) ?_
  refine kf_Typ_frames S E hI.1 vt_142 d_Typ_checkType_24 ?_
  refine kg_p (As := []) (rest := [.int 3, .ref (kad g 6)]) (k_Fra_result (l := l) (g := g) (α := (f_Fra_set 0 0 α)) ) S E hI.1 kw_Typ_105 ⟨Nat.le_of_ble_eq_true rfl, Nat.le_of_ble_eq_true rfl⟩ hI.room (kv_Fra E hI.1) rfl hl.1 rfl (Nat.le_of_ble_eq_true rfl) d_Typ_checkType_27 rfl ?_
  refine lv_iload_n hx hb d_Typ_checkType_30 rfl (lv_at hl 0 rfl) ?_
  refine lv_iconst (v := 1) hx hb d_Typ_checkType_31 (by decide) ?_
  refine kg_cV (As := [.int 3, .int (f_Fra_result (f_Fra_set 0 0 α)), .int (f_Fra_top 1 α), .int 1]) (rest := []) h (k_Fra_push (l := l) (g := g) (α := (f_Fra_set 0 0 α)) hfl N 3 (f_Fra_result (f_Fra_set 0 0 α)) (f_Fra_top 1 α) 1) S hlocks hno E hI kw_Typ_101 ⟨Nat.le_of_ble_eq_true rfl, Nat.le_of_ble_eq_true rfl⟩ (kv_Fra E hI.1) rfl hl.1 rfl (Nat.le_of_ble_eq_true rfl) d_Typ_checkType_32 (fun α1 ad H locs cells slots e2 h hRm hI => ?_)
  exact kc_vret hx hb hr hlocks E hI h d_Typ_checkType_35
def f_Typ_declare (N : Nat)  (α : kS) : Option (kO × kS) := kBv (f_Typ_sortWithin N 29 (f_Fra_top 1 α) α) fun α1 => (some (some none, α1))
set_option maxHeartbeats 4000000 in
set_option maxRecDepth 100000 in
theorem k_Typ_declare {l : Launch} {g : kG} {α : kS} (hfl : kFl l) (N : Nat)   : ∀ x, f_Typ_declare N α = some x → kC l g y_Typ_declare b_Typ_declare 1 none 33 968 [.ref (kad g 8)] α (kQr x) := by
  intro x h
  unfold f_Typ_declare at h
  refine kc_ofW (by decide) (fun A ad0 p e s m args below meth c S hr hlocks hno hadm hargs E hI => ?_)
  have hx := S.1
  have hb := S.2.1
  have hown := S.2.2.2.1
  have hT := S.2.2.2.2
  subst hargs
  have hl := lv_entry ([.ref (kad g 8)]) (n := 1) (Nat.le_of_ble_eq_true rfl)
  rw [lg_entry_eq]
  generalize (lg_sl ([.ref (kad g 8)]) ++ List.replicate (1 - (lg_sl ([.ref (kad g 8)])).length) Slot.unset).toArray = ls at hl ⊢
  have hl : lv_has ls 1 [(0, .ref (kad g 8))] := hl
  refine lv_aload_n hx hb d_Typ_declare_0 rfl (lv_at hl 0 rfl) ?_
  refine lv_bipush (v := 29) hx hb d_Typ_declare_1 (by decide) ?_
  refine lv_aload_n hx hb d_Typ_declare_3 rfl (lv_at hl 0 rfl) ?_
  refine kf_Typ_frames S E hI.1 vt_142 d_Typ_declare_4 ?_
  refine lv_iconst (v := 1) hx hb d_Typ_declare_7 (by decide) ?_
  refine kg_p (As := [.int 1]) (rest := [.int 29, .ref (kad g 8)]) (k_Fra_top (l := l) (g := g) (α := α) 1) S E hI.1 kw_Typ_29 ⟨Nat.le_of_ble_eq_true rfl, Nat.le_of_ble_eq_true rfl⟩ hI.room (kv_Fra E hI.1) rfl hl.1 rfl (Nat.le_of_ble_eq_true rfl) d_Typ_declare_8 rfl ?_
  refine kg_cV (As := [.int 29, .int (f_Fra_top 1 α)]) (rest := []) h (k_Typ_sortWithin (l := l) (g := g) (α := α) hfl N 29 (f_Fra_top 1 α)) S hlocks hno E hI kw_Typ_69 ⟨Nat.le_of_ble_eq_true rfl, Nat.le_of_ble_eq_true rfl⟩ (kv_Typ E hI.1) rfl hl.1 rfl (Nat.le_of_ble_eq_true rfl) d_Typ_declare_11 (fun α1 ad H locs cells slots e2 h hRm hI => ?_)
  exact kc_vret hx hb hr hlocks E hI h d_Typ_declare_14
theorem kw_Typ_136 : kWv "FamilyKernel$Typer" 136 "FamilyKernel$Frames" y_Fra_pop b_Fra_pop 1 none 0 := ⟨vt_969, vt_813, vt_814, vt_47, vt_815, by decide, by decide, by decide +kernel⟩
def f_Typ_declareValue (N : Nat)  (α : kS) : Option (kO × kS) := if (f_Fra_top 2 α) = (-1) then (some (some none, (f_Fra_pop α))) else (kBv (f_Typ_checkWithin N 0 (f_Fra_top 2 α) (f_Fra_top 1 α) α) fun α2 => (some (some none, α2)))
set_option maxHeartbeats 4000000 in
set_option maxRecDepth 100000 in
theorem k_Typ_declareValue {l : Launch} {g : kG} {α : kS} (hfl : kFl l) (N : Nat)   : ∀ x, f_Typ_declareValue N α = some x → kC l g y_Typ_declareValue b_Typ_declareValue 1 none 33 969 [.ref (kad g 8)] α (kQr x) := by
  intro x h
  unfold f_Typ_declareValue at h
  refine kc_ofW (by decide) (fun A ad0 p e s m args below meth c S hr hlocks hno hadm hargs E hI => ?_)
  have hx := S.1
  have hb := S.2.1
  have hown := S.2.2.2.1
  have hT := S.2.2.2.2
  subst hargs
  have hl := lv_entry ([.ref (kad g 8)]) (n := 1) (Nat.le_of_ble_eq_true rfl)
  rw [lg_entry_eq]
  generalize (lg_sl ([.ref (kad g 8)]) ++ List.replicate (1 - (lg_sl ([.ref (kad g 8)])).length) Slot.unset).toArray = ls at hl ⊢
  have hl : lv_has ls 1 [(0, .ref (kad g 8))] := hl
  refine lv_aload_n hx hb d_Typ_declareValue_0 rfl (lv_at hl 0 rfl) ?_
  refine kf_Typ_frames S E hI.1 vt_142 d_Typ_declareValue_1 ?_
  refine lv_iconst (v := 2) hx hb d_Typ_declareValue_4 (by decide) ?_
  refine kg_p (As := [.int 2]) (rest := []) (k_Fra_top (l := l) (g := g) (α := α) 2) S E hI.1 kw_Typ_29 ⟨Nat.le_of_ble_eq_true rfl, Nat.le_of_ble_eq_true rfl⟩ hI.room (kv_Fra E hI.1) rfl hl.1 rfl (Nat.le_of_ble_eq_true rfl) d_Typ_declareValue_5 rfl ?_
  refine lv_iconst (v := (-1)) hx hb d_Typ_declareValue_8 (by decide) ?_
  refine lv_icmp_ne (tgt := 22) hx hb d_Typ_declareValue_9 (by decide) (fun c1 => ?_) (fun c1 => ?_)
  · replace h := Eq.trans (if_neg c1).symm h
    refine lv_aload_n hx hb d_Typ_declareValue_22 rfl (lv_at hl 0 rfl) ?_
    refine lv_iconst (v := 0) hx hb d_Typ_declareValue_23 (by decide) ?_
    refine lv_aload_n hx hb d_Typ_declareValue_24 rfl (lv_at hl 0 rfl) ?_
    refine kf_Typ_frames S E hI.1 vt_142 d_Typ_declareValue_25 ?_
    refine lv_iconst (v := 2) hx hb d_Typ_declareValue_28 (by decide) ?_
    refine kg_p (As := [.int 2]) (rest := [.int 0, .ref (kad g 8)]) (k_Fra_top (l := l) (g := g) (α := α) 2) S E hI.1 kw_Typ_29 ⟨Nat.le_of_ble_eq_true rfl, Nat.le_of_ble_eq_true rfl⟩ hI.room (kv_Fra E hI.1) rfl hl.1 rfl (Nat.le_of_ble_eq_true rfl) d_Typ_declareValue_29 rfl ?_
    refine lv_aload_n hx hb d_Typ_declareValue_32 rfl (lv_at hl 0 rfl) ?_
    refine kf_Typ_frames S E hI.1 vt_142 d_Typ_declareValue_33 ?_
    refine lv_iconst (v := 1) hx hb d_Typ_declareValue_36 (by decide) ?_
    refine kg_p (As := [.int 1]) (rest := [.int (f_Fra_top 2 α), .int 0, .ref (kad g 8)]) (k_Fra_top (l := l) (g := g) (α := α) 1) S E hI.1 kw_Typ_29 ⟨Nat.le_of_ble_eq_true rfl, Nat.le_of_ble_eq_true rfl⟩ hI.room (kv_Fra E hI.1) rfl hl.1 rfl (Nat.le_of_ble_eq_true rfl) d_Typ_declareValue_37 rfl ?_
    refine kg_cV (As := [.int 0, .int (f_Fra_top 2 α), .int (f_Fra_top 1 α)]) (rest := []) h (k_Typ_checkWithin (l := l) (g := g) (α := α) hfl N 0 (f_Fra_top 2 α) (f_Fra_top 1 α)) S hlocks hno E hI kw_Typ_123 ⟨Nat.le_of_ble_eq_true rfl, Nat.le_of_ble_eq_true rfl⟩ (kv_Typ E hI.1) rfl hl.1 rfl (Nat.le_of_ble_eq_true rfl) d_Typ_declareValue_40 (fun α2 ad H locs cells slots e3 h hRm hI => ?_)
    exact kc_vret hx hb hr hlocks E hI h d_Typ_declareValue_43
  · replace h := Eq.trans (if_pos c1).symm h
    refine lv_aload_n hx hb d_Typ_declareValue_12 rfl (lv_at hl 0 rfl) ?_
    refine kf_Typ_frames S E hI.1 vt_142 d_Typ_declareValue_13 ?_
    refine kg_tV (As := []) (rest := []) (k_Fra_pop (l := l) (g := g) (α := α) ) S hlocks hno E hI kw_Typ_136 ⟨Nat.le_of_ble_eq_true rfl, Nat.le_of_ble_eq_true rfl⟩ (kv_Fra E hI.1) rfl hl.1 rfl (Nat.le_of_ble_eq_true rfl) d_Typ_declareValue_16 (fun ad H locs cells slots hRm hI => ?_)
    refine lv_goto (tgt := 43) hx hb d_Typ_declareValue_19 (by decide) ?_
    exact kc_vret hx hb hr hlocks E hI h d_Typ_declareValue_43
def f_Typ_eval (N : Nat)  (α : kS) : Option (kO × kS) := kBv (f_Typ_inferWithin N (f_Fra_top 2 (f_Fra_set 0 31 α)) (f_Fra_set 0 31 α)) fun α1 => (some (some none, α1))
set_option maxHeartbeats 4000000 in
set_option maxRecDepth 100000 in
theorem k_Typ_eval {l : Launch} {g : kG} {α : kS} (hfl : kFl l) (N : Nat)   : ∀ x, f_Typ_eval N α = some x → kC l g y_Typ_eval b_Typ_eval 1 none 33 966 [.ref (kad g 8)] α (kQr x) := by
  intro x h
  unfold f_Typ_eval at h
  refine kc_ofW (by decide) (fun A ad0 p e s m args below meth c S hr hlocks hno hadm hargs E hI => ?_)
  have hx := S.1
  have hb := S.2.1
  have hown := S.2.2.2.1
  have hT := S.2.2.2.2
  subst hargs
  have hl := lv_entry ([.ref (kad g 8)]) (n := 1) (Nat.le_of_ble_eq_true rfl)
  rw [lg_entry_eq]
  generalize (lg_sl ([.ref (kad g 8)]) ++ List.replicate (1 - (lg_sl ([.ref (kad g 8)])).length) Slot.unset).toArray = ls at hl ⊢
  have hl : lv_has ls 1 [(0, .ref (kad g 8))] := hl
  refine lv_aload_n hx hb d_Typ_eval_0 rfl (lv_at hl 0 rfl) ?_
  refine kf_Typ_frames S E hI.1 vt_142 d_Typ_eval_1 ?_
  refine lv_iconst (v := 0) hx hb d_Typ_eval_4 (by decide) ?_
  refine lv_bipush (v := 31) hx hb d_Typ_eval_5 (by decide) ?_
  refine kg_tV (As := [.int 0, .int 31]) (rest := []) (k_Fra_set (l := l) (g := g) (α := α) 0 31) S hlocks hno E hI kw_Typ_72 ⟨Nat.le_of_ble_eq_true rfl, Nat.le_of_ble_eq_true rfl⟩ (kv_Fra E hI.1) rfl hl.1 rfl (Nat.le_of_ble_eq_true rfl) d_Typ_eval_7 (fun ad H locs cells slots hRm hI => ?_)
  refine lv_aload_n hx hb d_Typ_eval_10 rfl (lv_at hl 0 rfl) ?_
  refine lv_aload_n hx hb d_Typ_eval_11 rfl (lv_at hl 0 rfl) ?_
  refine kf_Typ_frames S E hI.1 vt_142 d_Typ_eval_12 ?_
  refine lv_iconst (v := 2) hx hb d_Typ_eval_15 (by decide) ?_
  refine kg_p (As := [.int 2]) (rest := [.ref (kad g 8)]) (k_Fra_top (l := l) (g := g) (α := (f_Fra_set 0 31 α)) 2) S E hI.1 kw_Typ_29 ⟨Nat.le_of_ble_eq_true rfl, Nat.le_of_ble_eq_true rfl⟩ hI.room (kv_Fra E hI.1) rfl hl.1 rfl (Nat.le_of_ble_eq_true rfl) d_Typ_eval_16 rfl ?_
  refine kg_cV (As := [.int (f_Fra_top 2 (f_Fra_set 0 31 α))]) (rest := []) h (k_Typ_inferWithin (l := l) (g := g) (α := (f_Fra_set 0 31 α)) hfl N (f_Fra_top 2 (f_Fra_set 0 31 α))) S hlocks hno E hI kw_Typ_81 ⟨Nat.le_of_ble_eq_true rfl, Nat.le_of_ble_eq_true rfl⟩ (kv_Typ E hI.1) rfl hl.1 rfl (Nat.le_of_ble_eq_true rfl) d_Typ_eval_19 (fun α1 ad H locs cells slots e2 h hRm hI => ?_)
  exact kc_vret hx hb hr hlocks E hI h d_Typ_eval_22
def f_Typ_evalTyped (N : Nat)  (α : kS) : Option (kO × kS) := kBv (f_Fra_push N 9 (f_Fra_top 2 (f_Fra_set 0 0 α)) 0 1 (f_Fra_set 0 0 α)) fun α1 => (some (some none, α1))
set_option maxHeartbeats 4000000 in
set_option maxRecDepth 100000 in
theorem k_Typ_evalTyped {l : Launch} {g : kG} {α : kS} (hfl : kFl l) (N : Nat)   : ∀ x, f_Typ_evalTyped N α = some x → kC l g y_Typ_evalTyped b_Typ_evalTyped 1 none 32 945 [.ref (kad g 8)] α (kQr x) := by
  intro x h
  unfold f_Typ_evalTyped at h
  refine kc_ofW (by decide) (fun A ad0 p e s m args below meth c S hr hlocks hno hadm hargs E hI => ?_)
  have hx := S.1
  have hb := S.2.1
  have hown := S.2.2.2.1
  have hT := S.2.2.2.2
  subst hargs
  have hl := lv_entry ([.ref (kad g 8)]) (n := 1) (Nat.le_of_ble_eq_true rfl)
  rw [lg_entry_eq]
  generalize (lg_sl ([.ref (kad g 8)]) ++ List.replicate (1 - (lg_sl ([.ref (kad g 8)])).length) Slot.unset).toArray = ls at hl ⊢
  have hl : lv_has ls 1 [(0, .ref (kad g 8))] := hl
  refine lv_aload_n hx hb d_Typ_evalTyped_0 rfl (lv_at hl 0 rfl) ?_
  refine kf_Typ_frames S E hI.1 vt_142 d_Typ_evalTyped_1 ?_
  refine lv_iconst (v := 0) hx hb d_Typ_evalTyped_4 (by decide) ?_
  refine lv_iconst (v := 0) hx hb d_Typ_evalTyped_5 (by decide) ?_
  refine kg_tV (As := [.int 0, .int 0]) (rest := []) (k_Fra_set (l := l) (g := g) (α := α) 0 0) S hlocks hno E hI kw_Typ_72 ⟨Nat.le_of_ble_eq_true rfl, Nat.le_of_ble_eq_true rfl⟩ (kv_Fra E hI.1) rfl hl.1 rfl (Nat.le_of_ble_eq_true rfl) d_Typ_evalTyped_6 (fun ad H locs cells slots hRm hI => ?_)
  refine lv_aload_n hx hb d_Typ_evalTyped_9 rfl (lv_at hl 0 rfl) ?_
  refine kf_Typ_frames S E hI.1 vt_142 d_Typ_evalTyped_10 ?_
  refine lv_bipush (v := 9) hx hb d_Typ_evalTyped_13 (by decide) ?_
  refine lv_aload_n hx hb d_Typ_evalTyped_15 rfl (lv_at hl 0 rfl) ?_
  refine kf_Typ_frames S E hI.1 vt_142 d_Typ_evalTyped_16 ?_
  refine lv_iconst (v := 2) hx hb d_Typ_evalTyped_19 (by decide) ?_
  refine kg_p (As := [.int 2]) (rest := [.int 9, .ref (kad g 6)]) (k_Fra_top (l := l) (g := g) (α := (f_Fra_set 0 0 α)) 2) S E hI.1 kw_Typ_29 ⟨Nat.le_of_ble_eq_true rfl, Nat.le_of_ble_eq_true rfl⟩ hI.room (kv_Fra E hI.1) rfl hl.1 rfl (Nat.le_of_ble_eq_true rfl) d_Typ_evalTyped_20 rfl ?_
  refine lv_iconst (v := 0) hx hb d_Typ_evalTyped_23 (by decide) ?_
  refine lv_iconst (v := 1) hx hb d_Typ_evalTyped_24 (by decide) ?_
  refine kg_cV (As := [.int 9, .int (f_Fra_top 2 (f_Fra_set 0 0 α)), .int 0, .int 1]) (rest := []) h (k_Fra_push (l := l) (g := g) (α := (f_Fra_set 0 0 α)) hfl N 9 (f_Fra_top 2 (f_Fra_set 0 0 α)) 0 1) S hlocks hno E hI kw_Typ_101 ⟨Nat.le_of_ble_eq_true rfl, Nat.le_of_ble_eq_true rfl⟩ (kv_Fra E hI.1) rfl hl.1 rfl (Nat.le_of_ble_eq_true rfl) d_Typ_evalTyped_25 (fun α1 ad H locs cells slots e2 h hRm hI => ?_)
  exact kc_vret hx hb hr hlocks E hI h d_Typ_evalTyped_28
