theorem kw_Fam_119 : kWv "FamilyKernel$Families" 119 "FamilyKernel$Frames" y_Fra_set b_Fra_set 3 none 2 := ⟨vt_996, vt_875, vt_876, vt_47, vt_877, by decide, by decide, by decide +kernel⟩
theorem kw_Fam_122 : kWv "FamilyKernel$Families" 122 "FamilyKernel$Frames" y_Fra_push b_Fra_push 5 none 4 := ⟨vt_997, vt_819, vt_820, vt_47, vt_821, by decide, by decide, by decide +kernel⟩
def f_Fam_sortOf (N : Nat) (a1 : Int32) (a2 : Int32) (α : kS) : Option (kO × kS) := kBv (f_Fra_push N 25 0 0 0 (f_Fra_set 0 a1 α)) fun α1 => (kBv (f_Fra_push N 15 a2 0 1 α1) fun α3 => (some (some none, α3)))
set_option maxHeartbeats 4000000 in
set_option maxRecDepth 100000 in
theorem k_Fam_sortOf {l : Launch} {g : kG} {α : kS} (hfl : kFl l) (N : Nat) (a1 : Int32) (a2 : Int32)  : ∀ x, f_Fam_sortOf N a1 a2 α = some x → kC l g y_Fam_sortOf b_Fam_sortOf 3 none 32 945 [.ref (kad g 9), .int a1, .int a2] α (kQr x) := by
  intro x h
  unfold f_Fam_sortOf at h
  refine kc_ofW (by decide) (fun A ad0 p e s m args below meth c S hr hlocks hno hadm hargs E hI => ?_)
  have hx := S.1
  have hb := S.2.1
  have hown := S.2.2.2.1
  have hT := S.2.2.2.2
  subst hargs
  have hl := lv_entry ([.ref (kad g 9), .int a1, .int a2]) (n := 3) (Nat.le_of_ble_eq_true rfl)
  rw [lg_entry_eq]
  generalize (lg_sl ([.ref (kad g 9), .int a1, .int a2]) ++ List.replicate (3 - (lg_sl ([.ref (kad g 9), .int a1, .int a2])).length) Slot.unset).toArray = ls at hl ⊢
  have hl : lv_has ls 3 [(0, .ref (kad g 9)), (1, .int a1), (2, .int a2)] := hl
  refine lv_aload_n hx hb d_Fam_sortOf_0 rfl (lv_at hl 0 rfl) ?_
  refine kf_Fam_frames S E hI.1 vt_147 d_Fam_sortOf_1 ?_
  refine lv_iconst (v := 0) hx hb d_Fam_sortOf_4 (by decide) ?_
  refine lv_iload_n hx hb d_Fam_sortOf_5 rfl (lv_at hl 1 rfl) ?_
  refine kg_tV (As := [.int 0, .int a1]) (rest := []) (k_Fra_set (l := l) (g := g) (α := α) 0 a1) S hlocks hno E hI kw_Fam_119 ⟨Nat.le_of_ble_eq_true rfl, Nat.le_of_ble_eq_true rfl⟩ (kv_Fra E hI.1) rfl hl.1 rfl (Nat.le_of_ble_eq_true rfl) d_Fam_sortOf_6 (fun ad H locs cells slots hRm hI => ?_)
  refine lv_aload_n hx hb d_Fam_sortOf_9 rfl (lv_at hl 0 rfl) ?_
  refine kf_Fam_frames S E hI.1 vt_147 d_Fam_sortOf_10 ?_
  refine lv_bipush (v := 25) hx hb d_Fam_sortOf_13 (by decide) ?_
  refine lv_iconst (v := 0) hx hb d_Fam_sortOf_15 (by decide) ?_
  refine lv_iconst (v := 0) hx hb d_Fam_sortOf_16 (by decide) ?_
  refine lv_iconst (v := 0) hx hb d_Fam_sortOf_17 (by decide) ?_
  refine kg_cV (As := [.int 25, .int 0, .int 0, .int 0]) (rest := []) h (k_Fra_push (l := l) (g := g) (α := (f_Fra_set 0 a1 α)) hfl N 25 0 0 0) S hlocks hno E hI kw_Fam_122 ⟨Nat.le_of_ble_eq_true rfl, Nat.le_of_ble_eq_true rfl⟩ (kv_Fra E hI.1) rfl hl.1 rfl (Nat.le_of_ble_eq_true rfl) d_Fam_sortOf_18 (fun α1 ad H locs cells slots e2 h hRm hI => ?_)
  refine lv_aload_n hx hb d_Fam_sortOf_21 rfl (lv_at hl 0 rfl) ?_
  refine kf_Fam_frames S E hI.1 vt_147 d_Fam_sortOf_22 ?_
  refine lv_bipush (v := 15) hx hb d_Fam_sortOf_25 (by decide) ?_
  refine lv_iload_n hx hb d_Fam_sortOf_27 rfl (lv_at hl 2 rfl) ?_
  refine lv_iconst (v := 0) hx hb d_Fam_sortOf_28 (by decide) ?_
  refine lv_iconst (v := 1) hx hb d_Fam_sortOf_29 (by decide) ?_
  refine kg_cV (As := [.int 15, .int a2, .int 0, .int 1]) (rest := []) h (k_Fra_push (l := l) (g := g) (α := α1) hfl N 15 a2 0 1) S hlocks hno E hI kw_Fam_122 ⟨Nat.le_of_ble_eq_true rfl, Nat.le_of_ble_eq_true rfl⟩ (kv_Fra E hI.1) rfl hl.1 rfl (Nat.le_of_ble_eq_true rfl) d_Fam_sortOf_30 (fun α3 ad H locs cells slots e4 h hRm hI => ?_)
  exact kc_vret hx hb hr hlocks E hI h d_Fam_sortOf_33
theorem kw_Fam_53 : kWv "FamilyKernel$Families" 53 "FamilyKernel$Parser" y_Par_declared b_Par_declared 1 (some .int) 0 := ⟨vt_970, vt_971, vt_972, vt_40, vt_973, by decide, by decide, by decide +kernel⟩
theorem kw_Fam_63 : kWv "FamilyKernel$Families" 63 "FamilyKernel$Parser" y_Par_parameters b_Par_parameters 1 (some .int) 0 := ⟨vt_975, vt_976, vt_977, vt_40, vt_978, by decide, by decide, by decide +kernel⟩
theorem kw_Fam_68 : kWv "FamilyKernel$Families" 68 "FamilyKernel$Environment" y_Env_length b_Env_length 1 (some .int) 0 := ⟨vt_980, vt_181, vt_182, vt_26, vt_183, by decide, by decide, by decide +kernel⟩
theorem kw_Fam_82 : kWv "FamilyKernel$Families" 82 "FamilyKernel$Parser" y_Par_type b_Par_type 1 (some .int) 0 := ⟨vt_984, vt_648, vt_649, vt_40, vt_650, by decide, by decide, by decide +kernel⟩
theorem kw_Fam_85 : kWv "FamilyKernel$Families" 85 "FamilyKernel$Terms" y_Terms_kind b_Terms_kind 2 (some .int) 1 := ⟨vt_985, vt_541, vt_542, vt_19, vt_543, by decide, by decide, by decide +kernel⟩
theorem kw_Fam_100 : kWv "FamilyKernel$Families" 100 "FamilyKernel$Terms" y_Terms_left b_Terms_left 2 (some .int) 1 := ⟨vt_988, vt_633, vt_634, vt_19, vt_635, by decide, by decide, by decide +kernel⟩
theorem kw_Fam_106 : kWv "FamilyKernel$Families" 106 "FamilyKernel$Environment" y_Env_fix b_Env_fix 4 none 3 := ⟨vt_990, vt_484, vt_485, vt_26, vt_486, by decide, by decide, by decide +kernel⟩
theorem kw_Fam_110 : kWv "FamilyKernel$Families" 110 "FamilyKernel$Environment" y_Env_fact b_Env_fact 3 (some .int) 2 := ⟨vt_991, vt_459, vt_460, vt_26, vt_461, by decide, by decide, by decide +kernel⟩
theorem kw_Fam_114 : kWv "FamilyKernel$Families" 114 "FamilyKernel$Families" y_Fam_sortOf b_Fam_sortOf 3 none 2 := ⟨vt_992, vt_993, vt_994, vt_68, vt_995, by decide, by decide, by decide +kernel⟩
theorem kw_Fam_94 : kWv "FamilyKernel$Families" 94 "FamilyKernel$Meter" y_Meter_fail b_Meter_fail 2 none 1 := ⟨vt_987, vt_406, vt_407, vt_13, vt_408, by decide, by decide, by decide +kernel⟩
theorem kw_Fam_91 : kWv "FamilyKernel$Families" 91 "FamilyKernel$Terms" y_Terms_right b_Terms_right 2 (some .int) 1 := ⟨vt_986, vt_626, vt_627, vt_19, vt_628, by decide, by decide, by decide +kernel⟩
def f_Fam_family_j213 (N : Nat)  (t0 : Int32) (t1 : Int32) (t2 : Int32) (γ : kS) : Option (kO × kS) := kBv (f_Fam_sortOf N 33 (f_Env_fact ((f_Env_fix t2 t1 t0 γ).1 25) 1 (f_Env_fix t2 t1 t0 γ)) (f_Env_fix t2 t1 t0 γ)) fun α4 => (some (some none, α4))
def f_Fam_family_j208 (N : Nat)  (t0 : Int32) (t1 : Int32) (γ : kS) : Option (kO × kS) := f_Fam_family_j213 N 1 t0 t1 γ
def f_Fam_family_j124 (N : Nat)  (y1 : Int32) (γ : kS) : Option (kO × kS) := if ((f_Env_fix ((f_Env_fix ((f_Env_fix (γ.1 25) 3 (γ.1 26) (kSi γ 29 (f_Terms_left y1 γ))).1 25) 4 ((f_Env_fix (γ.1 25) 3 (γ.1 26) (kSi γ 29 (f_Terms_left y1 γ))).1 27) (f_Env_fix (γ.1 25) 3 (γ.1 26) (kSi γ 29 (f_Terms_left y1 γ)))).1 25) 5 ((f_Env_fix ((f_Env_fix (γ.1 25) 3 (γ.1 26) (kSi γ 29 (f_Terms_left y1 γ))).1 25) 4 ((f_Env_fix (γ.1 25) 3 (γ.1 26) (kSi γ 29 (f_Terms_left y1 γ))).1 27) (f_Env_fix (γ.1 25) 3 (γ.1 26) (kSi γ 29 (f_Terms_left y1 γ)))).1 28) (f_Env_fix ((f_Env_fix (γ.1 25) 3 (γ.1 26) (kSi γ 29 (f_Terms_left y1 γ))).1 25) 4 ((f_Env_fix (γ.1 25) 3 (γ.1 26) (kSi γ 29 (f_Terms_left y1 γ))).1 27) (f_Env_fix (γ.1 25) 3 (γ.1 26) (kSi γ 29 (f_Terms_left y1 γ))))).1 29) = 0 then (if ((f_Env_fix ((f_Env_fix ((f_Env_fix (γ.1 25) 3 (γ.1 26) (kSi γ 29 (f_Terms_left y1 γ))).1 25) 4 ((f_Env_fix (γ.1 25) 3 (γ.1 26) (kSi γ 29 (f_Terms_left y1 γ))).1 27) (f_Env_fix (γ.1 25) 3 (γ.1 26) (kSi γ 29 (f_Terms_left y1 γ)))).1 25) 5 ((f_Env_fix ((f_Env_fix (γ.1 25) 3 (γ.1 26) (kSi γ 29 (f_Terms_left y1 γ))).1 25) 4 ((f_Env_fix (γ.1 25) 3 (γ.1 26) (kSi γ 29 (f_Terms_left y1 γ))).1 27) (f_Env_fix (γ.1 25) 3 (γ.1 26) (kSi γ 29 (f_Terms_left y1 γ)))).1 28) (f_Env_fix ((f_Env_fix (γ.1 25) 3 (γ.1 26) (kSi γ 29 (f_Terms_left y1 γ))).1 25) 4 ((f_Env_fix (γ.1 25) 3 (γ.1 26) (kSi γ 29 (f_Terms_left y1 γ))).1 27) (f_Env_fix (γ.1 25) 3 (γ.1 26) (kSi γ 29 (f_Terms_left y1 γ))))).1 28) = 0 then (f_Fam_family_j208 N 9 ((f_Env_fix ((f_Env_fix ((f_Env_fix (γ.1 25) 3 (γ.1 26) (kSi γ 29 (f_Terms_left y1 γ))).1 25) 4 ((f_Env_fix (γ.1 25) 3 (γ.1 26) (kSi γ 29 (f_Terms_left y1 γ))).1 27) (f_Env_fix (γ.1 25) 3 (γ.1 26) (kSi γ 29 (f_Terms_left y1 γ)))).1 25) 5 ((f_Env_fix ((f_Env_fix (γ.1 25) 3 (γ.1 26) (kSi γ 29 (f_Terms_left y1 γ))).1 25) 4 ((f_Env_fix (γ.1 25) 3 (γ.1 26) (kSi γ 29 (f_Terms_left y1 γ))).1 27) (f_Env_fix (γ.1 25) 3 (γ.1 26) (kSi γ 29 (f_Terms_left y1 γ)))).1 28) (f_Env_fix ((f_Env_fix (γ.1 25) 3 (γ.1 26) (kSi γ 29 (f_Terms_left y1 γ))).1 25) 4 ((f_Env_fix (γ.1 25) 3 (γ.1 26) (kSi γ 29 (f_Terms_left y1 γ))).1 27) (f_Env_fix (γ.1 25) 3 (γ.1 26) (kSi γ 29 (f_Terms_left y1 γ))))).1 25) (f_Env_fix ((f_Env_fix ((f_Env_fix (γ.1 25) 3 (γ.1 26) (kSi γ 29 (f_Terms_left y1 γ))).1 25) 4 ((f_Env_fix (γ.1 25) 3 (γ.1 26) (kSi γ 29 (f_Terms_left y1 γ))).1 27) (f_Env_fix (γ.1 25) 3 (γ.1 26) (kSi γ 29 (f_Terms_left y1 γ)))).1 25) 5 ((f_Env_fix ((f_Env_fix (γ.1 25) 3 (γ.1 26) (kSi γ 29 (f_Terms_left y1 γ))).1 25) 4 ((f_Env_fix (γ.1 25) 3 (γ.1 26) (kSi γ 29 (f_Terms_left y1 γ))).1 27) (f_Env_fix (γ.1 25) 3 (γ.1 26) (kSi γ 29 (f_Terms_left y1 γ)))).1 28) (f_Env_fix ((f_Env_fix (γ.1 25) 3 (γ.1 26) (kSi γ 29 (f_Terms_left y1 γ))).1 25) 4 ((f_Env_fix (γ.1 25) 3 (γ.1 26) (kSi γ 29 (f_Terms_left y1 γ))).1 27) (f_Env_fix (γ.1 25) 3 (γ.1 26) (kSi γ 29 (f_Terms_left y1 γ)))))) else (f_Fam_family_j213 N 0 9 ((f_Env_fix ((f_Env_fix ((f_Env_fix (γ.1 25) 3 (γ.1 26) (kSi γ 29 (f_Terms_left y1 γ))).1 25) 4 ((f_Env_fix (γ.1 25) 3 (γ.1 26) (kSi γ 29 (f_Terms_left y1 γ))).1 27) (f_Env_fix (γ.1 25) 3 (γ.1 26) (kSi γ 29 (f_Terms_left y1 γ)))).1 25) 5 ((f_Env_fix ((f_Env_fix (γ.1 25) 3 (γ.1 26) (kSi γ 29 (f_Terms_left y1 γ))).1 25) 4 ((f_Env_fix (γ.1 25) 3 (γ.1 26) (kSi γ 29 (f_Terms_left y1 γ))).1 27) (f_Env_fix (γ.1 25) 3 (γ.1 26) (kSi γ 29 (f_Terms_left y1 γ)))).1 28) (f_Env_fix ((f_Env_fix (γ.1 25) 3 (γ.1 26) (kSi γ 29 (f_Terms_left y1 γ))).1 25) 4 ((f_Env_fix (γ.1 25) 3 (γ.1 26) (kSi γ 29 (f_Terms_left y1 γ))).1 27) (f_Env_fix (γ.1 25) 3 (γ.1 26) (kSi γ 29 (f_Terms_left y1 γ))))).1 25) (f_Env_fix ((f_Env_fix ((f_Env_fix (γ.1 25) 3 (γ.1 26) (kSi γ 29 (f_Terms_left y1 γ))).1 25) 4 ((f_Env_fix (γ.1 25) 3 (γ.1 26) (kSi γ 29 (f_Terms_left y1 γ))).1 27) (f_Env_fix (γ.1 25) 3 (γ.1 26) (kSi γ 29 (f_Terms_left y1 γ)))).1 25) 5 ((f_Env_fix ((f_Env_fix (γ.1 25) 3 (γ.1 26) (kSi γ 29 (f_Terms_left y1 γ))).1 25) 4 ((f_Env_fix (γ.1 25) 3 (γ.1 26) (kSi γ 29 (f_Terms_left y1 γ))).1 27) (f_Env_fix (γ.1 25) 3 (γ.1 26) (kSi γ 29 (f_Terms_left y1 γ)))).1 28) (f_Env_fix ((f_Env_fix (γ.1 25) 3 (γ.1 26) (kSi γ 29 (f_Terms_left y1 γ))).1 25) 4 ((f_Env_fix (γ.1 25) 3 (γ.1 26) (kSi γ 29 (f_Terms_left y1 γ))).1 27) (f_Env_fix (γ.1 25) 3 (γ.1 26) (kSi γ 29 (f_Terms_left y1 γ))))))) else (f_Fam_family_j208 N 9 ((f_Env_fix ((f_Env_fix ((f_Env_fix (γ.1 25) 3 (γ.1 26) (kSi γ 29 (f_Terms_left y1 γ))).1 25) 4 ((f_Env_fix (γ.1 25) 3 (γ.1 26) (kSi γ 29 (f_Terms_left y1 γ))).1 27) (f_Env_fix (γ.1 25) 3 (γ.1 26) (kSi γ 29 (f_Terms_left y1 γ)))).1 25) 5 ((f_Env_fix ((f_Env_fix (γ.1 25) 3 (γ.1 26) (kSi γ 29 (f_Terms_left y1 γ))).1 25) 4 ((f_Env_fix (γ.1 25) 3 (γ.1 26) (kSi γ 29 (f_Terms_left y1 γ))).1 27) (f_Env_fix (γ.1 25) 3 (γ.1 26) (kSi γ 29 (f_Terms_left y1 γ)))).1 28) (f_Env_fix ((f_Env_fix (γ.1 25) 3 (γ.1 26) (kSi γ 29 (f_Terms_left y1 γ))).1 25) 4 ((f_Env_fix (γ.1 25) 3 (γ.1 26) (kSi γ 29 (f_Terms_left y1 γ))).1 27) (f_Env_fix (γ.1 25) 3 (γ.1 26) (kSi γ 29 (f_Terms_left y1 γ))))).1 25) (f_Env_fix ((f_Env_fix ((f_Env_fix (γ.1 25) 3 (γ.1 26) (kSi γ 29 (f_Terms_left y1 γ))).1 25) 4 ((f_Env_fix (γ.1 25) 3 (γ.1 26) (kSi γ 29 (f_Terms_left y1 γ))).1 27) (f_Env_fix (γ.1 25) 3 (γ.1 26) (kSi γ 29 (f_Terms_left y1 γ)))).1 25) 5 ((f_Env_fix ((f_Env_fix (γ.1 25) 3 (γ.1 26) (kSi γ 29 (f_Terms_left y1 γ))).1 25) 4 ((f_Env_fix (γ.1 25) 3 (γ.1 26) (kSi γ 29 (f_Terms_left y1 γ))).1 27) (f_Env_fix (γ.1 25) 3 (γ.1 26) (kSi γ 29 (f_Terms_left y1 γ)))).1 28) (f_Env_fix ((f_Env_fix (γ.1 25) 3 (γ.1 26) (kSi γ 29 (f_Terms_left y1 γ))).1 25) 4 ((f_Env_fix (γ.1 25) 3 (γ.1 26) (kSi γ 29 (f_Terms_left y1 γ))).1 27) (f_Env_fix (γ.1 25) 3 (γ.1 26) (kSi γ 29 (f_Terms_left y1 γ))))))
def f_Fam_family_j103 (N : Nat)  (y1 : Int32) (γ : kS) : Option (kO × kS) := if (f_Terms_kind y1 γ) = 2 then (f_Fam_family_j124 N y1 γ) else (kBv (f_Meter_fail N 8 γ) fun α7 => (f_Fam_family_j124 N y1 α7))
def f_Fam_family_58 (N : Nat)  : Nat → Int32 → kS → Option (kO × kS)
  | 0, _, _ => none
  | n + 1, x1, β => if 3000 ≤ (β.1 27) then (f_Fam_family_j103 N x1 β) else (if (f_Terms_kind x1 β) = 6 then (f_Fam_family_58 N n (f_Terms_right x1 β) (kSi β 27 ((β.1 27) + 1))) else (f_Fam_family_j103 N x1 β))
def f_Fam_family (N : Nat)  (α : kS) : Option (kO × kS) := f_Fam_family_58 N N (f_Par_type (kSi (kSi (kSi (kSi (kSi α 25 (f_Par_declared α)) 26 (f_Par_parameters (kSi α 25 (f_Par_declared α)))) 28 (((f_Env_length (kSi (kSi α 25 (f_Par_declared α)) 26 (f_Par_parameters (kSi α 25 (f_Par_declared α))))) - (f_Par_declared α)) - 1)) 27 0) 31 0)) (kSi (kSi (kSi (kSi (kSi α 25 (f_Par_declared α)) 26 (f_Par_parameters (kSi α 25 (f_Par_declared α)))) 28 (((f_Env_length (kSi (kSi α 25 (f_Par_declared α)) 26 (f_Par_parameters (kSi α 25 (f_Par_declared α))))) - (f_Par_declared α)) - 1)) 27 0) 31 0)
set_option maxHeartbeats 4000000 in
set_option maxRecDepth 100000 in
theorem k_Fam_family {l : Launch} {g : kG} {α : kS} (hfl : kFl l) (N : Nat)   : ∀ x, f_Fam_family N α = some x → kC l g y_Fam_family b_Fam_family 2 none 33 967 [.ref (kad g 9)] α (kQr x) := by
  intro x h
  unfold f_Fam_family at h
  refine kc_ofW (by decide) (fun A ad0 p e s m args below meth c S hr hlocks hno hadm hargs E hI => ?_)
  have hx := S.1
  have hb := S.2.1
  have hown := S.2.2.2.1
  have hT := S.2.2.2.2
  subst hargs
  have hl := lv_entry ([.ref (kad g 9)]) (n := 2) (Nat.le_of_ble_eq_true rfl)
  rw [lg_entry_eq]
  generalize (lg_sl ([.ref (kad g 9)]) ++ List.replicate (2 - (lg_sl ([.ref (kad g 9)])).length) Slot.unset).toArray = ls at hl ⊢
  have hl : lv_has ls 2 [(0, .ref (kad g 9))] := hl
  refine lv_aload_n hx hb d_Fam_family_0 rfl (lv_at hl 0 rfl) ?_
  refine lv_aload_n hx hb d_Fam_family_1 rfl (lv_at hl 0 rfl) ?_
  refine kf_Fam_parser S E hI.1 vt_151 d_Fam_family_2 ?_
  refine kg_p (As := []) (rest := [.ref (kad g 9)]) (k_Par_declared (l := l) (g := g) (α := α) ) S E hI.1 kw_Fam_53 ⟨Nat.le_of_ble_eq_true rfl, Nat.le_of_ble_eq_true rfl⟩ hI.room (kv_Par E hI.1) rfl hl.1 rfl (Nat.le_of_ble_eq_true rfl) d_Fam_family_5 rfl ?_
  refine kp_Fam_family S E hI vt_974 d_Fam_family_8 (fun H locs hI => ?_)
  refine lv_aload_n hx hb d_Fam_family_11 rfl (lv_at hl 0 rfl) ?_
  refine lv_aload_n hx hb d_Fam_family_12 rfl (lv_at hl 0 rfl) ?_
  refine kf_Fam_parser S E hI.1 vt_151 d_Fam_family_13 ?_
  refine kg_p (As := []) (rest := [.ref (kad g 9)]) (k_Par_parameters (l := l) (g := g) (α := (kSi α 25 (f_Par_declared α))) ) S E hI.1 kw_Fam_63 ⟨Nat.le_of_ble_eq_true rfl, Nat.le_of_ble_eq_true rfl⟩ hI.room (kv_Par E hI.1) rfl hl.1 rfl (Nat.le_of_ble_eq_true rfl) d_Fam_family_16 rfl ?_
  refine kp_Fam_parameters S E hI vt_979 d_Fam_family_19 (fun H locs hI => ?_)
  refine lv_aload_n hx hb d_Fam_family_22 rfl (lv_at hl 0 rfl) ?_
  refine lv_aload_n hx hb d_Fam_family_23 rfl (lv_at hl 0 rfl) ?_
  refine kf_Fam_environment S E hI.1 vt_150 d_Fam_family_24 ?_
  refine kg_p (As := []) (rest := [.ref (kad g 9)]) (k_Env_length (l := l) (g := g) (α := (kSi (kSi α 25 (f_Par_declared α)) 26 (f_Par_parameters (kSi α 25 (f_Par_declared α))))) ) S E hI.1 kw_Fam_68 ⟨Nat.le_of_ble_eq_true rfl, Nat.le_of_ble_eq_true rfl⟩ hI.room (kv_Env E hI.1) rfl hl.1 rfl (Nat.le_of_ble_eq_true rfl) d_Fam_family_27 rfl ?_
  refine lv_aload_n hx hb d_Fam_family_30 rfl (lv_at hl 0 rfl) ?_
  refine kf_Fam_family S E hI.1 vt_974 d_Fam_family_31 ?_
  refine lv_isub hx hb d_Fam_family_34 ?_
  refine lv_iconst (v := 1) hx hb d_Fam_family_35 (by decide) ?_
  refine lv_isub hx hb d_Fam_family_36 ?_
  refine kp_Fam_members S E hI vt_981 d_Fam_family_37 (fun H locs hI => ?_)
  refine lv_aload_n hx hb d_Fam_family_40 rfl (lv_at hl 0 rfl) ?_
  refine lv_iconst (v := 0) hx hb d_Fam_family_41 (by decide) ?_
  refine kp_Fam_indices S E hI vt_982 d_Fam_family_42 (fun H locs hI => ?_)
  refine lv_aload_n hx hb d_Fam_family_45 rfl (lv_at hl 0 rfl) ?_
  refine lv_iconst (v := 0) hx hb d_Fam_family_46 (by decide) ?_
  refine kp_Fam_at S E hI vt_983 d_Fam_family_47 (fun H locs hI => ?_)
  refine lv_aload_n hx hb d_Fam_family_50 rfl (lv_at hl 0 rfl) ?_
  refine kf_Fam_parser S E hI.1 vt_151 d_Fam_family_51 ?_
  refine kg_p (As := []) (rest := []) (k_Par_type (l := l) (g := g) (α := (kSi (kSi (kSi (kSi (kSi α 25 (f_Par_declared α)) 26 (f_Par_parameters (kSi α 25 (f_Par_declared α)))) 28 (((f_Env_length (kSi (kSi α 25 (f_Par_declared α)) 26 (f_Par_parameters (kSi α 25 (f_Par_declared α))))) - (f_Par_declared α)) - 1)) 27 0) 31 0)) ) S E hI.1 kw_Fam_82 ⟨Nat.le_of_ble_eq_true rfl, Nat.le_of_ble_eq_true rfl⟩ hI.room (kv_Par E hI.1) rfl hl.1 rfl (Nat.le_of_ble_eq_true rfl) d_Fam_family_54 rfl ?_
  refine lv_istore_n (lv' := [(1, .int (f_Par_type (kSi (kSi (kSi (kSi (kSi α 25 (f_Par_declared α)) 26 (f_Par_parameters (kSi α 25 (f_Par_declared α)))) 28 (((f_Env_length (kSi (kSi α 25 (f_Par_declared α)) 26 (f_Par_parameters (kSi α 25 (f_Par_declared α))))) - (f_Par_declared α)) - 1)) 27 0) 31 0))), (0, .ref (kad g 9))]) hx hb d_Fam_family_57 rfl hl (by decide) rfl (fun ls hl => ?_)
  have L58 : ∀ (n58 : Nat) (x1 : Int32) (β : kS) (ad : Nat → Nat) (H : Heap) (locs : List Loc) (cells slots : Nat) (ls : Array Slot), f_Fam_family_58 N n58 x1 β = some x → kI g A s α ad0 β ad H locs cells slots → lv_has ls 2 [(1, .int x1), (0, .ref (kad g 9))] → W p l e (kR 33 967 α) s m ([.ref (kad g 9)]).toArray below meth c H locs cells slots (vEQ below (kQ g A α ad0 (kQr x)) ([.ref (kad g 9)]).toArray s A) (F0 m 58 ls []) := by
    intro n58
    induction n58 with
    | zero => intro x1 β ad H locs cells slots ls h hI hl; rw [f_Fam_family_58] at h; cases h
    | succ n58 ih58 =>
      intro x1 β ad H locs cells slots ls h hI hl
      rw [f_Fam_family_58] at h
      have J213 : ∀ (t0 : Int32) (t1 : Int32) (t2 : Int32) (γ : kS) (ad : Nat → Nat) (H : Heap) (locs : List Loc) (cells slots : Nat) (ls : Array Slot), f_Fam_family_j213 N t0 t1 t2 γ = some x → kI g A s α ad0 γ ad H locs cells slots → lv_has ls 2 [(0, .ref (kad g 9))] → W p l e (kR 33 967 α) s m ([.ref (kad g 9)]).toArray below meth c H locs cells slots (vEQ below (kQ g A α ad0 (kQr x)) ([.ref (kad g 9)]).toArray s A) (F0 m 213 ls [.int t0, .int t1, .int t2, .ref (kad g 3)]) := by
        intro t0 t1 t2 γ ad H locs cells slots ls h hI hl
        unfold f_Fam_family_j213 at h
        refine kg_tV (As := [.int t2, .int t1, .int t0]) (rest := []) (k_Env_fix (l := l) (g := g) (α := γ) t2 t1 t0) S hlocks hno E hI kw_Fam_106 ⟨Nat.le_of_ble_eq_true rfl, Nat.le_of_ble_eq_true rfl⟩ (kv_Env E hI.1) rfl hl.1 rfl (Nat.le_of_ble_eq_true rfl) d_Fam_family_213 (fun ad H locs cells slots hRm hI => ?_)
        refine lv_aload_n hx hb d_Fam_family_216 rfl (lv_at hl 0 rfl) ?_
        refine lv_bipush (v := 33) hx hb d_Fam_family_217 (by decide) ?_
        refine lv_aload_n hx hb d_Fam_family_219 rfl (lv_at hl 0 rfl) ?_
        refine kf_Fam_environment S E hI.1 vt_150 d_Fam_family_220 ?_
        refine lv_aload_n hx hb d_Fam_family_223 rfl (lv_at hl 0 rfl) ?_
        refine kf_Fam_family S E hI.1 vt_974 d_Fam_family_224 ?_
        refine lv_iconst (v := 1) hx hb d_Fam_family_227 (by decide) ?_
        refine kg_p (As := [.int ((f_Env_fix t2 t1 t0 γ).1 25), .int 1]) (rest := [.int 33, .ref (kad g 9)]) (k_Env_fact (l := l) (g := g) (α := (f_Env_fix t2 t1 t0 γ)) ((f_Env_fix t2 t1 t0 γ).1 25) 1) S E hI.1 kw_Fam_110 ⟨Nat.le_of_ble_eq_true rfl, Nat.le_of_ble_eq_true rfl⟩ hI.room (kv_Env E hI.1) rfl hl.1 rfl (Nat.le_of_ble_eq_true rfl) d_Fam_family_228 rfl ?_
        refine kg_cV (As := [.int 33, .int (f_Env_fact ((f_Env_fix t2 t1 t0 γ).1 25) 1 (f_Env_fix t2 t1 t0 γ))]) (rest := []) h (k_Fam_sortOf (l := l) (g := g) (α := (f_Env_fix t2 t1 t0 γ)) hfl N 33 (f_Env_fact ((f_Env_fix t2 t1 t0 γ).1 25) 1 (f_Env_fix t2 t1 t0 γ))) S hlocks hno E hI kw_Fam_114 ⟨Nat.le_of_ble_eq_true rfl, Nat.le_of_ble_eq_true rfl⟩ (kv_Fam E hI.1) rfl hl.1 rfl (Nat.le_of_ble_eq_true rfl) d_Fam_family_231 (fun α4 ad H locs cells slots e5 h hRm hI => ?_)
        exact kc_vret hx hb hr hlocks E hI h d_Fam_family_234
      have J208 : ∀ (t0 : Int32) (t1 : Int32) (γ : kS) (ad : Nat → Nat) (H : Heap) (locs : List Loc) (cells slots : Nat) (ls : Array Slot), f_Fam_family_j208 N t0 t1 γ = some x → kI g A s α ad0 γ ad H locs cells slots → lv_has ls 2 [(0, .ref (kad g 9))] → W p l e (kR 33 967 α) s m ([.ref (kad g 9)]).toArray below meth c H locs cells slots (vEQ below (kQ g A α ad0 (kQr x)) ([.ref (kad g 9)]).toArray s A) (F0 m 208 ls [.int t0, .int t1, .ref (kad g 3)]) := by
        intro t0 t1 γ ad H locs cells slots ls h hI hl
        unfold f_Fam_family_j208 at h
        refine lv_iconst (v := 1) hx hb d_Fam_family_208 (by decide) ?_
        refine lv_goto (tgt := 213) hx hb d_Fam_family_209 (by decide) ?_
        exact J213 1 t0 t1 _ _ _ _ _ _ _ h hI (lv_sub hl [0] rfl)
      have J124 : ∀ (y1 : Int32) (γ : kS) (ad : Nat → Nat) (H : Heap) (locs : List Loc) (cells slots : Nat) (ls : Array Slot), f_Fam_family_j124 N y1 γ = some x → kI g A s α ad0 γ ad H locs cells slots → lv_has ls 2 [(1, .int y1), (0, .ref (kad g 9))] → W p l e (kR 33 967 α) s m ([.ref (kad g 9)]).toArray below meth c H locs cells slots (vEQ below (kQ g A α ad0 (kQr x)) ([.ref (kad g 9)]).toArray s A) (F0 m 124 ls []) := by
        intro y1 γ ad H locs cells slots ls h hI hl
        unfold f_Fam_family_j124 at h
        refine lv_aload_n hx hb d_Fam_family_124 rfl (lv_at hl 1 rfl) ?_
        refine lv_aload_n hx hb d_Fam_family_125 rfl (lv_at hl 1 rfl) ?_
        refine kf_Fam_terms S E hI.1 vt_149 d_Fam_family_126 ?_
        refine lv_iload_n hx hb d_Fam_family_129 rfl (lv_at hl 0 rfl) ?_
        refine kg_p (As := [.int y1]) (rest := [.ref (kad g 9)]) (k_Terms_left (l := l) (g := g) (α := γ) y1) S E hI.1 kw_Fam_100 ⟨Nat.le_of_ble_eq_true rfl, Nat.le_of_ble_eq_true rfl⟩ hI.room (kv_Terms E hI.1) rfl hl.1 rfl (Nat.le_of_ble_eq_true rfl) d_Fam_family_130 rfl ?_
        refine kp_Fam_sort S E hI vt_989 d_Fam_family_133 (fun H locs hI => ?_)
        refine lv_aload_n hx hb d_Fam_family_136 rfl (lv_at hl 1 rfl) ?_
        refine kf_Fam_environment S E hI.1 vt_150 d_Fam_family_137 ?_
        refine lv_aload_n hx hb d_Fam_family_140 rfl (lv_at hl 1 rfl) ?_
        refine kf_Fam_family S E hI.1 vt_974 d_Fam_family_141 ?_
        refine lv_iconst (v := 3) hx hb d_Fam_family_144 (by decide) ?_
        refine lv_aload_n hx hb d_Fam_family_145 rfl (lv_at hl 1 rfl) ?_
        refine kf_Fam_parameters S E hI.1 vt_979 d_Fam_family_146 ?_
        refine kg_tV (As := [.int (γ.1 25), .int 3, .int (γ.1 26)]) (rest := []) (k_Env_fix (l := l) (g := g) (α := (kSi γ 29 (f_Terms_left y1 γ))) (γ.1 25) 3 (γ.1 26)) S hlocks hno E hI kw_Fam_106 ⟨Nat.le_of_ble_eq_true rfl, Nat.le_of_ble_eq_true rfl⟩ (kv_Env E hI.1) rfl hl.1 rfl (Nat.le_of_ble_eq_true rfl) d_Fam_family_149 (fun ad H locs cells slots hRm hI => ?_)
        refine lv_aload_n hx hb d_Fam_family_152 rfl (lv_at hl 1 rfl) ?_
        refine kf_Fam_environment S E hI.1 vt_150 d_Fam_family_153 ?_
        refine lv_aload_n hx hb d_Fam_family_156 rfl (lv_at hl 1 rfl) ?_
        refine kf_Fam_family S E hI.1 vt_974 d_Fam_family_157 ?_
        refine lv_iconst (v := 4) hx hb d_Fam_family_160 (by decide) ?_
        refine lv_aload_n hx hb d_Fam_family_161 rfl (lv_at hl 1 rfl) ?_
        refine kf_Fam_indices S E hI.1 vt_982 d_Fam_family_162 ?_
        refine kg_tV (As := [.int ((f_Env_fix (γ.1 25) 3 (γ.1 26) (kSi γ 29 (f_Terms_left y1 γ))).1 25), .int 4, .int ((f_Env_fix (γ.1 25) 3 (γ.1 26) (kSi γ 29 (f_Terms_left y1 γ))).1 27)]) (rest := []) (k_Env_fix (l := l) (g := g) (α := (f_Env_fix (γ.1 25) 3 (γ.1 26) (kSi γ 29 (f_Terms_left y1 γ)))) ((f_Env_fix (γ.1 25) 3 (γ.1 26) (kSi γ 29 (f_Terms_left y1 γ))).1 25) 4 ((f_Env_fix (γ.1 25) 3 (γ.1 26) (kSi γ 29 (f_Terms_left y1 γ))).1 27)) S hlocks hno E hI kw_Fam_106 ⟨Nat.le_of_ble_eq_true rfl, Nat.le_of_ble_eq_true rfl⟩ (kv_Env E hI.1) rfl hl.1 rfl (Nat.le_of_ble_eq_true rfl) d_Fam_family_165 (fun ad H locs cells slots hRm hI => ?_)
        refine lv_aload_n hx hb d_Fam_family_168 rfl (lv_at hl 1 rfl) ?_
        refine kf_Fam_environment S E hI.1 vt_150 d_Fam_family_169 ?_
        refine lv_aload_n hx hb d_Fam_family_172 rfl (lv_at hl 1 rfl) ?_
        refine kf_Fam_family S E hI.1 vt_974 d_Fam_family_173 ?_
        refine lv_iconst (v := 5) hx hb d_Fam_family_176 (by decide) ?_
        refine lv_aload_n hx hb d_Fam_family_177 rfl (lv_at hl 1 rfl) ?_
        refine kf_Fam_members S E hI.1 vt_981 d_Fam_family_178 ?_
        refine kg_tV (As := [.int ((f_Env_fix ((f_Env_fix (γ.1 25) 3 (γ.1 26) (kSi γ 29 (f_Terms_left y1 γ))).1 25) 4 ((f_Env_fix (γ.1 25) 3 (γ.1 26) (kSi γ 29 (f_Terms_left y1 γ))).1 27) (f_Env_fix (γ.1 25) 3 (γ.1 26) (kSi γ 29 (f_Terms_left y1 γ)))).1 25), .int 5, .int ((f_Env_fix ((f_Env_fix (γ.1 25) 3 (γ.1 26) (kSi γ 29 (f_Terms_left y1 γ))).1 25) 4 ((f_Env_fix (γ.1 25) 3 (γ.1 26) (kSi γ 29 (f_Terms_left y1 γ))).1 27) (f_Env_fix (γ.1 25) 3 (γ.1 26) (kSi γ 29 (f_Terms_left y1 γ)))).1 28)]) (rest := []) (k_Env_fix (l := l) (g := g) (α := (f_Env_fix ((f_Env_fix (γ.1 25) 3 (γ.1 26) (kSi γ 29 (f_Terms_left y1 γ))).1 25) 4 ((f_Env_fix (γ.1 25) 3 (γ.1 26) (kSi γ 29 (f_Terms_left y1 γ))).1 27) (f_Env_fix (γ.1 25) 3 (γ.1 26) (kSi γ 29 (f_Terms_left y1 γ))))) ((f_Env_fix ((f_Env_fix (γ.1 25) 3 (γ.1 26) (kSi γ 29 (f_Terms_left y1 γ))).1 25) 4 ((f_Env_fix (γ.1 25) 3 (γ.1 26) (kSi γ 29 (f_Terms_left y1 γ))).1 27) (f_Env_fix (γ.1 25) 3 (γ.1 26) (kSi γ 29 (f_Terms_left y1 γ)))).1 25) 5 ((f_Env_fix ((f_Env_fix (γ.1 25) 3 (γ.1 26) (kSi γ 29 (f_Terms_left y1 γ))).1 25) 4 ((f_Env_fix (γ.1 25) 3 (γ.1 26) (kSi γ 29 (f_Terms_left y1 γ))).1 27) (f_Env_fix (γ.1 25) 3 (γ.1 26) (kSi γ 29 (f_Terms_left y1 γ)))).1 28)) S hlocks hno E hI kw_Fam_106 ⟨Nat.le_of_ble_eq_true rfl, Nat.le_of_ble_eq_true rfl⟩ (kv_Env E hI.1) rfl hl.1 rfl (Nat.le_of_ble_eq_true rfl) d_Fam_family_181 (fun ad H locs cells slots hRm hI => ?_)
        refine lv_aload_n hx hb d_Fam_family_184 rfl (lv_at hl 1 rfl) ?_
        refine kf_Fam_environment S E hI.1 vt_150 d_Fam_family_185 ?_
        refine lv_aload_n hx hb d_Fam_family_188 rfl (lv_at hl 1 rfl) ?_
        refine kf_Fam_family S E hI.1 vt_974 d_Fam_family_189 ?_
        refine lv_bipush (v := 9) hx hb d_Fam_family_192 (by decide) ?_
        refine lv_aload_n hx hb d_Fam_family_194 rfl (lv_at hl 1 rfl) ?_
        refine kf_Fam_sort S E hI.1 vt_989 d_Fam_family_195 ?_
        refine lv_if_ne (tgt := 208) hx hb d_Fam_family_198 (by decide) (fun c3 => ?_) (fun c3 => ?_)
        · replace h := Eq.trans (if_neg c3).symm h
          exact J208 9 ((f_Env_fix ((f_Env_fix ((f_Env_fix (γ.1 25) 3 (γ.1 26) (kSi γ 29 (f_Terms_left y1 γ))).1 25) 4 ((f_Env_fix (γ.1 25) 3 (γ.1 26) (kSi γ 29 (f_Terms_left y1 γ))).1 27) (f_Env_fix (γ.1 25) 3 (γ.1 26) (kSi γ 29 (f_Terms_left y1 γ)))).1 25) 5 ((f_Env_fix ((f_Env_fix (γ.1 25) 3 (γ.1 26) (kSi γ 29 (f_Terms_left y1 γ))).1 25) 4 ((f_Env_fix (γ.1 25) 3 (γ.1 26) (kSi γ 29 (f_Terms_left y1 γ))).1 27) (f_Env_fix (γ.1 25) 3 (γ.1 26) (kSi γ 29 (f_Terms_left y1 γ)))).1 28) (f_Env_fix ((f_Env_fix (γ.1 25) 3 (γ.1 26) (kSi γ 29 (f_Terms_left y1 γ))).1 25) 4 ((f_Env_fix (γ.1 25) 3 (γ.1 26) (kSi γ 29 (f_Terms_left y1 γ))).1 27) (f_Env_fix (γ.1 25) 3 (γ.1 26) (kSi γ 29 (f_Terms_left y1 γ))))).1 25) _ _ _ _ _ _ _ h hI (lv_sub hl [1] rfl)
        · replace h := Eq.trans (if_pos c3).symm h
          refine lv_aload_n hx hb d_Fam_family_201 rfl (lv_at hl 1 rfl) ?_
          refine kf_Fam_members S E hI.1 vt_981 d_Fam_family_202 ?_
          refine lv_if_ne (tgt := 212) hx hb d_Fam_family_205 (by decide) (fun c6 => ?_) (fun c6 => ?_)
          · replace h := Eq.trans (if_neg c6).symm h
            refine lv_iconst (v := 0) hx hb d_Fam_family_212 (by decide) ?_
            exact J213 0 9 ((f_Env_fix ((f_Env_fix ((f_Env_fix (γ.1 25) 3 (γ.1 26) (kSi γ 29 (f_Terms_left y1 γ))).1 25) 4 ((f_Env_fix (γ.1 25) 3 (γ.1 26) (kSi γ 29 (f_Terms_left y1 γ))).1 27) (f_Env_fix (γ.1 25) 3 (γ.1 26) (kSi γ 29 (f_Terms_left y1 γ)))).1 25) 5 ((f_Env_fix ((f_Env_fix (γ.1 25) 3 (γ.1 26) (kSi γ 29 (f_Terms_left y1 γ))).1 25) 4 ((f_Env_fix (γ.1 25) 3 (γ.1 26) (kSi γ 29 (f_Terms_left y1 γ))).1 27) (f_Env_fix (γ.1 25) 3 (γ.1 26) (kSi γ 29 (f_Terms_left y1 γ)))).1 28) (f_Env_fix ((f_Env_fix (γ.1 25) 3 (γ.1 26) (kSi γ 29 (f_Terms_left y1 γ))).1 25) 4 ((f_Env_fix (γ.1 25) 3 (γ.1 26) (kSi γ 29 (f_Terms_left y1 γ))).1 27) (f_Env_fix (γ.1 25) 3 (γ.1 26) (kSi γ 29 (f_Terms_left y1 γ))))).1 25) _ _ _ _ _ _ _ h hI (lv_sub hl [1] rfl)
          · replace h := Eq.trans (if_pos c6).symm h
            exact J208 9 ((f_Env_fix ((f_Env_fix ((f_Env_fix (γ.1 25) 3 (γ.1 26) (kSi γ 29 (f_Terms_left y1 γ))).1 25) 4 ((f_Env_fix (γ.1 25) 3 (γ.1 26) (kSi γ 29 (f_Terms_left y1 γ))).1 27) (f_Env_fix (γ.1 25) 3 (γ.1 26) (kSi γ 29 (f_Terms_left y1 γ)))).1 25) 5 ((f_Env_fix ((f_Env_fix (γ.1 25) 3 (γ.1 26) (kSi γ 29 (f_Terms_left y1 γ))).1 25) 4 ((f_Env_fix (γ.1 25) 3 (γ.1 26) (kSi γ 29 (f_Terms_left y1 γ))).1 27) (f_Env_fix (γ.1 25) 3 (γ.1 26) (kSi γ 29 (f_Terms_left y1 γ)))).1 28) (f_Env_fix ((f_Env_fix (γ.1 25) 3 (γ.1 26) (kSi γ 29 (f_Terms_left y1 γ))).1 25) 4 ((f_Env_fix (γ.1 25) 3 (γ.1 26) (kSi γ 29 (f_Terms_left y1 γ))).1 27) (f_Env_fix (γ.1 25) 3 (γ.1 26) (kSi γ 29 (f_Terms_left y1 γ))))).1 25) _ _ _ _ _ _ _ h hI (lv_sub hl [1] rfl)
      have J103 : ∀ (y1 : Int32) (γ : kS) (ad : Nat → Nat) (H : Heap) (locs : List Loc) (cells slots : Nat) (ls : Array Slot), f_Fam_family_j103 N y1 γ = some x → kI g A s α ad0 γ ad H locs cells slots → lv_has ls 2 [(1, .int y1), (0, .ref (kad g 9))] → W p l e (kR 33 967 α) s m ([.ref (kad g 9)]).toArray below meth c H locs cells slots (vEQ below (kQ g A α ad0 (kQr x)) ([.ref (kad g 9)]).toArray s A) (F0 m 103 ls []) := by
        intro y1 γ ad H locs cells slots ls h hI hl
        unfold f_Fam_family_j103 at h
        refine lv_aload_n hx hb d_Fam_family_103 rfl (lv_at hl 1 rfl) ?_
        refine kf_Fam_terms S E hI.1 vt_149 d_Fam_family_104 ?_
        refine lv_iload_n hx hb d_Fam_family_107 rfl (lv_at hl 0 rfl) ?_
        refine kg_p (As := [.int y1]) (rest := []) (k_Terms_kind (l := l) (g := g) (α := γ) y1) S E hI.1 kw_Fam_85 ⟨Nat.le_of_ble_eq_true rfl, Nat.le_of_ble_eq_true rfl⟩ hI.room (kv_Terms E hI.1) rfl hl.1 rfl (Nat.le_of_ble_eq_true rfl) d_Fam_family_108 rfl ?_
        refine lv_iconst (v := 2) hx hb d_Fam_family_111 (by decide) ?_
        refine lv_icmp_eq (tgt := 124) hx hb d_Fam_family_112 (by decide) (fun c2 => ?_) (fun c2 => ?_)
        · replace h := Eq.trans (if_pos c2).symm h
          exact J124 y1 _ _ _ _ _ _ _ h hI (lv_sub hl [0, 1] rfl)
        · replace h := Eq.trans (if_neg c2).symm h
          refine lv_aload_n hx hb d_Fam_family_115 rfl (lv_at hl 1 rfl) ?_
          refine kf_Fam_meter S E hI.1 vt_148 d_Fam_family_116 ?_
          refine lv_bipush (v := 8) hx hb d_Fam_family_119 (by decide) ?_
          refine kg_cV (As := [.int 8]) (rest := []) h (k_Meter_fail (l := l) (g := g) (α := γ) hfl N 8) S hlocks hno E hI kw_Fam_94 ⟨Nat.le_of_ble_eq_true rfl, Nat.le_of_ble_eq_true rfl⟩ (kv_Meter E hI.1) rfl hl.1 rfl (Nat.le_of_ble_eq_true rfl) d_Fam_family_121 (fun α7 ad H locs cells slots e8 h hRm hI => ?_)
          exact J124 y1 _ _ _ _ _ _ _ h hI (lv_sub hl [0, 1] rfl)
      refine lv_aload_n hx hb d_Fam_family_58 rfl (lv_at hl 1 rfl) ?_
      refine kf_Fam_indices S E hI.1 vt_982 d_Fam_family_59 ?_
      refine lv_sipush (v := 3000) hx hb d_Fam_family_62 (by decide) ?_
      refine lv_icmp_ge (tgt := 103) hx hb d_Fam_family_65 (by decide) (fun c1 => ?_) (fun c1 => ?_)
      · replace h := Eq.trans (if_pos c1).symm h
        exact J103 x1 _ _ _ _ _ _ _ h hI (lv_sub hl [0, 1] rfl)
      · replace h := Eq.trans (if_neg c1).symm h
        refine lv_aload_n hx hb d_Fam_family_68 rfl (lv_at hl 1 rfl) ?_
        refine kf_Fam_terms S E hI.1 vt_149 d_Fam_family_69 ?_
        refine lv_iload_n hx hb d_Fam_family_72 rfl (lv_at hl 0 rfl) ?_
        refine kg_p (As := [.int x1]) (rest := []) (k_Terms_kind (l := l) (g := g) (α := β) x1) S E hI.1 kw_Fam_85 ⟨Nat.le_of_ble_eq_true rfl, Nat.le_of_ble_eq_true rfl⟩ hI.room (kv_Terms E hI.1) rfl hl.1 rfl (Nat.le_of_ble_eq_true rfl) d_Fam_family_73 rfl ?_
        refine lv_bipush (v := 6) hx hb d_Fam_family_76 (by decide) ?_
        refine lv_icmp_ne (tgt := 103) hx hb d_Fam_family_78 (by decide) (fun c9 => ?_) (fun c9 => ?_)
        · replace h := Eq.trans (if_neg c9).symm h
          exact J103 x1 _ _ _ _ _ _ _ h hI (lv_sub hl [0, 1] rfl)
        · replace h := Eq.trans (if_pos c9).symm h
          refine lv_aload_n hx hb d_Fam_family_81 rfl (lv_at hl 1 rfl) ?_
          refine kf_Fam_terms S E hI.1 vt_149 d_Fam_family_82 ?_
          refine lv_iload_n hx hb d_Fam_family_85 rfl (lv_at hl 0 rfl) ?_
          refine kg_p (As := [.int x1]) (rest := []) (k_Terms_right (l := l) (g := g) (α := β) x1) S E hI.1 kw_Fam_91 ⟨Nat.le_of_ble_eq_true rfl, Nat.le_of_ble_eq_true rfl⟩ hI.room (kv_Terms E hI.1) rfl hl.1 rfl (Nat.le_of_ble_eq_true rfl) d_Fam_family_86 rfl ?_
          refine lv_istore_n (lv' := [(1, .int (f_Terms_right x1 β)), (0, .ref (kad g 9))]) hx hb d_Fam_family_89 rfl hl (by decide) rfl (fun ls hl => ?_)
          refine lv_aload_n hx hb d_Fam_family_90 rfl (lv_at hl 1 rfl) ?_
          refine lv_dup hx hb d_Fam_family_91 rfl ?_
          refine kf_Fam_indices S E hI.1 vt_982 d_Fam_family_92 ?_
          refine lv_iconst (v := 1) hx hb d_Fam_family_95 (by decide) ?_
          refine lv_iadd hx hb d_Fam_family_96 ?_
          refine kp_Fam_indices S E hI vt_982 d_Fam_family_97 (fun H locs hI => ?_)
          refine lv_goto (tgt := 58) hx hb d_Fam_family_100 (by decide) ?_
          exact ih58 (f_Terms_right x1 β) _ _ _ _ _ _ _ h hI (lv_sub hl [0, 1] rfl)
  exact L58 N (f_Par_type (kSi (kSi (kSi (kSi (kSi α 25 (f_Par_declared α)) 26 (f_Par_parameters (kSi α 25 (f_Par_declared α)))) 28 (((f_Env_length (kSi (kSi α 25 (f_Par_declared α)) 26 (f_Par_parameters (kSi α 25 (f_Par_declared α))))) - (f_Par_declared α)) - 1)) 27 0) 31 0)) _ _ _ _ _ _ _ h hI (lv_sub hl [0, 1] rfl)
def f_Fam_memberTerm (a1 : Int32) (α : kS) : Int32 := (f_Env_fact (((α.1 25) + 1) + a1) 1 α)
set_option maxHeartbeats 4000000 in
set_option maxRecDepth 100000 in
theorem k_Fam_memberTerm {l : Launch} {g : kG} {α : kS} (a1 : Int32)  : kV l g y_Fam_memberTerm b_Fam_memberTerm 2 (some .int) 12 343 [.ref (kad g 9), .int a1] α (f_Fam_memberTerm a1 α) := by
  generalize h : f_Fam_memberTerm a1 α = x
  unfold f_Fam_memberTerm at h
  refine kv_ofW (by decide) (fun A ad p e s m args below meth c S hr hlocks hargs E hJ => ?_)
  have hx := S.1
  have hb := S.2.1
  have hown := S.2.2.2.1
  have hT := S.2.2.2.2
  subst hargs
  have hl := lv_entry ([.ref (kad g 9), .int a1]) (n := 2) (Nat.le_of_ble_eq_true rfl)
  rw [lg_entry_eq]
  generalize (lg_sl ([.ref (kad g 9), .int a1]) ++ List.replicate (2 - (lg_sl ([.ref (kad g 9), .int a1])).length) Slot.unset).toArray = ls at hl ⊢
  have hl : lv_has ls 2 [(0, .ref (kad g 9)), (1, .int a1)] := hl
  refine lv_aload_n hx hb d_Fam_memberTerm_0 rfl (lv_at hl 0 rfl) ?_
  refine kf_Fam_environment S E hJ vt_150 d_Fam_memberTerm_1 ?_
  refine lv_aload_n hx hb d_Fam_memberTerm_4 rfl (lv_at hl 0 rfl) ?_
  refine kf_Fam_family S E hJ vt_974 d_Fam_memberTerm_5 ?_
  refine lv_iconst (v := 1) hx hb d_Fam_memberTerm_8 (by decide) ?_
  refine lv_iadd hx hb d_Fam_memberTerm_9 ?_
  refine lv_iload_n hx hb d_Fam_memberTerm_10 rfl (lv_at hl 1 rfl) ?_
  refine lv_iadd hx hb d_Fam_memberTerm_11 ?_
  refine lv_iconst (v := 1) hx hb d_Fam_memberTerm_12 (by decide) ?_
  refine kg_p (As := [.int (((α.1 25) + 1) + a1), .int 1]) (rest := []) (k_Env_fact (l := l) (g := g) (α := α) (((α.1 25) + 1) + a1) 1) S E hJ kw_Fam_110 ⟨Nat.le_of_ble_eq_true rfl, Nat.le_of_ble_eq_true rfl⟩ ⟨Nat.le_refl _, Nat.le_refl _⟩ (kv_Env E hJ) rfl hl.1 rfl (Nat.le_of_ble_eq_true rfl) d_Fam_memberTerm_13 rfl ?_
  exact kv_iret (w := (f_Env_fact (((α.1 25) + 1) + a1) 1 α)) hx hb hr rfl hlocks h d_Fam_memberTerm_16
theorem kw_Fam_129 : kWv "FamilyKernel$Families" 129 "FamilyKernel$Frames" y_Fra_dropVariables b_Fra_dropVariables 1 none 0 := ⟨vt_999, vt_1000, vt_1001, vt_47, vt_1002, by decide, by decide, by decide +kernel⟩
theorem kw_Fam_142 : kWv "FamilyKernel$Families" 142 "FamilyKernel$Row" y_Row_cut b_Row_cut 2 none 1 := ⟨vt_1009, vt_232, vt_233, vt_4, vt_234, by decide, by decide, by decide +kernel⟩
theorem kw_Fam_145 : kWv "FamilyKernel$Families" 145 "FamilyKernel$Families" y_Fam_memberTerm b_Fam_memberTerm 2 (some .int) 1 := ⟨vt_1010, vt_1011, vt_1012, vt_68, vt_1013, by decide, by decide, by decide +kernel⟩
theorem kw_Fam_135 : kWv "FamilyKernel$Families" 135 "FamilyKernel$Terms" y_Terms_rewrite b_Terms_rewrite 9 (some .int) 3 := ⟨vt_1007, vt_604, vt_605, vt_19, vt_606, by decide, by decide, by decide +kernel⟩
theorem kw_Fam_132 : kWv "FamilyKernel$Families" 132 "FamilyKernel$Parser" y_Par_parameterType b_Par_parameterType 2 (some .int) 1 := ⟨vt_1003, vt_1004, vt_1005, vt_40, vt_1006, by decide, by decide, by decide +kernel⟩
theorem kw_Fam_139 : kWv "FamilyKernel$Families" 139 "FamilyKernel$Frames" y_Fra_newVariable b_Fra_newVariable 2 (some .int) 1 := ⟨vt_1008, vt_893, vt_894, vt_47, vt_895, by decide, by decide, by decide +kernel⟩
theorem kw_Fam_126 : kWv "FamilyKernel$Families" 126 "FamilyKernel$Frames" y_Fra_pop b_Fra_pop 1 none 0 := ⟨vt_998, vt_813, vt_814, vt_47, vt_815, by decide, by decide, by decide +kernel⟩
def f_Fam_member_28 (N : Nat)  : Nat → Int32 → kS → Option (kO × kS)
  | 0, _, _ => none
  | n + 1, x1, β => if (β.1 26) ≤ x1 then (kBi (f_Terms_rewrite N 4 (f_Fam_memberTerm ((fR_cut β 15 0).1 31) (fR_cut β 15 0)) ((fR_cut β 15 0).1 26) (fR_cut β 15 0)) fun v5 α3 => (some (some none, (f_Fra_set 0 34 (kSi α3 32 v5))))) else (kBi (f_Terms_rewrite N 4 (f_Par_parameterType x1 β) x1 β) fun v8 α6 => (kBi (f_Fra_newVariable N v8 α6) fun v11 α9 => (f_Fam_member_28 N n (x1 + 1) α9)))
def f_Fam_member (N : Nat)  (α : kS) : Option (kO × kS) := if (α.1 31) = (α.1 28) then (some (some none, (f_Fra_pop α))) else (f_Fam_member_28 N N 0 (f_Fra_dropVariables α))
set_option maxHeartbeats 4000000 in
set_option maxRecDepth 100000 in
theorem k_Fam_member {l : Launch} {g : kG} {α : kS} (hfl : kFl l) (N : Nat)   : ∀ x, f_Fam_member N α = some x → kC l g y_Fam_member b_Fam_member 2 none 32 949 [.ref (kad g 9)] α (kQr x) := by
  intro x h
  unfold f_Fam_member at h
  refine kc_ofW (by decide) (fun A ad0 p e s m args below meth c S hr hlocks hno hadm hargs E hI => ?_)
  have hx := S.1
  have hb := S.2.1
  have hown := S.2.2.2.1
  have hT := S.2.2.2.2
  subst hargs
  have hl := lv_entry ([.ref (kad g 9)]) (n := 2) (Nat.le_of_ble_eq_true rfl)
  rw [lg_entry_eq]
  generalize (lg_sl ([.ref (kad g 9)]) ++ List.replicate (2 - (lg_sl ([.ref (kad g 9)])).length) Slot.unset).toArray = ls at hl ⊢
  have hl : lv_has ls 2 [(0, .ref (kad g 9))] := hl
  refine lv_aload_n hx hb d_Fam_member_0 rfl (lv_at hl 0 rfl) ?_
  refine kf_Fam_at S E hI.1 vt_983 d_Fam_member_1 ?_
  refine lv_aload_n hx hb d_Fam_member_4 rfl (lv_at hl 0 rfl) ?_
  refine kf_Fam_members S E hI.1 vt_981 d_Fam_member_5 ?_
  refine lv_icmp_ne (tgt := 19) hx hb d_Fam_member_8 (by decide) (fun c1 => ?_) (fun c1 => ?_)
  · replace h := Eq.trans (if_neg c1).symm h
    refine lv_aload_n hx hb d_Fam_member_19 rfl (lv_at hl 0 rfl) ?_
    refine kf_Fam_frames S E hI.1 vt_147 d_Fam_member_20 ?_
    refine kg_tV (As := []) (rest := []) (k_Fra_dropVariables (l := l) (g := g) (α := α) ) S hlocks hno E hI kw_Fam_129 ⟨Nat.le_of_ble_eq_true rfl, Nat.le_of_ble_eq_true rfl⟩ (kv_Fra E hI.1) rfl hl.1 rfl (Nat.le_of_ble_eq_true rfl) d_Fam_member_23 (fun ad H locs cells slots hRm hI => ?_)
    refine lv_iconst (v := 0) hx hb d_Fam_member_26 (by decide) ?_
    refine lv_istore_n (lv' := [(1, .int 0), (0, .ref (kad g 9))]) hx hb d_Fam_member_27 rfl hl (by decide) rfl (fun ls hl => ?_)
    have L28 : ∀ (n28 : Nat) (x1 : Int32) (β : kS) (ad : Nat → Nat) (H : Heap) (locs : List Loc) (cells slots : Nat) (ls : Array Slot), f_Fam_member_28 N n28 x1 β = some x → kI g A s α ad0 β ad H locs cells slots → lv_has ls 2 [(1, .int x1), (0, .ref (kad g 9))] → W p l e (kR 32 949 α) s m ([.ref (kad g 9)]).toArray below meth c H locs cells slots (vEQ below (kQ g A α ad0 (kQr x)) ([.ref (kad g 9)]).toArray s A) (F0 m 28 ls []) := by
      intro n28
      induction n28 with
      | zero => intro x1 β ad H locs cells slots ls h hI hl; rw [f_Fam_member_28] at h; cases h
      | succ n28 ih28 =>
        intro x1 β ad H locs cells slots ls h hI hl
        rw [f_Fam_member_28] at h
        refine lv_iload_n hx hb d_Fam_member_28 rfl (lv_at hl 0 rfl) ?_
        refine lv_aload_n hx hb d_Fam_member_29 rfl (lv_at hl 1 rfl) ?_
        refine kf_Fam_parameters S E hI.1 vt_979 d_Fam_member_30 ?_
        refine lv_icmp_ge (tgt := 67) hx hb d_Fam_member_33 (by decide) (fun c2 => ?_) (fun c2 => ?_)
        · replace h := Eq.trans (if_pos c2).symm h
          refine lv_aload_n hx hb d_Fam_member_67 rfl (lv_at hl 1 rfl) ?_
          refine kf_Fam_sorts S E hI.1 vt_155 d_Fam_member_68 ?_
          refine lv_iconst (v := 0) hx hb d_Fam_member_71 (by decide) ?_
          refine kg_tV (As := [.int 0]) (rest := []) (k_Row_cut (l := l) (g := g) (α := β) (r := 15) (by decide) 0) S hlocks hno E hI kw_Fam_142 ⟨Nat.le_of_ble_eq_true rfl, Nat.le_of_ble_eq_true rfl⟩ (kv_Row (r := 15) (by decide) E hI.1) rfl hl.1 rfl (Nat.le_of_ble_eq_true rfl) d_Fam_member_72 (fun ad H locs cells slots hRm hI => ?_)
          refine lv_aload_n hx hb d_Fam_member_75 rfl (lv_at hl 1 rfl) ?_
          refine lv_aload_n hx hb d_Fam_member_76 rfl (lv_at hl 1 rfl) ?_
          refine kf_Fam_terms S E hI.1 vt_149 d_Fam_member_77 ?_
          refine lv_iconst (v := 4) hx hb d_Fam_member_80 (by decide) ?_
          refine lv_aload_n hx hb d_Fam_member_81 rfl (lv_at hl 1 rfl) ?_
          refine lv_aload_n hx hb d_Fam_member_82 rfl (lv_at hl 1 rfl) ?_
          refine kf_Fam_at S E hI.1 vt_983 d_Fam_member_83 ?_
          refine kg_p (As := [.int ((fR_cut β 15 0).1 31)]) (rest := [.int 4, .ref (kad g 2), .ref (kad g 9)]) (k_Fam_memberTerm (l := l) (g := g) (α := (fR_cut β 15 0)) ((fR_cut β 15 0).1 31)) S E hI.1 kw_Fam_145 ⟨Nat.le_of_ble_eq_true rfl, Nat.le_of_ble_eq_true rfl⟩ hI.room (kv_Fam E hI.1) rfl hl.1 rfl (Nat.le_of_ble_eq_true rfl) d_Fam_member_86 rfl ?_
          refine lv_aload_n hx hb d_Fam_member_89 rfl (lv_at hl 1 rfl) ?_
          refine kf_Fam_parameters S E hI.1 vt_979 d_Fam_member_90 ?_
          refine kg_cI (As := [.int 4, .int (f_Fam_memberTerm ((fR_cut β 15 0).1 31) (fR_cut β 15 0)), .int ((fR_cut β 15 0).1 26)]) (rest := [.ref (kad g 9)]) h (k_Terms_rewrite (l := l) (g := g) (α := (fR_cut β 15 0)) hfl N 4 (f_Fam_memberTerm ((fR_cut β 15 0).1 31) (fR_cut β 15 0)) ((fR_cut β 15 0).1 26)) S hlocks hno E hI kw_Fam_135 ⟨Nat.le_of_ble_eq_true rfl, Nat.le_of_ble_eq_true rfl⟩ (kv_Terms E hI.1) rfl hl.1 rfl (Nat.le_of_ble_eq_true rfl) d_Fam_member_93 (fun v5 α3 ad H locs cells slots e4 h hRm hI => ?_)
          refine kp_Fam_rest S E hI vt_1014 d_Fam_member_96 (fun H locs hI => ?_)
          refine lv_aload_n hx hb d_Fam_member_99 rfl (lv_at hl 1 rfl) ?_
          refine kf_Fam_frames S E hI.1 vt_147 d_Fam_member_100 ?_
          refine lv_iconst (v := 0) hx hb d_Fam_member_103 (by decide) ?_
          refine lv_bipush (v := 34) hx hb d_Fam_member_104 (by decide) ?_
          refine kg_tV (As := [.int 0, .int 34]) (rest := []) (k_Fra_set (l := l) (g := g) (α := (kSi α3 32 v5)) 0 34) S hlocks hno E hI kw_Fam_119 ⟨Nat.le_of_ble_eq_true rfl, Nat.le_of_ble_eq_true rfl⟩ (kv_Fra E hI.1) rfl hl.1 rfl (Nat.le_of_ble_eq_true rfl) d_Fam_member_106 (fun ad H locs cells slots hRm hI => ?_)
          exact kc_vret hx hb hr hlocks E hI h d_Fam_member_109
        · replace h := Eq.trans (if_neg c2).symm h
          refine lv_aload_n hx hb d_Fam_member_36 rfl (lv_at hl 1 rfl) ?_
          refine kf_Fam_frames S E hI.1 vt_147 d_Fam_member_37 ?_
          refine lv_aload_n hx hb d_Fam_member_40 rfl (lv_at hl 1 rfl) ?_
          refine kf_Fam_terms S E hI.1 vt_149 d_Fam_member_41 ?_
          refine lv_iconst (v := 4) hx hb d_Fam_member_44 (by decide) ?_
          refine lv_aload_n hx hb d_Fam_member_45 rfl (lv_at hl 1 rfl) ?_
          refine kf_Fam_parser S E hI.1 vt_151 d_Fam_member_46 ?_
          refine lv_iload_n hx hb d_Fam_member_49 rfl (lv_at hl 0 rfl) ?_
          refine kg_p (As := [.int x1]) (rest := [.int 4, .ref (kad g 2), .ref (kad g 6)]) (k_Par_parameterType (l := l) (g := g) (α := β) x1) S E hI.1 kw_Fam_132 ⟨Nat.le_of_ble_eq_true rfl, Nat.le_of_ble_eq_true rfl⟩ hI.room (kv_Par E hI.1) rfl hl.1 rfl (Nat.le_of_ble_eq_true rfl) d_Fam_member_50 rfl ?_
          refine lv_iload_n hx hb d_Fam_member_53 rfl (lv_at hl 0 rfl) ?_
          refine kg_cI (As := [.int 4, .int (f_Par_parameterType x1 β), .int x1]) (rest := [.ref (kad g 6)]) h (k_Terms_rewrite (l := l) (g := g) (α := β) hfl N 4 (f_Par_parameterType x1 β) x1) S hlocks hno E hI kw_Fam_135 ⟨Nat.le_of_ble_eq_true rfl, Nat.le_of_ble_eq_true rfl⟩ (kv_Terms E hI.1) rfl hl.1 rfl (Nat.le_of_ble_eq_true rfl) d_Fam_member_54 (fun v8 α6 ad H locs cells slots e7 h hRm hI => ?_)
          refine kg_cI (As := [.int v8]) (rest := []) h (k_Fra_newVariable (l := l) (g := g) (α := α6) hfl N v8) S hlocks hno E hI kw_Fam_139 ⟨Nat.le_of_ble_eq_true rfl, Nat.le_of_ble_eq_true rfl⟩ (kv_Fra E hI.1) rfl hl.1 rfl (Nat.le_of_ble_eq_true rfl) d_Fam_member_57 (fun v11 α9 ad H locs cells slots e10 h hRm hI => ?_)
          refine lv_pop hx hb d_Fam_member_60 rfl ?_
          refine lv_iinc (v := (x1 + 1)) (lv' := [(1, .int (x1 + 1)), (0, .ref (kad g 9))]) hx hb d_Fam_member_61 hl (k := 0) rfl rfl (by decide) rfl (fun ls hl => ?_)
          refine lv_goto (tgt := 28) hx hb d_Fam_member_64 (by decide) ?_
          exact ih28 (x1 + 1) _ _ _ _ _ _ _ h hI (lv_sub hl [0, 1] rfl)
    exact L28 N 0 _ _ _ _ _ _ _ h hI (lv_sub hl [0, 1] rfl)
  · replace h := Eq.trans (if_pos c1).symm h
    refine lv_aload_n hx hb d_Fam_member_11 rfl (lv_at hl 0 rfl) ?_
    refine kf_Fam_frames S E hI.1 vt_147 d_Fam_member_12 ?_
    refine kg_tV (As := []) (rest := []) (k_Fra_pop (l := l) (g := g) (α := α) ) S hlocks hno E hI kw_Fam_126 ⟨Nat.le_of_ble_eq_true rfl, Nat.le_of_ble_eq_true rfl⟩ (kv_Fra E hI.1) rfl hl.1 rfl (Nat.le_of_ble_eq_true rfl) d_Fam_member_15 (fun ad H locs cells slots hRm hI => ?_)
    exact kc_vret hx hb hr hlocks E hI h d_Fam_member_18
theorem kw_Fam_183 : kWv "FamilyKernel$Families" 183 "FamilyKernel$Terms" y_Terms_head b_Terms_head 4 (some .int) 1 := ⟨vt_1029, vt_827, vt_828, vt_19, vt_829, by decide, by decide, by decide +kernel⟩
theorem kw_Fam_186 : kWv "FamilyKernel$Families" 186 "FamilyKernel$Terms" y_Terms_behind b_Terms_behind 4 (some .int) 1 := ⟨vt_1030, vt_831, vt_832, vt_19, vt_833, by decide, by decide, by decide +kernel⟩
theorem kw_Fam_189 : kWv "FamilyKernel$Families" 189 "FamilyKernel$Terms" y_Terms_fromLast b_Terms_fromLast 5 (some .int) 2 := ⟨vt_1031, vt_836, vt_837, vt_19, vt_838, by decide, by decide, by decide +kernel⟩
theorem kw_Fam_171 : kWv "FamilyKernel$Families" 171 "FamilyKernel$Terms" y_Terms_has b_Terms_has 8 (some .boolean) 3 := ⟨vt_1032, vt_1033, vt_1034, vt_19, vt_1035, by decide, by decide, by decide +kernel⟩
def f_Fam_endsInFamily_j151 (N : Nat)  (k63 : Int32 → Int32 → Int32 → kS → Option (kO × kS)) (y4 : Int32) (y3 : Int32) (y1 : Int32) (t0 : Int32) (γ : kS) : Option (kO × kS) := if t0 = 0 then (some (some (some 0), γ)) else (k63 (y4 + 1) y3 y1 γ)
def f_Fam_endsInFamily_j125 (N : Nat)  (k63 : Int32 → Int32 → Int32 → kS → Option (kO × kS)) (y4 : Int32) (y3 : Int32) (y1 : Int32) (γ : kS) : Option (kO × kS) := f_Fam_endsInFamily_j151 N k63 y4 y3 y1 0 γ
def f_Fam_endsInFamily_63 (N : Nat)  : Nat → Int32 → Int32 → Int32 → kS → Option (kO × kS)
  | 0, _, _, _, _ => none
  | n + 1, x4, x3, x1, β => if x3 ≤ x4 then (some (some (some 1), β)) else (((f_Terms_fromLast N x1 ((x3 - 1) - x4) β)).bind fun v9 => (if (β.1 26) ≤ x4 then (kBi (f_Terms_has N v9 3 (β.1 25) β) fun v14 α12 => (if v14 = 0 then (f_Fam_endsInFamily_j151 N (f_Fam_endsInFamily_63 N n) x4 x3 x1 1 α12) else (f_Fam_endsInFamily_j151 N (f_Fam_endsInFamily_63 N n) x4 x3 x1 0 α12))) else (if (f_Terms_kind v9 β) = 1 then (if (f_Terms_left v9 β) = x4 then (f_Fam_endsInFamily_j151 N (f_Fam_endsInFamily_63 N n) x4 x3 x1 1 β) else (f_Fam_endsInFamily_j125 N (f_Fam_endsInFamily_63 N n) x4 x3 x1 β)) else (f_Fam_endsInFamily_j125 N (f_Fam_endsInFamily_63 N n) x4 x3 x1 β))))
def f_Fam_endsInFamily (N : Nat) (a1 : Int32) (α : kS) : Option (kO × kS) := ((f_Terms_head N a1 α)).bind fun v1 => (if (f_Terms_kind v1 α) = 3 then (if (f_Terms_left v1 α) = (α.1 25) then (((f_Terms_behind N a1 α)).bind fun v5 => (if v5 = ((α.1 26) + (α.1 27)) then (f_Fam_endsInFamily_63 N N 0 ((α.1 26) + (α.1 27)) a1 α) else (some (some (some 0), α)))) else (some (some (some 0), α))) else (some (some (some 0), α)))
set_option maxHeartbeats 4000000 in
set_option maxRecDepth 100000 in
theorem k_Fam_endsInFamily {l : Launch} {g : kG} {α : kS} (hfl : kFl l) (N : Nat) (a1 : Int32)  : ∀ x, f_Fam_endsInFamily N a1 α = some x → kC l g y_Fam_endsInFamily b_Fam_endsInFamily 7 (some .boolean) 32 948 [.ref (kad g 9), .int a1] α (kQr x) := by
  intro x h
  unfold f_Fam_endsInFamily at h
  refine kc_ofW (by decide) (fun A ad0 p e s m args below meth c S hr hlocks hno hadm hargs E hI => ?_)
  have hx := S.1
  have hb := S.2.1
  have hown := S.2.2.2.1
  have hT := S.2.2.2.2
  subst hargs
  have hl := lv_entry ([.ref (kad g 9), .int a1]) (n := 7) (Nat.le_of_ble_eq_true rfl)
  rw [lg_entry_eq]
  generalize (lg_sl ([.ref (kad g 9), .int a1]) ++ List.replicate (7 - (lg_sl ([.ref (kad g 9), .int a1])).length) Slot.unset).toArray = ls at hl ⊢
  have hl : lv_has ls 7 [(0, .ref (kad g 9)), (1, .int a1)] := hl
  refine lv_aload_n hx hb d_Fam_endsInFamily_0 rfl (lv_at hl 0 rfl) ?_
  refine kf_Fam_terms S E hI.1 vt_149 d_Fam_endsInFamily_1 ?_
  refine lv_iload_n hx hb d_Fam_endsInFamily_4 rfl (lv_at hl 1 rfl) ?_
  obtain ⟨v1, e2, h⟩ := Option.bind_eq_some_iff.mp h
  refine kg_p (As := [.int a1]) (rest := []) ((k_Terms_head (l := l) (g := g) (α := α) N a1) _ e2) S E hI.1 kw_Fam_183 ⟨Nat.le_of_ble_eq_true rfl, Nat.le_of_ble_eq_true rfl⟩ hI.room (kv_Terms E hI.1) rfl hl.1 rfl (Nat.le_of_ble_eq_true rfl) d_Fam_endsInFamily_5 rfl ?_
  refine lv_istore_n (lv' := [(2, .int v1), (0, .ref (kad g 9)), (1, .int a1)]) hx hb d_Fam_endsInFamily_8 rfl hl (by decide) rfl (fun ls hl => ?_)
  refine lv_aload_n hx hb d_Fam_endsInFamily_9 rfl (lv_at hl 1 rfl) ?_
  refine kf_Fam_parameters S E hI.1 vt_979 d_Fam_endsInFamily_10 ?_
  refine lv_aload_n hx hb d_Fam_endsInFamily_13 rfl (lv_at hl 1 rfl) ?_
  refine kf_Fam_indices S E hI.1 vt_982 d_Fam_endsInFamily_14 ?_
  refine lv_iadd hx hb d_Fam_endsInFamily_17 ?_
  refine lv_istore_n (lv' := [(3, .int ((α.1 26) + (α.1 27))), (2, .int v1), (0, .ref (kad g 9)), (1, .int a1)]) hx hb d_Fam_endsInFamily_18 rfl hl (by decide) rfl (fun ls hl => ?_)
  refine lv_aload_n hx hb d_Fam_endsInFamily_19 rfl (lv_at hl 2 rfl) ?_
  refine kf_Fam_terms S E hI.1 vt_149 d_Fam_endsInFamily_20 ?_
  refine lv_iload_n hx hb d_Fam_endsInFamily_23 rfl (lv_at hl 1 rfl) ?_
  refine kg_p (As := [.int v1]) (rest := []) (k_Terms_kind (l := l) (g := g) (α := α) v1) S E hI.1 kw_Fam_85 ⟨Nat.le_of_ble_eq_true rfl, Nat.le_of_ble_eq_true rfl⟩ hI.room (kv_Terms E hI.1) rfl hl.1 rfl (Nat.le_of_ble_eq_true rfl) d_Fam_endsInFamily_24 rfl ?_
  refine lv_iconst (v := 3) hx hb d_Fam_endsInFamily_27 (by decide) ?_
  refine lv_icmp_ne (tgt := 58) hx hb d_Fam_endsInFamily_28 (by decide) (fun c3 => ?_) (fun c3 => ?_)
  · replace h := Eq.trans (if_neg c3).symm h
    refine lv_iconst (v := 0) hx hb d_Fam_endsInFamily_58 (by decide) ?_
    exact kc_iret (w := 0) hx hb hr (by decide) hlocks E hI h d_Fam_endsInFamily_59
  · replace h := Eq.trans (if_pos c3).symm h
    refine lv_aload_n hx hb d_Fam_endsInFamily_31 rfl (lv_at hl 2 rfl) ?_
    refine kf_Fam_terms S E hI.1 vt_149 d_Fam_endsInFamily_32 ?_
    refine lv_iload_n hx hb d_Fam_endsInFamily_35 rfl (lv_at hl 1 rfl) ?_
    refine kg_p (As := [.int v1]) (rest := []) (k_Terms_left (l := l) (g := g) (α := α) v1) S E hI.1 kw_Fam_100 ⟨Nat.le_of_ble_eq_true rfl, Nat.le_of_ble_eq_true rfl⟩ hI.room (kv_Terms E hI.1) rfl hl.1 rfl (Nat.le_of_ble_eq_true rfl) d_Fam_endsInFamily_36 rfl ?_
    refine lv_aload_n hx hb d_Fam_endsInFamily_39 rfl (lv_at hl 2 rfl) ?_
    refine kf_Fam_family S E hI.1 vt_974 d_Fam_endsInFamily_40 ?_
    refine lv_icmp_ne (tgt := 58) hx hb d_Fam_endsInFamily_43 (by decide) (fun c4 => ?_) (fun c4 => ?_)
    · replace h := Eq.trans (if_neg c4).symm h
      refine lv_iconst (v := 0) hx hb d_Fam_endsInFamily_58 (by decide) ?_
      exact kc_iret (w := 0) hx hb hr (by decide) hlocks E hI h d_Fam_endsInFamily_59
    · replace h := Eq.trans (if_pos c4).symm h
      refine lv_aload_n hx hb d_Fam_endsInFamily_46 rfl (lv_at hl 2 rfl) ?_
      refine kf_Fam_terms S E hI.1 vt_149 d_Fam_endsInFamily_47 ?_
      refine lv_iload_n hx hb d_Fam_endsInFamily_50 rfl (lv_at hl 3 rfl) ?_
      obtain ⟨v5, e6, h⟩ := Option.bind_eq_some_iff.mp h
      refine kg_p (As := [.int a1]) (rest := []) ((k_Terms_behind (l := l) (g := g) (α := α) N a1) _ e6) S E hI.1 kw_Fam_186 ⟨Nat.le_of_ble_eq_true rfl, Nat.le_of_ble_eq_true rfl⟩ hI.room (kv_Terms E hI.1) rfl hl.1 rfl (Nat.le_of_ble_eq_true rfl) d_Fam_endsInFamily_51 rfl ?_
      refine lv_iload_n hx hb d_Fam_endsInFamily_54 rfl (lv_at hl 0 rfl) ?_
      refine lv_icmp_eq (tgt := 60) hx hb d_Fam_endsInFamily_55 (by decide) (fun c7 => ?_) (fun c7 => ?_)
      · replace h := Eq.trans (if_pos c7).symm h
        refine lv_iconst (v := 0) hx hb d_Fam_endsInFamily_60 (by decide) ?_
        refine lv_istore (lv' := [(4, .int 0), (3, .int ((α.1 26) + (α.1 27))), (2, .int v1), (0, .ref (kad g 9)), (1, .int a1)]) hx hb d_Fam_endsInFamily_61 hl (by decide) rfl (fun ls hl => ?_)
        have L63 : ∀ (n63 : Nat) (x4 : Int32) (x3 : Int32) (x1 : Int32) (β : kS) (ad : Nat → Nat) (H : Heap) (locs : List Loc) (cells slots : Nat) (ls : Array Slot), f_Fam_endsInFamily_63 N n63 x4 x3 x1 β = some x → kI g A s α ad0 β ad H locs cells slots → lv_has ls 7 [(4, .int x4), (3, .int x3), (0, .ref (kad g 9)), (1, .int x1)] → W p l e (kR 32 948 α) s m ([.ref (kad g 9), .int a1]).toArray below meth c H locs cells slots (vEQ below (kQ g A α ad0 (kQr x)) ([.ref (kad g 9), .int a1]).toArray s A) (F0 m 63 ls []) := by
          intro n63
          induction n63 with
          | zero => intro x4 x3 x1 β ad H locs cells slots ls h hI hl; rw [f_Fam_endsInFamily_63] at h; cases h
          | succ n63 ih63 =>
            intro x4 x3 x1 β ad H locs cells slots ls h hI hl
            rw [f_Fam_endsInFamily_63] at h
            have J151 : ∀ (y4 : Int32) (y3 : Int32) (y1 : Int32) (t0 : Int32) (γ : kS) (ad : Nat → Nat) (H : Heap) (locs : List Loc) (cells slots : Nat) (ls : Array Slot), f_Fam_endsInFamily_j151 N (f_Fam_endsInFamily_63 N n63) y4 y3 y1 t0 γ = some x → kI g A s α ad0 γ ad H locs cells slots → lv_has ls 7 [(4, .int y4), (3, .int y3), (0, .ref (kad g 9)), (1, .int y1)] → W p l e (kR 32 948 α) s m ([.ref (kad g 9), .int a1]).toArray below meth c H locs cells slots (vEQ below (kQ g A α ad0 (kQr x)) ([.ref (kad g 9), .int a1]).toArray s A) (F0 m 151 ls [.int t0]) := by
              intro y4 y3 y1 t0 γ ad H locs cells slots ls h hI hl
              unfold f_Fam_endsInFamily_j151 at h
              refine lv_istore (lv' := [(6, .int t0), (4, .int y4), (3, .int y3), (0, .ref (kad g 9)), (1, .int y1)]) hx hb d_Fam_endsInFamily_151 hl (by decide) rfl (fun ls hl => ?_)
              refine lv_iload hx hb d_Fam_endsInFamily_153 (lv_at hl 0 rfl) ?_
              refine lv_if_ne (tgt := 160) hx hb d_Fam_endsInFamily_155 (by decide) (fun c16 => ?_) (fun c16 => ?_)
              · replace h := Eq.trans (if_neg c16).symm h
                refine lv_iinc (v := (y4 + 1)) (lv' := [(4, .int (y4 + 1)), (6, .int t0), (3, .int y3), (0, .ref (kad g 9)), (1, .int y1)]) hx hb d_Fam_endsInFamily_160 hl (k := 1) rfl rfl (by decide) rfl (fun ls hl => ?_)
                refine lv_goto (tgt := 63) hx hb d_Fam_endsInFamily_163 (by decide) ?_
                exact ih63 (y4 + 1) y3 y1 _ _ _ _ _ _ _ h hI (lv_sub hl [0, 2, 3, 4] rfl)
              · replace h := Eq.trans (if_pos c16).symm h
                refine lv_iconst (v := 0) hx hb d_Fam_endsInFamily_158 (by decide) ?_
                exact kc_iret (w := 0) hx hb hr (by decide) hlocks E hI h d_Fam_endsInFamily_159
            have J125 : ∀ (y4 : Int32) (y3 : Int32) (y1 : Int32) (γ : kS) (ad : Nat → Nat) (H : Heap) (locs : List Loc) (cells slots : Nat) (ls : Array Slot), f_Fam_endsInFamily_j125 N (f_Fam_endsInFamily_63 N n63) y4 y3 y1 γ = some x → kI g A s α ad0 γ ad H locs cells slots → lv_has ls 7 [(4, .int y4), (3, .int y3), (0, .ref (kad g 9)), (1, .int y1)] → W p l e (kR 32 948 α) s m ([.ref (kad g 9), .int a1]).toArray below meth c H locs cells slots (vEQ below (kQ g A α ad0 (kQr x)) ([.ref (kad g 9), .int a1]).toArray s A) (F0 m 125 ls []) := by
              intro y4 y3 y1 γ ad H locs cells slots ls h hI hl
              unfold f_Fam_endsInFamily_j125 at h
              refine lv_iconst (v := 0) hx hb d_Fam_endsInFamily_125 (by decide) ?_
              refine lv_goto (tgt := 151) hx hb d_Fam_endsInFamily_126 (by decide) ?_
              exact J151 y4 y3 y1 0 _ _ _ _ _ _ _ h hI (lv_sub hl [0, 1, 2, 3] rfl)
            refine lv_iload hx hb d_Fam_endsInFamily_63 (lv_at hl 0 rfl) ?_
            refine lv_iload_n hx hb d_Fam_endsInFamily_65 rfl (lv_at hl 1 rfl) ?_
            refine lv_icmp_ge (tgt := 166) hx hb d_Fam_endsInFamily_66 (by decide) (fun c8 => ?_) (fun c8 => ?_)
            · replace h := Eq.trans (if_pos c8).symm h
              refine lv_iconst (v := 1) hx hb d_Fam_endsInFamily_166 (by decide) ?_
              exact kc_iret (w := 1) hx hb hr (by decide) hlocks E hI h d_Fam_endsInFamily_167
            · replace h := Eq.trans (if_neg c8).symm h
              refine lv_aload_n hx hb d_Fam_endsInFamily_69 rfl (lv_at hl 2 rfl) ?_
              refine kf_Fam_terms S E hI.1 vt_149 d_Fam_endsInFamily_70 ?_
              refine lv_iload_n hx hb d_Fam_endsInFamily_73 rfl (lv_at hl 3 rfl) ?_
              refine lv_iload_n hx hb d_Fam_endsInFamily_74 rfl (lv_at hl 1 rfl) ?_
              refine lv_iconst (v := 1) hx hb d_Fam_endsInFamily_75 (by decide) ?_
              refine lv_isub hx hb d_Fam_endsInFamily_76 ?_
              refine lv_iload hx hb d_Fam_endsInFamily_77 (lv_at hl 0 rfl) ?_
              refine lv_isub hx hb d_Fam_endsInFamily_79 ?_
              obtain ⟨v9, e10, h⟩ := Option.bind_eq_some_iff.mp h
              refine kg_p (As := [.int x1, .int ((x3 - 1) - x4)]) (rest := []) ((k_Terms_fromLast (l := l) (g := g) (α := β) N x1 ((x3 - 1) - x4)) _ e10) S E hI.1 kw_Fam_189 ⟨Nat.le_of_ble_eq_true rfl, Nat.le_of_ble_eq_true rfl⟩ hI.room (kv_Terms E hI.1) rfl hl.1 rfl (Nat.le_of_ble_eq_true rfl) d_Fam_endsInFamily_80 rfl ?_
              refine lv_istore (lv' := [(5, .int v9), (4, .int x4), (3, .int x3), (0, .ref (kad g 9)), (1, .int x1)]) hx hb d_Fam_endsInFamily_83 hl (by decide) rfl (fun ls hl => ?_)
              refine lv_iload hx hb d_Fam_endsInFamily_85 (lv_at hl 1 rfl) ?_
              refine lv_aload_n hx hb d_Fam_endsInFamily_87 rfl (lv_at hl 3 rfl) ?_
              refine kf_Fam_parameters S E hI.1 vt_979 d_Fam_endsInFamily_88 ?_
              refine lv_icmp_ge (tgt := 129) hx hb d_Fam_endsInFamily_91 (by decide) (fun c11 => ?_) (fun c11 => ?_)
              · replace h := Eq.trans (if_pos c11).symm h
                refine lv_aload_n hx hb d_Fam_endsInFamily_129 rfl (lv_at hl 3 rfl) ?_
                refine kf_Fam_terms S E hI.1 vt_149 d_Fam_endsInFamily_130 ?_
                refine lv_iload hx hb d_Fam_endsInFamily_133 (lv_at hl 0 rfl) ?_
                refine lv_iconst (v := 3) hx hb d_Fam_endsInFamily_135 (by decide) ?_
                refine lv_aload_n hx hb d_Fam_endsInFamily_136 rfl (lv_at hl 3 rfl) ?_
                refine kf_Fam_family S E hI.1 vt_974 d_Fam_endsInFamily_137 ?_
                refine kg_cI (As := [.int v9, .int 3, .int (β.1 25)]) (rest := []) h (k_Terms_has (l := l) (g := g) (α := β) hfl N v9 3 (β.1 25)) S hlocks hno E hI kw_Fam_171 ⟨Nat.le_of_ble_eq_true rfl, Nat.le_of_ble_eq_true rfl⟩ (kv_Terms E hI.1) rfl hl.1 rfl (Nat.le_of_ble_eq_true rfl) d_Fam_endsInFamily_140 (fun v14 α12 ad H locs cells slots e13 h hRm hI => ?_)
                refine lv_if_ne (tgt := 150) hx hb d_Fam_endsInFamily_143 (by decide) (fun c15 => ?_) (fun c15 => ?_)
                · replace h := Eq.trans (if_neg c15).symm h
                  refine lv_iconst (v := 0) hx hb d_Fam_endsInFamily_150 (by decide) ?_
                  exact J151 x4 x3 x1 0 _ _ _ _ _ _ _ h hI (lv_sub hl [1, 2, 3, 4] rfl)
                · replace h := Eq.trans (if_pos c15).symm h
                  refine lv_iconst (v := 1) hx hb d_Fam_endsInFamily_146 (by decide) ?_
                  refine lv_goto (tgt := 151) hx hb d_Fam_endsInFamily_147 (by decide) ?_
                  exact J151 x4 x3 x1 1 _ _ _ _ _ _ _ h hI (lv_sub hl [1, 2, 3, 4] rfl)
              · replace h := Eq.trans (if_neg c11).symm h
                refine lv_aload_n hx hb d_Fam_endsInFamily_94 rfl (lv_at hl 3 rfl) ?_
                refine kf_Fam_terms S E hI.1 vt_149 d_Fam_endsInFamily_95 ?_
                refine lv_iload hx hb d_Fam_endsInFamily_98 (lv_at hl 0 rfl) ?_
                refine kg_p (As := [.int v9]) (rest := []) (k_Terms_kind (l := l) (g := g) (α := β) v9) S E hI.1 kw_Fam_85 ⟨Nat.le_of_ble_eq_true rfl, Nat.le_of_ble_eq_true rfl⟩ hI.room (kv_Terms E hI.1) rfl hl.1 rfl (Nat.le_of_ble_eq_true rfl) d_Fam_endsInFamily_100 rfl ?_
                refine lv_iconst (v := 1) hx hb d_Fam_endsInFamily_103 (by decide) ?_
                refine lv_icmp_ne (tgt := 125) hx hb d_Fam_endsInFamily_104 (by decide) (fun c17 => ?_) (fun c17 => ?_)
                · replace h := Eq.trans (if_neg c17).symm h
                  exact J125 x4 x3 x1 _ _ _ _ _ _ _ h hI (lv_sub hl [1, 2, 3, 4] rfl)
                · replace h := Eq.trans (if_pos c17).symm h
                  refine lv_aload_n hx hb d_Fam_endsInFamily_107 rfl (lv_at hl 3 rfl) ?_
                  refine kf_Fam_terms S E hI.1 vt_149 d_Fam_endsInFamily_108 ?_
                  refine lv_iload hx hb d_Fam_endsInFamily_111 (lv_at hl 0 rfl) ?_
                  refine kg_p (As := [.int v9]) (rest := []) (k_Terms_left (l := l) (g := g) (α := β) v9) S E hI.1 kw_Fam_100 ⟨Nat.le_of_ble_eq_true rfl, Nat.le_of_ble_eq_true rfl⟩ hI.room (kv_Terms E hI.1) rfl hl.1 rfl (Nat.le_of_ble_eq_true rfl) d_Fam_endsInFamily_113 rfl ?_
                  refine lv_iload hx hb d_Fam_endsInFamily_116 (lv_at hl 1 rfl) ?_
                  refine lv_icmp_ne (tgt := 125) hx hb d_Fam_endsInFamily_118 (by decide) (fun c18 => ?_) (fun c18 => ?_)
                  · replace h := Eq.trans (if_neg c18).symm h
                    exact J125 x4 x3 x1 _ _ _ _ _ _ _ h hI (lv_sub hl [1, 2, 3, 4] rfl)
                  · replace h := Eq.trans (if_pos c18).symm h
                    refine lv_iconst (v := 1) hx hb d_Fam_endsInFamily_121 (by decide) ?_
                    refine lv_goto (tgt := 151) hx hb d_Fam_endsInFamily_122 (by decide) ?_
                    exact J151 x4 x3 x1 1 _ _ _ _ _ _ _ h hI (lv_sub hl [1, 2, 3, 4] rfl)
        exact L63 N 0 ((α.1 26) + (α.1 27)) a1 _ _ _ _ _ _ _ h hI (lv_sub hl [0, 1, 3, 4] rfl)
      · replace h := Eq.trans (if_neg c7).symm h
        refine lv_iconst (v := 0) hx hb d_Fam_endsInFamily_58 (by decide) ?_
        exact kc_iret (w := 0) hx hb hr (by decide) hlocks E hI h d_Fam_endsInFamily_59
def f_Fam_constantAt  (α : kS) : Int32 := (((α.1 25) + 1) + (α.1 31))
set_option maxHeartbeats 4000000 in
set_option maxRecDepth 100000 in
theorem k_Fam_constantAt {l : Launch} {g : kG} {α : kS}   : kV l g y_Fam_constantAt b_Fam_constantAt 1 (some .int) 1 1 [.ref (kad g 9)] α (f_Fam_constantAt α) := by
  generalize h : f_Fam_constantAt α = x
  unfold f_Fam_constantAt at h
  refine kv_ofW (by decide) (fun A ad p e s m args below meth c S hr hlocks hargs E hJ => ?_)
  have hx := S.1
  have hb := S.2.1
  have hown := S.2.2.2.1
  have hT := S.2.2.2.2
  subst hargs
  have hl := lv_entry ([.ref (kad g 9)]) (n := 1) (Nat.le_of_ble_eq_true rfl)
  rw [lg_entry_eq]
  generalize (lg_sl ([.ref (kad g 9)]) ++ List.replicate (1 - (lg_sl ([.ref (kad g 9)])).length) Slot.unset).toArray = ls at hl ⊢
  have hl : lv_has ls 1 [(0, .ref (kad g 9))] := hl
  refine lv_aload_n hx hb d_Fam_constantAt_0 rfl (lv_at hl 0 rfl) ?_
  refine kf_Fam_family S E hJ vt_974 d_Fam_constantAt_1 ?_
  refine lv_iconst (v := 1) hx hb d_Fam_constantAt_4 (by decide) ?_
  refine lv_iadd hx hb d_Fam_constantAt_5 ?_
  refine lv_aload_n hx hb d_Fam_constantAt_6 rfl (lv_at hl 0 rfl) ?_
  refine kf_Fam_at S E hJ vt_983 d_Fam_constantAt_7 ?_
  refine lv_iadd hx hb d_Fam_constantAt_10 ?_
  exact kv_iret (w := (((α.1 25) + 1) + (α.1 31))) hx hb hr rfl hlocks h d_Fam_constantAt_11
def f_Fam_isIndex_2 (N : Nat)  (α : kS) : Nat → Int32 → Int32 → Option Int32
  | 0, _, _ => none
  | n + 1, x2, x1 => if (α.1 27) ≤ x2 then (some 0) else (((f_Terms_fromLast N (α.1 32) x2 α)).bind fun v2 => (if v2 = x1 then (some 1) else (f_Fam_isIndex_2 N α n (x2 + 1) x1)))
def f_Fam_isIndex (N : Nat) (a1 : Int32) (α : kS) : Option Int32 := f_Fam_isIndex_2 N α N 0 a1
set_option maxHeartbeats 4000000 in
set_option maxRecDepth 100000 in
theorem k_Fam_isIndex {l : Launch} {g : kG} {α : kS} (N : Nat) (a1 : Int32)  : ∀ x, f_Fam_isIndex N a1 α = some x → kV l g y_Fam_isIndex b_Fam_isIndex 3 (some .boolean) 3 46 [.ref (kad g 9), .int a1] α x := by
  intro x h
  unfold f_Fam_isIndex at h
  refine kv_ofW (by decide) (fun A ad p e s m args below meth c S hr hlocks hargs E hJ => ?_)
  have hx := S.1
  have hb := S.2.1
  have hown := S.2.2.2.1
  have hT := S.2.2.2.2
  subst hargs
  have hl := lv_entry ([.ref (kad g 9), .int a1]) (n := 3) (Nat.le_of_ble_eq_true rfl)
  rw [lg_entry_eq]
  generalize (lg_sl ([.ref (kad g 9), .int a1]) ++ List.replicate (3 - (lg_sl ([.ref (kad g 9), .int a1])).length) Slot.unset).toArray = ls at hl ⊢
  have hl : lv_has ls 3 [(0, .ref (kad g 9)), (1, .int a1)] := hl
  refine lv_iconst (v := 0) hx hb d_Fam_isIndex_0 (by decide) ?_
  refine lv_istore_n (lv' := [(2, .int 0), (0, .ref (kad g 9)), (1, .int a1)]) hx hb d_Fam_isIndex_1 rfl hl (by decide) rfl (fun ls hl => ?_)
  have L2 : ∀ (n2 : Nat) (x2 : Int32) (x1 : Int32) (ls : Array Slot), f_Fam_isIndex_2 N α n2 x2 x1 = some x → lv_has ls 3 [(2, .int x2), (0, .ref (kad g 9)), (1, .int x1)] → W p l e { frames := 3, cells := 0, slots := 0, locals := 46 } s m ([.ref (kad g 9), .int a1]).toArray below meth c s.heap [] 0 0 (MQ below (QcRead x) ([.ref (kad g 9), .int a1]).toArray s 0 0 (fun _ => False)) (F0 m 2 ls []) := by
    intro n2
    induction n2 with
    | zero => intro x2 x1 ls h hl; rw [f_Fam_isIndex_2] at h; cases h
    | succ n2 ih2 =>
      intro x2 x1 ls h hl
      rw [f_Fam_isIndex_2] at h
      refine lv_iload_n hx hb d_Fam_isIndex_2 rfl (lv_at hl 0 rfl) ?_
      refine lv_aload_n hx hb d_Fam_isIndex_3 rfl (lv_at hl 1 rfl) ?_
      refine kf_Fam_indices S E hJ vt_982 d_Fam_isIndex_4 ?_
      refine lv_icmp_ge (tgt := 34) hx hb d_Fam_isIndex_7 (by decide) (fun c1 => ?_) (fun c1 => ?_)
      · replace h := Eq.trans (if_pos c1).symm h
        refine lv_iconst (v := 0) hx hb d_Fam_isIndex_34 (by decide) ?_
        exact kv_iret (w := 0) hx hb hr (by decide) hlocks (Option.some.inj h) d_Fam_isIndex_35
      · replace h := Eq.trans (if_neg c1).symm h
        refine lv_aload_n hx hb d_Fam_isIndex_10 rfl (lv_at hl 1 rfl) ?_
        refine kf_Fam_terms S E hJ vt_149 d_Fam_isIndex_11 ?_
        refine lv_aload_n hx hb d_Fam_isIndex_14 rfl (lv_at hl 1 rfl) ?_
        refine kf_Fam_rest S E hJ vt_1014 d_Fam_isIndex_15 ?_
        refine lv_iload_n hx hb d_Fam_isIndex_18 rfl (lv_at hl 0 rfl) ?_
        obtain ⟨v2, e3, h⟩ := Option.bind_eq_some_iff.mp h
        refine kg_p (As := [.int (α.1 32), .int x2]) (rest := []) ((k_Terms_fromLast (l := l) (g := g) (α := α) N (α.1 32) x2) _ e3) S E hJ kw_Fam_189 ⟨Nat.le_of_ble_eq_true rfl, Nat.le_of_ble_eq_true rfl⟩ ⟨Nat.le_refl _, Nat.le_refl _⟩ (kv_Terms E hJ) rfl hl.1 rfl (Nat.le_of_ble_eq_true rfl) d_Fam_isIndex_19 rfl ?_
        refine lv_iload_n hx hb d_Fam_isIndex_22 rfl (lv_at hl 2 rfl) ?_
        refine lv_icmp_ne (tgt := 28) hx hb d_Fam_isIndex_23 (by decide) (fun c4 => ?_) (fun c4 => ?_)
        · replace h := Eq.trans (if_neg c4).symm h
          refine lv_iinc (v := (x2 + 1)) (lv' := [(2, .int (x2 + 1)), (0, .ref (kad g 9)), (1, .int x1)]) hx hb d_Fam_isIndex_28 hl (k := 0) rfl rfl (by decide) rfl (fun ls hl => ?_)
          refine lv_goto (tgt := 2) hx hb d_Fam_isIndex_31 (by decide) ?_
          exact ih2 (x2 + 1) x1 _ h (lv_sub hl [0, 1, 2] rfl)
        · replace h := Eq.trans (if_pos c4).symm h
          refine lv_iconst (v := 1) hx hb d_Fam_isIndex_26 (by decide) ?_
          exact kv_iret (w := 1) hx hb hr (by decide) hlocks (Option.some.inj h) d_Fam_isIndex_27
  exact L2 N 0 a1 _ h (lv_sub hl [0, 1, 2] rfl)
theorem kw_Fam_158 : kWv "FamilyKernel$Families" 158 "FamilyKernel$Row" y_Row_size b_Row_size 1 (some .int) 0 := ⟨vt_1023, vt_270, vt_271, vt_4, vt_272, by decide, by decide, by decide +kernel⟩
theorem kw_Fam_192 : kWv "FamilyKernel$Families" 192 "FamilyKernel$Row" y_Row_at b_Row_at 2 (some .int) 1 := ⟨vt_1036, vt_266, vt_267, vt_4, vt_268, by decide, by decide, by decide +kernel⟩
theorem kw_Fam_180 : kWv "FamilyKernel$Families" 180 "FamilyKernel$Terms" y_Terms_make b_Terms_make 10 (some .int) 3 := ⟨vt_1037, vt_518, vt_519, vt_19, vt_520, by decide, by decide, by decide +kernel⟩
theorem kw_Fam_194 : kWv "FamilyKernel$Families" 194 "FamilyKernel$Families" y_Fam_isIndex b_Fam_isIndex 3 (some .boolean) 1 := ⟨vt_1038, vt_1039, vt_1040, vt_68, vt_1041, by decide, by decide, by decide +kernel⟩
def f_Fam_isDetermined_2 (N : Nat)  : Nat → Int32 → kS → Option (kO × kS)
  | 0, _, _ => none
  | n + 1, x1, β => if (fR_size β 15) ≤ x1 then (some (some (some 1), β)) else (if (fR_at β 15 x1) = 0 then (f_Fam_isDetermined_2 N n (x1 + 1) β) else (kBi (f_Terms_make N 1 ((β.1 26) + x1) 0 β) fun v5 α3 => (((f_Fam_isIndex N v5 α3)).bind fun v6 => (if v6 = 0 then (some (some (some 0), α3)) else (f_Fam_isDetermined_2 N n (x1 + 1) α3)))))
def f_Fam_isDetermined (N : Nat)  (α : kS) : Option (kO × kS) := f_Fam_isDetermined_2 N N 0 α
set_option maxHeartbeats 4000000 in
set_option maxRecDepth 100000 in
theorem k_Fam_isDetermined {l : Launch} {g : kG} {α : kS} (hfl : kFl l) (N : Nat)   : ∀ x, f_Fam_isDetermined N α = some x → kC l g y_Fam_isDetermined b_Fam_isDetermined 2 (some .boolean) 23 692 [.ref (kad g 9)] α (kQr x) := by
  intro x h
  unfold f_Fam_isDetermined at h
  refine kc_ofW (by decide) (fun A ad0 p e s m args below meth c S hr hlocks hno hadm hargs E hI => ?_)
  have hx := S.1
  have hb := S.2.1
  have hown := S.2.2.2.1
  have hT := S.2.2.2.2
  subst hargs
  have hl := lv_entry ([.ref (kad g 9)]) (n := 2) (Nat.le_of_ble_eq_true rfl)
  rw [lg_entry_eq]
  generalize (lg_sl ([.ref (kad g 9)]) ++ List.replicate (2 - (lg_sl ([.ref (kad g 9)])).length) Slot.unset).toArray = ls at hl ⊢
  have hl : lv_has ls 2 [(0, .ref (kad g 9))] := hl
  refine lv_iconst (v := 0) hx hb d_Fam_isDetermined_0 (by decide) ?_
  refine lv_istore_n (lv' := [(1, .int 0), (0, .ref (kad g 9))]) hx hb d_Fam_isDetermined_1 rfl hl (by decide) rfl (fun ls hl => ?_)
  have L2 : ∀ (n2 : Nat) (x1 : Int32) (β : kS) (ad : Nat → Nat) (H : Heap) (locs : List Loc) (cells slots : Nat) (ls : Array Slot), f_Fam_isDetermined_2 N n2 x1 β = some x → kI g A s α ad0 β ad H locs cells slots → lv_has ls 2 [(1, .int x1), (0, .ref (kad g 9))] → W p l e (kR 23 692 α) s m ([.ref (kad g 9)]).toArray below meth c H locs cells slots (vEQ below (kQ g A α ad0 (kQr x)) ([.ref (kad g 9)]).toArray s A) (F0 m 2 ls []) := by
    intro n2
    induction n2 with
    | zero => intro x1 β ad H locs cells slots ls h hI hl; rw [f_Fam_isDetermined_2] at h; cases h
    | succ n2 ih2 =>
      intro x1 β ad H locs cells slots ls h hI hl
      rw [f_Fam_isDetermined_2] at h
      refine lv_iload_n hx hb d_Fam_isDetermined_2 rfl (lv_at hl 0 rfl) ?_
      refine lv_aload_n hx hb d_Fam_isDetermined_3 rfl (lv_at hl 1 rfl) ?_
      refine kf_Fam_sorts S E hI.1 vt_155 d_Fam_isDetermined_4 ?_
      refine kg_p (As := []) (rest := [.int x1]) (k_Row_size (l := l) (g := g) (α := β) (r := 15) (by decide)) S E hI.1 kw_Fam_158 ⟨Nat.le_of_ble_eq_true rfl, Nat.le_of_ble_eq_true rfl⟩ hI.room (kv_Row (r := 15) (by decide) E hI.1) rfl hl.1 rfl (Nat.le_of_ble_eq_true rfl) d_Fam_isDetermined_7 rfl ?_
      refine lv_icmp_ge (tgt := 54) hx hb d_Fam_isDetermined_10 (by decide) (fun c1 => ?_) (fun c1 => ?_)
      · replace h := Eq.trans (if_pos c1).symm h
        refine lv_iconst (v := 1) hx hb d_Fam_isDetermined_54 (by decide) ?_
        exact kc_iret (w := 1) hx hb hr (by decide) hlocks E hI h d_Fam_isDetermined_55
      · replace h := Eq.trans (if_neg c1).symm h
        refine lv_aload_n hx hb d_Fam_isDetermined_13 rfl (lv_at hl 1 rfl) ?_
        refine kf_Fam_sorts S E hI.1 vt_155 d_Fam_isDetermined_14 ?_
        refine lv_iload_n hx hb d_Fam_isDetermined_17 rfl (lv_at hl 0 rfl) ?_
        refine kg_p (As := [.int x1]) (rest := []) (k_Row_at (l := l) (g := g) (α := β) (r := 15) (by decide) x1) S E hI.1 kw_Fam_192 ⟨Nat.le_of_ble_eq_true rfl, Nat.le_of_ble_eq_true rfl⟩ hI.room (kv_Row (r := 15) (by decide) E hI.1) rfl hl.1 rfl (Nat.le_of_ble_eq_true rfl) d_Fam_isDetermined_18 rfl ?_
        refine lv_if_eq (tgt := 48) hx hb d_Fam_isDetermined_21 (by decide) (fun c2 => ?_) (fun c2 => ?_)
        · replace h := Eq.trans (if_pos c2).symm h
          refine lv_iinc (v := (x1 + 1)) (lv' := [(1, .int (x1 + 1)), (0, .ref (kad g 9))]) hx hb d_Fam_isDetermined_48 hl (k := 0) rfl rfl (by decide) rfl (fun ls hl => ?_)
          refine lv_goto (tgt := 2) hx hb d_Fam_isDetermined_51 (by decide) ?_
          exact ih2 (x1 + 1) _ _ _ _ _ _ _ h hI (lv_sub hl [0, 1] rfl)
        · replace h := Eq.trans (if_neg c2).symm h
          refine lv_aload_n hx hb d_Fam_isDetermined_24 rfl (lv_at hl 1 rfl) ?_
          refine lv_aload_n hx hb d_Fam_isDetermined_25 rfl (lv_at hl 1 rfl) ?_
          refine kf_Fam_terms S E hI.1 vt_149 d_Fam_isDetermined_26 ?_
          refine lv_iconst (v := 1) hx hb d_Fam_isDetermined_29 (by decide) ?_
          refine lv_aload_n hx hb d_Fam_isDetermined_30 rfl (lv_at hl 1 rfl) ?_
          refine kf_Fam_parameters S E hI.1 vt_979 d_Fam_isDetermined_31 ?_
          refine lv_iload_n hx hb d_Fam_isDetermined_34 rfl (lv_at hl 0 rfl) ?_
          refine lv_iadd hx hb d_Fam_isDetermined_35 ?_
          refine lv_iconst (v := 0) hx hb d_Fam_isDetermined_36 (by decide) ?_
          refine kg_cI (As := [.int 1, .int ((β.1 26) + x1), .int 0]) (rest := [.ref (kad g 9)]) h (k_Terms_make (l := l) (g := g) (α := β) hfl N 1 ((β.1 26) + x1) 0) S hlocks hno E hI kw_Fam_180 ⟨Nat.le_of_ble_eq_true rfl, Nat.le_of_ble_eq_true rfl⟩ (kv_Terms E hI.1) rfl hl.1 rfl (Nat.le_of_ble_eq_true rfl) d_Fam_isDetermined_37 (fun v5 α3 ad H locs cells slots e4 h hRm hI => ?_)
          obtain ⟨v6, e7, h⟩ := Option.bind_eq_some_iff.mp h
          refine kg_p (As := [.int v5]) (rest := []) ((k_Fam_isIndex (l := l) (g := g) (α := α3) N v5) _ e7) S E hI.1 kw_Fam_194 ⟨Nat.le_of_ble_eq_true rfl, Nat.le_of_ble_eq_true rfl⟩ hI.room (kv_Fam E hI.1) rfl hl.1 rfl (Nat.le_of_ble_eq_true rfl) d_Fam_isDetermined_40 rfl ?_
          refine lv_if_ne (tgt := 48) hx hb d_Fam_isDetermined_43 (by decide) (fun c8 => ?_) (fun c8 => ?_)
          · replace h := Eq.trans (if_neg c8).symm h
            refine lv_iinc (v := (x1 + 1)) (lv' := [(1, .int (x1 + 1)), (0, .ref (kad g 9))]) hx hb d_Fam_isDetermined_48 hl (k := 0) rfl rfl (by decide) rfl (fun ls hl => ?_)
            refine lv_goto (tgt := 2) hx hb d_Fam_isDetermined_51 (by decide) ?_
            exact ih2 (x1 + 1) _ _ _ _ _ _ _ h hI (lv_sub hl [0, 1] rfl)
          · replace h := Eq.trans (if_pos c8).symm h
            refine lv_iconst (v := 0) hx hb d_Fam_isDetermined_46 (by decide) ?_
            exact kc_iret (w := 0) hx hb hr (by decide) hlocks E hI h d_Fam_isDetermined_47
  exact L2 N 0 _ _ _ _ _ _ _ h hI (lv_sub hl [0, 1] rfl)
theorem kw_Fam_151 : kWv "FamilyKernel$Families" 151 "FamilyKernel$Families" y_Fam_endsInFamily b_Fam_endsInFamily 7 (some .boolean) 1 := ⟨vt_1015, vt_1016, vt_1017, vt_68, vt_1018, by decide, by decide, by decide +kernel⟩
theorem kw_Fam_155 : kWv "FamilyKernel$Families" 155 "FamilyKernel$Families" y_Fam_constantAt b_Fam_constantAt 1 (some .int) 0 := ⟨vt_1019, vt_1020, vt_1021, vt_68, vt_1022, by decide, by decide, by decide +kernel⟩
theorem kw_Fam_165 : kWv "FamilyKernel$Families" 165 "FamilyKernel$Parser" y_Par_overParameters b_Par_overParameters 4 (some .int) 1 := ⟨vt_1028, vt_643, vt_644, vt_40, vt_645, by decide, by decide, by decide +kernel⟩
theorem kw_Fam_161 : kWv "FamilyKernel$Families" 161 "FamilyKernel$Families" y_Fam_isDetermined b_Fam_isDetermined 2 (some .boolean) 0 := ⟨vt_1024, vt_1025, vt_1026, vt_68, vt_1027, by decide, by decide, by decide +kernel⟩
def f_Fam_argument_j120 (N : Nat)  (γ : kS) : Option (kO × kS) := kBi (f_Par_overParameters N (f_Fam_memberTerm ((f_Fra_dropVariables γ).1 31) (f_Fra_dropVariables γ)) (f_Fra_dropVariables γ)) fun v9 α7 => (kBv (f_Fam_sortOf N 36 v9 α7) fun α10 => (some (some none, α10)))
def f_Fam_argument_j54 (N : Nat)  (γ : kS) : Option (kO × kS) := if ((f_Env_fix (f_Fam_constantAt (f_Env_fix (f_Fam_constantAt γ) 8 (γ.1 25) γ)) 6 (fR_size (f_Env_fix (f_Fam_constantAt γ) 8 (γ.1 25) γ) 15) (f_Env_fix (f_Fam_constantAt γ) 8 (γ.1 25) γ)).1 28) = 1 then (kBi (f_Fam_isDetermined N (f_Env_fix (f_Fam_constantAt (f_Env_fix (f_Fam_constantAt γ) 8 (γ.1 25) γ)) 6 (fR_size (f_Env_fix (f_Fam_constantAt γ) 8 (γ.1 25) γ) 15) (f_Env_fix (f_Fam_constantAt γ) 8 (γ.1 25) γ))) fun v14 α12 => (if v14 = 0 then (f_Fam_argument_j120 N  α12) else (f_Fam_argument_j120 N  (f_Env_fix (α12.1 25) 9 1 α12)))) else (f_Fam_argument_j120 N  (f_Env_fix (f_Fam_constantAt (f_Env_fix (f_Fam_constantAt γ) 8 (γ.1 25) γ)) 6 (fR_size (f_Env_fix (f_Fam_constantAt γ) 8 (γ.1 25) γ) 15) (f_Env_fix (f_Fam_constantAt γ) 8 (γ.1 25) γ)))
def f_Fam_argument (N : Nat)  (α : kS) : Option (kO × kS) := if (f_Terms_kind (α.1 32) α) = 6 then (kBv (f_Fam_sortOf N 35 (f_Terms_left (α.1 32) α) α) fun α18 => (some (some none, α18))) else (kBi (f_Fam_endsInFamily N (α.1 32) α) fun v4 α2 => (if v4 = 0 then (kBv (f_Meter_fail N 8 α2) fun α16 => (f_Fam_argument_j54 N  α16)) else (f_Fam_argument_j54 N  α2)))
set_option maxHeartbeats 4000000 in
set_option maxRecDepth 100000 in
theorem k_Fam_argument {l : Launch} {g : kG} {α : kS} (hfl : kFl l) (N : Nat)   : ∀ x, f_Fam_argument N α = some x → kC l g y_Fam_argument b_Fam_argument 1 none 33 974 [.ref (kad g 9)] α (kQr x) := by
  intro x h
  unfold f_Fam_argument at h
  refine kc_ofW (by decide) (fun A ad0 p e s m args below meth c S hr hlocks hno hadm hargs E hI => ?_)
  have hx := S.1
  have hb := S.2.1
  have hown := S.2.2.2.1
  have hT := S.2.2.2.2
  subst hargs
  have hl := lv_entry ([.ref (kad g 9)]) (n := 1) (Nat.le_of_ble_eq_true rfl)
  rw [lg_entry_eq]
  generalize (lg_sl ([.ref (kad g 9)]) ++ List.replicate (1 - (lg_sl ([.ref (kad g 9)])).length) Slot.unset).toArray = ls at hl ⊢
  have hl : lv_has ls 1 [(0, .ref (kad g 9))] := hl
  have J120 : ∀ (γ : kS) (ad : Nat → Nat) (H : Heap) (locs : List Loc) (cells slots : Nat) (ls : Array Slot), f_Fam_argument_j120 N γ = some x → kI g A s α ad0 γ ad H locs cells slots → lv_has ls 1 [(0, .ref (kad g 9))] → W p l e (kR 33 974 α) s m ([.ref (kad g 9)]).toArray below meth c H locs cells slots (vEQ below (kQ g A α ad0 (kQr x)) ([.ref (kad g 9)]).toArray s A) (F0 m 120 ls []) := by
    intro  γ ad H locs cells slots ls h hI hl
    unfold f_Fam_argument_j120 at h
    refine lv_aload_n hx hb d_Fam_argument_120 rfl (lv_at hl 0 rfl) ?_
    refine kf_Fam_frames S E hI.1 vt_147 d_Fam_argument_121 ?_
    refine kg_tV (As := []) (rest := []) (k_Fra_dropVariables (l := l) (g := g) (α := γ) ) S hlocks hno E hI kw_Fam_129 ⟨Nat.le_of_ble_eq_true rfl, Nat.le_of_ble_eq_true rfl⟩ (kv_Fra E hI.1) rfl hl.1 rfl (Nat.le_of_ble_eq_true rfl) d_Fam_argument_124 (fun ad H locs cells slots hRm hI => ?_)
    refine lv_aload_n hx hb d_Fam_argument_127 rfl (lv_at hl 0 rfl) ?_
    refine lv_bipush (v := 36) hx hb d_Fam_argument_128 (by decide) ?_
    refine lv_aload_n hx hb d_Fam_argument_130 rfl (lv_at hl 0 rfl) ?_
    refine kf_Fam_parser S E hI.1 vt_151 d_Fam_argument_131 ?_
    refine lv_aload_n hx hb d_Fam_argument_134 rfl (lv_at hl 0 rfl) ?_
    refine lv_aload_n hx hb d_Fam_argument_135 rfl (lv_at hl 0 rfl) ?_
    refine kf_Fam_at S E hI.1 vt_983 d_Fam_argument_136 ?_
    refine kg_p (As := [.int ((f_Fra_dropVariables γ).1 31)]) (rest := [.ref (kad g 5), .int 36, .ref (kad g 9)]) (k_Fam_memberTerm (l := l) (g := g) (α := (f_Fra_dropVariables γ)) ((f_Fra_dropVariables γ).1 31)) S E hI.1 kw_Fam_145 ⟨Nat.le_of_ble_eq_true rfl, Nat.le_of_ble_eq_true rfl⟩ hI.room (kv_Fam E hI.1) rfl hl.1 rfl (Nat.le_of_ble_eq_true rfl) d_Fam_argument_139 rfl ?_
    refine kg_cI (As := [.int (f_Fam_memberTerm ((f_Fra_dropVariables γ).1 31) (f_Fra_dropVariables γ))]) (rest := [.int 36, .ref (kad g 9)]) h (k_Par_overParameters (l := l) (g := g) (α := (f_Fra_dropVariables γ)) hfl N (f_Fam_memberTerm ((f_Fra_dropVariables γ).1 31) (f_Fra_dropVariables γ))) S hlocks hno E hI kw_Fam_165 ⟨Nat.le_of_ble_eq_true rfl, Nat.le_of_ble_eq_true rfl⟩ (kv_Par E hI.1) rfl hl.1 rfl (Nat.le_of_ble_eq_true rfl) d_Fam_argument_142 (fun v9 α7 ad H locs cells slots e8 h hRm hI => ?_)
    refine kg_cV (As := [.int 36, .int v9]) (rest := []) h (k_Fam_sortOf (l := l) (g := g) (α := α7) hfl N 36 v9) S hlocks hno E hI kw_Fam_114 ⟨Nat.le_of_ble_eq_true rfl, Nat.le_of_ble_eq_true rfl⟩ (kv_Fam E hI.1) rfl hl.1 rfl (Nat.le_of_ble_eq_true rfl) d_Fam_argument_145 (fun α10 ad H locs cells slots e11 h hRm hI => ?_)
    exact kc_vret hx hb hr hlocks E hI h d_Fam_argument_148
  have J54 : ∀ (γ : kS) (ad : Nat → Nat) (H : Heap) (locs : List Loc) (cells slots : Nat) (ls : Array Slot), f_Fam_argument_j54 N γ = some x → kI g A s α ad0 γ ad H locs cells slots → lv_has ls 1 [(0, .ref (kad g 9))] → W p l e (kR 33 974 α) s m ([.ref (kad g 9)]).toArray below meth c H locs cells slots (vEQ below (kQ g A α ad0 (kQr x)) ([.ref (kad g 9)]).toArray s A) (F0 m 54 ls []) := by
    intro  γ ad H locs cells slots ls h hI hl
    unfold f_Fam_argument_j54 at h
    refine lv_aload_n hx hb d_Fam_argument_54 rfl (lv_at hl 0 rfl) ?_
    refine kf_Fam_environment S E hI.1 vt_150 d_Fam_argument_55 ?_
    refine lv_aload_n hx hb d_Fam_argument_58 rfl (lv_at hl 0 rfl) ?_
    refine kg_p (As := []) (rest := [.ref (kad g 3)]) (k_Fam_constantAt (l := l) (g := g) (α := γ) ) S E hI.1 kw_Fam_155 ⟨Nat.le_of_ble_eq_true rfl, Nat.le_of_ble_eq_true rfl⟩ hI.room (kv_Fam E hI.1) rfl hl.1 rfl (Nat.le_of_ble_eq_true rfl) d_Fam_argument_59 rfl ?_
    refine lv_bipush (v := 8) hx hb d_Fam_argument_62 (by decide) ?_
    refine lv_aload_n hx hb d_Fam_argument_64 rfl (lv_at hl 0 rfl) ?_
    refine kf_Fam_family S E hI.1 vt_974 d_Fam_argument_65 ?_
    refine kg_tV (As := [.int (f_Fam_constantAt γ), .int 8, .int (γ.1 25)]) (rest := []) (k_Env_fix (l := l) (g := g) (α := γ) (f_Fam_constantAt γ) 8 (γ.1 25)) S hlocks hno E hI kw_Fam_106 ⟨Nat.le_of_ble_eq_true rfl, Nat.le_of_ble_eq_true rfl⟩ (kv_Env E hI.1) rfl hl.1 rfl (Nat.le_of_ble_eq_true rfl) d_Fam_argument_68 (fun ad H locs cells slots hRm hI => ?_)
    refine lv_aload_n hx hb d_Fam_argument_71 rfl (lv_at hl 0 rfl) ?_
    refine kf_Fam_environment S E hI.1 vt_150 d_Fam_argument_72 ?_
    refine lv_aload_n hx hb d_Fam_argument_75 rfl (lv_at hl 0 rfl) ?_
    refine kg_p (As := []) (rest := [.ref (kad g 3)]) (k_Fam_constantAt (l := l) (g := g) (α := (f_Env_fix (f_Fam_constantAt γ) 8 (γ.1 25) γ)) ) S E hI.1 kw_Fam_155 ⟨Nat.le_of_ble_eq_true rfl, Nat.le_of_ble_eq_true rfl⟩ hI.room (kv_Fam E hI.1) rfl hl.1 rfl (Nat.le_of_ble_eq_true rfl) d_Fam_argument_76 rfl ?_
    refine lv_bipush (v := 6) hx hb d_Fam_argument_79 (by decide) ?_
    refine lv_aload_n hx hb d_Fam_argument_81 rfl (lv_at hl 0 rfl) ?_
    refine kf_Fam_sorts S E hI.1 vt_155 d_Fam_argument_82 ?_
    refine kg_p (As := []) (rest := [.int 6, .int (f_Fam_constantAt (f_Env_fix (f_Fam_constantAt γ) 8 (γ.1 25) γ)), .ref (kad g 3)]) (k_Row_size (l := l) (g := g) (α := (f_Env_fix (f_Fam_constantAt γ) 8 (γ.1 25) γ)) (r := 15) (by decide)) S E hI.1 kw_Fam_158 ⟨Nat.le_of_ble_eq_true rfl, Nat.le_of_ble_eq_true rfl⟩ hI.room (kv_Row (r := 15) (by decide) E hI.1) rfl hl.1 rfl (Nat.le_of_ble_eq_true rfl) d_Fam_argument_85 rfl ?_
    refine kg_tV (As := [.int (f_Fam_constantAt (f_Env_fix (f_Fam_constantAt γ) 8 (γ.1 25) γ)), .int 6, .int (fR_size (f_Env_fix (f_Fam_constantAt γ) 8 (γ.1 25) γ) 15)]) (rest := []) (k_Env_fix (l := l) (g := g) (α := (f_Env_fix (f_Fam_constantAt γ) 8 (γ.1 25) γ)) (f_Fam_constantAt (f_Env_fix (f_Fam_constantAt γ) 8 (γ.1 25) γ)) 6 (fR_size (f_Env_fix (f_Fam_constantAt γ) 8 (γ.1 25) γ) 15)) S hlocks hno E hI kw_Fam_106 ⟨Nat.le_of_ble_eq_true rfl, Nat.le_of_ble_eq_true rfl⟩ (kv_Env E hI.1) rfl hl.1 rfl (Nat.le_of_ble_eq_true rfl) d_Fam_argument_88 (fun ad H locs cells slots hRm hI => ?_)
    refine lv_aload_n hx hb d_Fam_argument_91 rfl (lv_at hl 0 rfl) ?_
    refine kf_Fam_members S E hI.1 vt_981 d_Fam_argument_92 ?_
    refine lv_iconst (v := 1) hx hb d_Fam_argument_95 (by decide) ?_
    refine lv_icmp_ne (tgt := 120) hx hb d_Fam_argument_96 (by decide) (fun c6 => ?_) (fun c6 => ?_)
    · replace h := Eq.trans (if_neg c6).symm h
      exact J120  _ _ _ _ _ _ _ h hI (lv_sub hl [0] rfl)
    · replace h := Eq.trans (if_pos c6).symm h
      refine lv_aload_n hx hb d_Fam_argument_99 rfl (lv_at hl 0 rfl) ?_
      refine kg_cI (As := []) (rest := []) h (k_Fam_isDetermined (l := l) (g := g) (α := (f_Env_fix (f_Fam_constantAt (f_Env_fix (f_Fam_constantAt γ) 8 (γ.1 25) γ)) 6 (fR_size (f_Env_fix (f_Fam_constantAt γ) 8 (γ.1 25) γ) 15) (f_Env_fix (f_Fam_constantAt γ) 8 (γ.1 25) γ))) hfl N) S hlocks hno E hI kw_Fam_161 ⟨Nat.le_of_ble_eq_true rfl, Nat.le_of_ble_eq_true rfl⟩ (kv_Fam E hI.1) rfl hl.1 rfl (Nat.le_of_ble_eq_true rfl) d_Fam_argument_100 (fun v14 α12 ad H locs cells slots e13 h hRm hI => ?_)
      refine lv_if_eq (tgt := 120) hx hb d_Fam_argument_103 (by decide) (fun c15 => ?_) (fun c15 => ?_)
      · replace h := Eq.trans (if_pos c15).symm h
        exact J120  _ _ _ _ _ _ _ h hI (lv_sub hl [0] rfl)
      · replace h := Eq.trans (if_neg c15).symm h
        refine lv_aload_n hx hb d_Fam_argument_106 rfl (lv_at hl 0 rfl) ?_
        refine kf_Fam_environment S E hI.1 vt_150 d_Fam_argument_107 ?_
        refine lv_aload_n hx hb d_Fam_argument_110 rfl (lv_at hl 0 rfl) ?_
        refine kf_Fam_family S E hI.1 vt_974 d_Fam_argument_111 ?_
        refine lv_bipush (v := 9) hx hb d_Fam_argument_114 (by decide) ?_
        refine lv_iconst (v := 1) hx hb d_Fam_argument_116 (by decide) ?_
        refine kg_tV (As := [.int (α12.1 25), .int 9, .int 1]) (rest := []) (k_Env_fix (l := l) (g := g) (α := α12) (α12.1 25) 9 1) S hlocks hno E hI kw_Fam_106 ⟨Nat.le_of_ble_eq_true rfl, Nat.le_of_ble_eq_true rfl⟩ (kv_Env E hI.1) rfl hl.1 rfl (Nat.le_of_ble_eq_true rfl) d_Fam_argument_117 (fun ad H locs cells slots hRm hI => ?_)
        exact J120  _ _ _ _ _ _ _ h hI (lv_sub hl [0] rfl)
  refine lv_aload_n hx hb d_Fam_argument_0 rfl (lv_at hl 0 rfl) ?_
  refine kf_Fam_terms S E hI.1 vt_149 d_Fam_argument_1 ?_
  refine lv_aload_n hx hb d_Fam_argument_4 rfl (lv_at hl 0 rfl) ?_
  refine kf_Fam_rest S E hI.1 vt_1014 d_Fam_argument_5 ?_
  refine kg_p (As := [.int (α.1 32)]) (rest := []) (k_Terms_kind (l := l) (g := g) (α := α) (α.1 32)) S E hI.1 kw_Fam_85 ⟨Nat.le_of_ble_eq_true rfl, Nat.le_of_ble_eq_true rfl⟩ hI.room (kv_Terms E hI.1) rfl hl.1 rfl (Nat.le_of_ble_eq_true rfl) d_Fam_argument_8 rfl ?_
  refine lv_bipush (v := 6) hx hb d_Fam_argument_11 (by decide) ?_
  refine lv_icmp_ne (tgt := 34) hx hb d_Fam_argument_13 (by decide) (fun c1 => ?_) (fun c1 => ?_)
  · replace h := Eq.trans (if_neg c1).symm h
    refine lv_aload_n hx hb d_Fam_argument_34 rfl (lv_at hl 0 rfl) ?_
    refine lv_aload_n hx hb d_Fam_argument_35 rfl (lv_at hl 0 rfl) ?_
    refine kf_Fam_rest S E hI.1 vt_1014 d_Fam_argument_36 ?_
    refine kg_cI (As := [.int (α.1 32)]) (rest := []) h (k_Fam_endsInFamily (l := l) (g := g) (α := α) hfl N (α.1 32)) S hlocks hno E hI kw_Fam_151 ⟨Nat.le_of_ble_eq_true rfl, Nat.le_of_ble_eq_true rfl⟩ (kv_Fam E hI.1) rfl hl.1 rfl (Nat.le_of_ble_eq_true rfl) d_Fam_argument_39 (fun v4 α2 ad H locs cells slots e3 h hRm hI => ?_)
    refine lv_if_ne (tgt := 54) hx hb d_Fam_argument_42 (by decide) (fun c5 => ?_) (fun c5 => ?_)
    · replace h := Eq.trans (if_neg c5).symm h
      exact J54  _ _ _ _ _ _ _ h hI (lv_sub hl [0] rfl)
    · replace h := Eq.trans (if_pos c5).symm h
      refine lv_aload_n hx hb d_Fam_argument_45 rfl (lv_at hl 0 rfl) ?_
      refine kf_Fam_meter S E hI.1 vt_148 d_Fam_argument_46 ?_
      refine lv_bipush (v := 8) hx hb d_Fam_argument_49 (by decide) ?_
      refine kg_cV (As := [.int 8]) (rest := []) h (k_Meter_fail (l := l) (g := g) (α := α2) hfl N 8) S hlocks hno E hI kw_Fam_94 ⟨Nat.le_of_ble_eq_true rfl, Nat.le_of_ble_eq_true rfl⟩ (kv_Meter E hI.1) rfl hl.1 rfl (Nat.le_of_ble_eq_true rfl) d_Fam_argument_51 (fun α16 ad H locs cells slots e17 h hRm hI => ?_)
      exact J54  _ _ _ _ _ _ _ h hI (lv_sub hl [0] rfl)
  · replace h := Eq.trans (if_pos c1).symm h
    refine lv_aload_n hx hb d_Fam_argument_16 rfl (lv_at hl 0 rfl) ?_
    refine lv_bipush (v := 35) hx hb d_Fam_argument_17 (by decide) ?_
    refine lv_aload_n hx hb d_Fam_argument_19 rfl (lv_at hl 0 rfl) ?_
    refine kf_Fam_terms S E hI.1 vt_149 d_Fam_argument_20 ?_
    refine lv_aload_n hx hb d_Fam_argument_23 rfl (lv_at hl 0 rfl) ?_
    refine kf_Fam_rest S E hI.1 vt_1014 d_Fam_argument_24 ?_
    refine kg_p (As := [.int (α.1 32)]) (rest := [.int 35, .ref (kad g 9)]) (k_Terms_left (l := l) (g := g) (α := α) (α.1 32)) S E hI.1 kw_Fam_100 ⟨Nat.le_of_ble_eq_true rfl, Nat.le_of_ble_eq_true rfl⟩ hI.room (kv_Terms E hI.1) rfl hl.1 rfl (Nat.le_of_ble_eq_true rfl) d_Fam_argument_27 rfl ?_
    refine kg_cV (As := [.int 35, .int (f_Terms_left (α.1 32) α)]) (rest := []) h (k_Fam_sortOf (l := l) (g := g) (α := α) hfl N 35 (f_Terms_left (α.1 32) α)) S hlocks hno E hI kw_Fam_114 ⟨Nat.le_of_ble_eq_true rfl, Nat.le_of_ble_eq_true rfl⟩ (kv_Fam E hI.1) rfl hl.1 rfl (Nat.le_of_ble_eq_true rfl) d_Fam_argument_30 (fun α18 ad H locs cells slots e19 h hRm hI => ?_)
    exact kc_vret hx hb hr hlocks E hI h d_Fam_argument_33
def f_Fam_isRecursive_4 (N : Nat)  : Nat → Int32 → Int32 → kS → Option (kO × kS)
  | 0, _, _, _ => none
  | n + 1, x3, x2, β => if 3000 ≤ x3 then (kBi (f_Fam_endsInFamily N x2 β) fun v4 α2 => (some (some (some (v4 &&& 1)), α2))) else (if (f_Terms_kind x2 β) = 6 then (kBi (f_Terms_has N (f_Terms_left x2 β) 3 (β.1 25) β) fun v11 α9 => (if v11 = 0 then (f_Fam_isRecursive_4 N n (x3 + 1) (f_Terms_right x2 α9) α9) else (some (some (some 0), α9)))) else (kBi (f_Fam_endsInFamily N x2 β) fun v8 α6 => (some (some (some (v8 &&& 1)), α6))))
def f_Fam_isRecursive (N : Nat) (a1 : Int32) (α : kS) : Option (kO × kS) := f_Fam_isRecursive_4 N N 0 a1 α
set_option maxHeartbeats 4000000 in
set_option maxRecDepth 100000 in
theorem k_Fam_isRecursive {l : Launch} {g : kG} {α : kS} (hfl : kFl l) (N : Nat) (a1 : Int32)  : ∀ x, f_Fam_isRecursive N a1 α = some x → kC l g y_Fam_isRecursive b_Fam_isRecursive 4 (some .boolean) 33 974 [.ref (kad g 9), .int a1] α (kQr x) := by
  intro x h
  unfold f_Fam_isRecursive at h
  refine kc_ofW (by decide) (fun A ad0 p e s m args below meth c S hr hlocks hno hadm hargs E hI => ?_)
  have hx := S.1
  have hb := S.2.1
  have hown := S.2.2.2.1
  have hT := S.2.2.2.2
  subst hargs
  have hl := lv_entry ([.ref (kad g 9), .int a1]) (n := 4) (Nat.le_of_ble_eq_true rfl)
  rw [lg_entry_eq]
  generalize (lg_sl ([.ref (kad g 9), .int a1]) ++ List.replicate (4 - (lg_sl ([.ref (kad g 9), .int a1])).length) Slot.unset).toArray = ls at hl ⊢
  have hl : lv_has ls 4 [(0, .ref (kad g 9)), (1, .int a1)] := hl
  refine lv_iload_n hx hb d_Fam_isRecursive_0 rfl (lv_at hl 1 rfl) ?_
  refine lv_istore_n (lv' := [(2, .int a1), (0, .ref (kad g 9)), (1, .int a1)]) hx hb d_Fam_isRecursive_1 rfl hl (by decide) rfl (fun ls hl => ?_)
  refine lv_iconst (v := 0) hx hb d_Fam_isRecursive_2 (by decide) ?_
  refine lv_istore_n (lv' := [(3, .int 0), (2, .int a1), (0, .ref (kad g 9)), (1, .int a1)]) hx hb d_Fam_isRecursive_3 rfl hl (by decide) rfl (fun ls hl => ?_)
  have L4 : ∀ (n4 : Nat) (x3 : Int32) (x2 : Int32) (β : kS) (ad : Nat → Nat) (H : Heap) (locs : List Loc) (cells slots : Nat) (ls : Array Slot), f_Fam_isRecursive_4 N n4 x3 x2 β = some x → kI g A s α ad0 β ad H locs cells slots → lv_has ls 4 [(3, .int x3), (2, .int x2), (0, .ref (kad g 9))] → W p l e (kR 33 974 α) s m ([.ref (kad g 9), .int a1]).toArray below meth c H locs cells slots (vEQ below (kQ g A α ad0 (kQr x)) ([.ref (kad g 9), .int a1]).toArray s A) (F0 m 4 ls []) := by
    intro n4
    induction n4 with
    | zero => intro x3 x2 β ad H locs cells slots ls h hI hl; rw [f_Fam_isRecursive_4] at h; cases h
    | succ n4 ih4 =>
      intro x3 x2 β ad H locs cells slots ls h hI hl
      rw [f_Fam_isRecursive_4] at h
      refine lv_iload_n hx hb d_Fam_isRecursive_4 rfl (lv_at hl 0 rfl) ?_
      refine lv_sipush (v := 3000) hx hb d_Fam_isRecursive_5 (by decide) ?_
      refine lv_icmp_ge (tgt := 64) hx hb d_Fam_isRecursive_8 (by decide) (fun c1 => ?_) (fun c1 => ?_)
      · replace h := Eq.trans (if_pos c1).symm h
        refine lv_aload_n hx hb d_Fam_isRecursive_64 rfl (lv_at hl 2 rfl) ?_
        refine lv_iload_n hx hb d_Fam_isRecursive_65 rfl (lv_at hl 1 rfl) ?_
        refine kg_cI (As := [.int x2]) (rest := []) h (k_Fam_endsInFamily (l := l) (g := g) (α := β) hfl N x2) S hlocks hno E hI kw_Fam_151 ⟨Nat.le_of_ble_eq_true rfl, Nat.le_of_ble_eq_true rfl⟩ (kv_Fam E hI.1) rfl hl.1 rfl (Nat.le_of_ble_eq_true rfl) d_Fam_isRecursive_66 (fun v4 α2 ad H locs cells slots e3 h hRm hI => ?_)
        exact kc_iret (w := (v4 &&& 1)) hx hb hr rfl hlocks E hI h d_Fam_isRecursive_69
      · replace h := Eq.trans (if_neg c1).symm h
        refine lv_aload_n hx hb d_Fam_isRecursive_11 rfl (lv_at hl 2 rfl) ?_
        refine kf_Fam_terms S E hI.1 vt_149 d_Fam_isRecursive_12 ?_
        refine lv_iload_n hx hb d_Fam_isRecursive_15 rfl (lv_at hl 1 rfl) ?_
        refine kg_p (As := [.int x2]) (rest := []) (k_Terms_kind (l := l) (g := g) (α := β) x2) S E hI.1 kw_Fam_85 ⟨Nat.le_of_ble_eq_true rfl, Nat.le_of_ble_eq_true rfl⟩ hI.room (kv_Terms E hI.1) rfl hl.1 rfl (Nat.le_of_ble_eq_true rfl) d_Fam_isRecursive_16 rfl ?_
        refine lv_bipush (v := 6) hx hb d_Fam_isRecursive_19 (by decide) ?_
        refine lv_icmp_ne (tgt := 64) hx hb d_Fam_isRecursive_21 (by decide) (fun c5 => ?_) (fun c5 => ?_)
        · replace h := Eq.trans (if_neg c5).symm h
          refine lv_aload_n hx hb d_Fam_isRecursive_64 rfl (lv_at hl 2 rfl) ?_
          refine lv_iload_n hx hb d_Fam_isRecursive_65 rfl (lv_at hl 1 rfl) ?_
          refine kg_cI (As := [.int x2]) (rest := []) h (k_Fam_endsInFamily (l := l) (g := g) (α := β) hfl N x2) S hlocks hno E hI kw_Fam_151 ⟨Nat.le_of_ble_eq_true rfl, Nat.le_of_ble_eq_true rfl⟩ (kv_Fam E hI.1) rfl hl.1 rfl (Nat.le_of_ble_eq_true rfl) d_Fam_isRecursive_66 (fun v8 α6 ad H locs cells slots e7 h hRm hI => ?_)
          exact kc_iret (w := (v8 &&& 1)) hx hb hr rfl hlocks E hI h d_Fam_isRecursive_69
        · replace h := Eq.trans (if_pos c5).symm h
          refine lv_aload_n hx hb d_Fam_isRecursive_24 rfl (lv_at hl 2 rfl) ?_
          refine kf_Fam_terms S E hI.1 vt_149 d_Fam_isRecursive_25 ?_
          refine lv_aload_n hx hb d_Fam_isRecursive_28 rfl (lv_at hl 2 rfl) ?_
          refine kf_Fam_terms S E hI.1 vt_149 d_Fam_isRecursive_29 ?_
          refine lv_iload_n hx hb d_Fam_isRecursive_32 rfl (lv_at hl 1 rfl) ?_
          refine kg_p (As := [.int x2]) (rest := [.ref (kad g 2)]) (k_Terms_left (l := l) (g := g) (α := β) x2) S E hI.1 kw_Fam_100 ⟨Nat.le_of_ble_eq_true rfl, Nat.le_of_ble_eq_true rfl⟩ hI.room (kv_Terms E hI.1) rfl hl.1 rfl (Nat.le_of_ble_eq_true rfl) d_Fam_isRecursive_33 rfl ?_
          refine lv_iconst (v := 3) hx hb d_Fam_isRecursive_36 (by decide) ?_
          refine lv_aload_n hx hb d_Fam_isRecursive_37 rfl (lv_at hl 2 rfl) ?_
          refine kf_Fam_family S E hI.1 vt_974 d_Fam_isRecursive_38 ?_
          refine kg_cI (As := [.int (f_Terms_left x2 β), .int 3, .int (β.1 25)]) (rest := []) h (k_Terms_has (l := l) (g := g) (α := β) hfl N (f_Terms_left x2 β) 3 (β.1 25)) S hlocks hno E hI kw_Fam_171 ⟨Nat.le_of_ble_eq_true rfl, Nat.le_of_ble_eq_true rfl⟩ (kv_Terms E hI.1) rfl hl.1 rfl (Nat.le_of_ble_eq_true rfl) d_Fam_isRecursive_41 (fun v11 α9 ad H locs cells slots e10 h hRm hI => ?_)
          refine lv_if_eq (tgt := 49) hx hb d_Fam_isRecursive_44 (by decide) (fun c12 => ?_) (fun c12 => ?_)
          · replace h := Eq.trans (if_pos c12).symm h
            refine lv_aload_n hx hb d_Fam_isRecursive_49 rfl (lv_at hl 2 rfl) ?_
            refine kf_Fam_terms S E hI.1 vt_149 d_Fam_isRecursive_50 ?_
            refine lv_iload_n hx hb d_Fam_isRecursive_53 rfl (lv_at hl 1 rfl) ?_
            refine kg_p (As := [.int x2]) (rest := []) (k_Terms_right (l := l) (g := g) (α := α9) x2) S E hI.1 kw_Fam_91 ⟨Nat.le_of_ble_eq_true rfl, Nat.le_of_ble_eq_true rfl⟩ hI.room (kv_Terms E hI.1) rfl hl.1 rfl (Nat.le_of_ble_eq_true rfl) d_Fam_isRecursive_54 rfl ?_
            refine lv_istore_n (lv' := [(2, .int (f_Terms_right x2 α9)), (3, .int x3), (0, .ref (kad g 9))]) hx hb d_Fam_isRecursive_57 rfl hl (by decide) rfl (fun ls hl => ?_)
            refine lv_iinc (v := (x3 + 1)) (lv' := [(3, .int (x3 + 1)), (2, .int (f_Terms_right x2 α9)), (0, .ref (kad g 9))]) hx hb d_Fam_isRecursive_58 hl (k := 1) rfl rfl (by decide) rfl (fun ls hl => ?_)
            refine lv_goto (tgt := 4) hx hb d_Fam_isRecursive_61 (by decide) ?_
            exact ih4 (x3 + 1) (f_Terms_right x2 α9) _ _ _ _ _ _ _ h hI (lv_sub hl [0, 1, 2] rfl)
          · replace h := Eq.trans (if_neg c12).symm h
            refine lv_iconst (v := 0) hx hb d_Fam_isRecursive_47 (by decide) ?_
            exact kc_iret (w := 0) hx hb hr (by decide) hlocks E hI h d_Fam_isRecursive_48
  exact L4 N 0 a1 _ _ _ _ _ _ _ h hI (lv_sub hl [0, 1, 2] rfl)
theorem kw_Fam_168 : kWv "FamilyKernel$Families" 168 "FamilyKernel$Frames" y_Fra_result b_Fra_result 1 (some .int) 0 := ⟨vt_1042, vt_884, vt_885, vt_47, vt_886, by decide, by decide, by decide +kernel⟩
theorem kw_Fam_178 : kWv "FamilyKernel$Families" 178 "FamilyKernel$Row" y_Row_push b_Row_push 2 none 1 := ⟨vt_1047, vt_252, vt_253, vt_4, vt_254, by decide, by decide, by decide +kernel⟩
theorem kw_Fam_175 : kWv "FamilyKernel$Families" 175 "FamilyKernel$Families" y_Fam_isRecursive b_Fam_isRecursive 4 (some .boolean) 1 := ⟨vt_1043, vt_1044, vt_1045, vt_68, vt_1046, by decide, by decide, by decide +kernel⟩
def f_Fam_argumentTested_j107 (N : Nat)  (y2 : Int32) (y1 : Int32) (γ : kS) : Option (kO × kS) := kBv (fR_push γ 15 y2) fun α6 => (kBi (f_Fra_newVariable N y1 α6) fun v10 α8 => (kBi (f_Terms_make N 1 v10 0 α8) fun v13 α11 => (kBi (f_Terms_rewrite N 0 (f_Terms_right (α11.1 32) α11) v13 α11) fun v16 α14 => (some (some none, (f_Fra_set 0 34 (kSi α14 32 v16)))))))
def f_Fam_argumentTested_j77 (N : Nat)  (y2 : Int32) (y1 : Int32) (γ : kS) : Option (kO × kS) := f_Fam_argumentTested_j107 N y2 y1 (f_Env_fix (f_Fam_constantAt γ) 7 ((f_Env_fact (f_Fam_constantAt γ) 7 γ) + 1) γ)
def f_Fam_argumentTested_j44 (N : Nat)  (y2 : Int32) (y1 : Int32) (γ : kS) : Option (kO × kS) := kBi (f_Terms_has N y1 3 (γ.1 25) γ) fun v4 α2 => (if v4 = 0 then (f_Fam_argumentTested_j107 N y2 y1 α2) else (kBi (f_Fam_isRecursive N y1 α2) fun v19 α17 => (if v19 = 0 then (kBv (f_Meter_fail N 8 α17) fun α21 => (f_Fam_argumentTested_j77 N y2 y1 α21)) else (f_Fam_argumentTested_j77 N y2 y1 α17))))
def f_Fam_argumentTested (N : Nat)  (α : kS) : Option (kO × kS) := if (α.1 29) = 0 then (f_Fam_argumentTested_j44 N (f_Fra_result α) (f_Terms_left (α.1 32) α) α) else (if (f_Fra_result α) ≤ (α.1 29) then (f_Fam_argumentTested_j44 N (f_Fra_result α) (f_Terms_left (α.1 32) α) α) else (kBv (f_Meter_fail N 7 α) fun α24 => (f_Fam_argumentTested_j44 N (f_Fra_result α) (f_Terms_left (α.1 32) α) α24)))
set_option maxHeartbeats 4000000 in
set_option maxRecDepth 100000 in
theorem k_Fam_argumentTested {l : Launch} {g : kG} {α : kS} (hfl : kFl l) (N : Nat)   : ∀ x, f_Fam_argumentTested N α = some x → kC l g y_Fam_argumentTested b_Fam_argumentTested 4 none 34 997 [.ref (kad g 9)] α (kQr x) := by
  intro x h
  unfold f_Fam_argumentTested at h
  refine kc_ofW (by decide) (fun A ad0 p e s m args below meth c S hr hlocks hno hadm hargs E hI => ?_)
  have hx := S.1
  have hb := S.2.1
  have hown := S.2.2.2.1
  have hT := S.2.2.2.2
  subst hargs
  have hl := lv_entry ([.ref (kad g 9)]) (n := 4) (Nat.le_of_ble_eq_true rfl)
  rw [lg_entry_eq]
  generalize (lg_sl ([.ref (kad g 9)]) ++ List.replicate (4 - (lg_sl ([.ref (kad g 9)])).length) Slot.unset).toArray = ls at hl ⊢
  have hl : lv_has ls 4 [(0, .ref (kad g 9))] := hl
  have J107 : ∀ (y2 : Int32) (y1 : Int32) (γ : kS) (ad : Nat → Nat) (H : Heap) (locs : List Loc) (cells slots : Nat) (ls : Array Slot), f_Fam_argumentTested_j107 N y2 y1 γ = some x → kI g A s α ad0 γ ad H locs cells slots → lv_has ls 4 [(2, .int y2), (1, .int y1), (0, .ref (kad g 9))] → W p l e (kR 34 997 α) s m ([.ref (kad g 9)]).toArray below meth c H locs cells slots (vEQ below (kQ g A α ad0 (kQr x)) ([.ref (kad g 9)]).toArray s A) (F0 m 107 ls []) := by
    intro y2 y1 γ ad H locs cells slots ls h hI hl
    unfold f_Fam_argumentTested_j107 at h
    refine lv_aload_n hx hb d_Fam_argumentTested_107 rfl (lv_at hl 2 rfl) ?_
    refine kf_Fam_sorts S E hI.1 vt_155 d_Fam_argumentTested_108 ?_
    refine lv_iload_n hx hb d_Fam_argumentTested_111 rfl (lv_at hl 0 rfl) ?_
    refine kg_cV (As := [.int y2]) (rest := []) h (k_Row_push (l := l) (g := g) (α := γ) (r := 15) (by decide) y2) S hlocks hno E hI kw_Fam_178 ⟨Nat.le_of_ble_eq_true rfl, Nat.le_of_ble_eq_true rfl⟩ (kv_Row (r := 15) (by decide) E hI.1) rfl hl.1 rfl (Nat.le_of_ble_eq_true rfl) d_Fam_argumentTested_112 (fun α6 ad H locs cells slots e7 h hRm hI => ?_)
    refine lv_aload_n hx hb d_Fam_argumentTested_115 rfl (lv_at hl 2 rfl) ?_
    refine kf_Fam_terms S E hI.1 vt_149 d_Fam_argumentTested_116 ?_
    refine lv_iconst (v := 1) hx hb d_Fam_argumentTested_119 (by decide) ?_
    refine lv_aload_n hx hb d_Fam_argumentTested_120 rfl (lv_at hl 2 rfl) ?_
    refine kf_Fam_frames S E hI.1 vt_147 d_Fam_argumentTested_121 ?_
    refine lv_iload_n hx hb d_Fam_argumentTested_124 rfl (lv_at hl 1 rfl) ?_
    refine kg_cI (As := [.int y1]) (rest := [.int 1, .ref (kad g 2)]) h (k_Fra_newVariable (l := l) (g := g) (α := α6) hfl N y1) S hlocks hno E hI kw_Fam_139 ⟨Nat.le_of_ble_eq_true rfl, Nat.le_of_ble_eq_true rfl⟩ (kv_Fra E hI.1) rfl hl.1 rfl (Nat.le_of_ble_eq_true rfl) d_Fam_argumentTested_125 (fun v10 α8 ad H locs cells slots e9 h hRm hI => ?_)
    refine lv_iconst (v := 0) hx hb d_Fam_argumentTested_128 (by decide) ?_
    refine kg_cI (As := [.int 1, .int v10, .int 0]) (rest := []) h (k_Terms_make (l := l) (g := g) (α := α8) hfl N 1 v10 0) S hlocks hno E hI kw_Fam_180 ⟨Nat.le_of_ble_eq_true rfl, Nat.le_of_ble_eq_true rfl⟩ (kv_Terms E hI.1) rfl hl.1 rfl (Nat.le_of_ble_eq_true rfl) d_Fam_argumentTested_129 (fun v13 α11 ad H locs cells slots e12 h hRm hI => ?_)
    refine lv_istore_n (lv' := [(3, .int v13), (2, .int y2), (1, .int y1), (0, .ref (kad g 9))]) hx hb d_Fam_argumentTested_132 rfl hl (by decide) rfl (fun ls hl => ?_)
    refine lv_aload_n hx hb d_Fam_argumentTested_133 rfl (lv_at hl 3 rfl) ?_
    refine lv_aload_n hx hb d_Fam_argumentTested_134 rfl (lv_at hl 3 rfl) ?_
    refine kf_Fam_terms S E hI.1 vt_149 d_Fam_argumentTested_135 ?_
    refine lv_iconst (v := 0) hx hb d_Fam_argumentTested_138 (by decide) ?_
    refine lv_aload_n hx hb d_Fam_argumentTested_139 rfl (lv_at hl 3 rfl) ?_
    refine kf_Fam_terms S E hI.1 vt_149 d_Fam_argumentTested_140 ?_
    refine lv_aload_n hx hb d_Fam_argumentTested_143 rfl (lv_at hl 3 rfl) ?_
    refine kf_Fam_rest S E hI.1 vt_1014 d_Fam_argumentTested_144 ?_
    refine kg_p (As := [.int (α11.1 32)]) (rest := [.int 0, .ref (kad g 2), .ref (kad g 9)]) (k_Terms_right (l := l) (g := g) (α := α11) (α11.1 32)) S E hI.1 kw_Fam_91 ⟨Nat.le_of_ble_eq_true rfl, Nat.le_of_ble_eq_true rfl⟩ hI.room (kv_Terms E hI.1) rfl hl.1 rfl (Nat.le_of_ble_eq_true rfl) d_Fam_argumentTested_147 rfl ?_
    refine lv_iload_n hx hb d_Fam_argumentTested_150 rfl (lv_at hl 0 rfl) ?_
    refine kg_cI (As := [.int 0, .int (f_Terms_right (α11.1 32) α11), .int v13]) (rest := [.ref (kad g 9)]) h (k_Terms_rewrite (l := l) (g := g) (α := α11) hfl N 0 (f_Terms_right (α11.1 32) α11) v13) S hlocks hno E hI kw_Fam_135 ⟨Nat.le_of_ble_eq_true rfl, Nat.le_of_ble_eq_true rfl⟩ (kv_Terms E hI.1) rfl hl.1 rfl (Nat.le_of_ble_eq_true rfl) d_Fam_argumentTested_151 (fun v16 α14 ad H locs cells slots e15 h hRm hI => ?_)
    refine kp_Fam_rest S E hI vt_1014 d_Fam_argumentTested_154 (fun H locs hI => ?_)
    refine lv_aload_n hx hb d_Fam_argumentTested_157 rfl (lv_at hl 3 rfl) ?_
    refine kf_Fam_frames S E hI.1 vt_147 d_Fam_argumentTested_158 ?_
    refine lv_iconst (v := 0) hx hb d_Fam_argumentTested_161 (by decide) ?_
    refine lv_bipush (v := 34) hx hb d_Fam_argumentTested_162 (by decide) ?_
    refine kg_tV (As := [.int 0, .int 34]) (rest := []) (k_Fra_set (l := l) (g := g) (α := (kSi α14 32 v16)) 0 34) S hlocks hno E hI kw_Fam_119 ⟨Nat.le_of_ble_eq_true rfl, Nat.le_of_ble_eq_true rfl⟩ (kv_Fra E hI.1) rfl hl.1 rfl (Nat.le_of_ble_eq_true rfl) d_Fam_argumentTested_164 (fun ad H locs cells slots hRm hI => ?_)
    exact kc_vret hx hb hr hlocks E hI h d_Fam_argumentTested_167
  have J77 : ∀ (y2 : Int32) (y1 : Int32) (γ : kS) (ad : Nat → Nat) (H : Heap) (locs : List Loc) (cells slots : Nat) (ls : Array Slot), f_Fam_argumentTested_j77 N y2 y1 γ = some x → kI g A s α ad0 γ ad H locs cells slots → lv_has ls 4 [(2, .int y2), (1, .int y1), (0, .ref (kad g 9))] → W p l e (kR 34 997 α) s m ([.ref (kad g 9)]).toArray below meth c H locs cells slots (vEQ below (kQ g A α ad0 (kQr x)) ([.ref (kad g 9)]).toArray s A) (F0 m 77 ls []) := by
    intro y2 y1 γ ad H locs cells slots ls h hI hl
    unfold f_Fam_argumentTested_j77 at h
    refine lv_aload_n hx hb d_Fam_argumentTested_77 rfl (lv_at hl 2 rfl) ?_
    refine kf_Fam_environment S E hI.1 vt_150 d_Fam_argumentTested_78 ?_
    refine lv_aload_n hx hb d_Fam_argumentTested_81 rfl (lv_at hl 2 rfl) ?_
    refine kg_p (As := []) (rest := [.ref (kad g 3)]) (k_Fam_constantAt (l := l) (g := g) (α := γ) ) S E hI.1 kw_Fam_155 ⟨Nat.le_of_ble_eq_true rfl, Nat.le_of_ble_eq_true rfl⟩ hI.room (kv_Fam E hI.1) rfl hl.1 rfl (Nat.le_of_ble_eq_true rfl) d_Fam_argumentTested_82 rfl ?_
    refine lv_bipush (v := 7) hx hb d_Fam_argumentTested_85 (by decide) ?_
    refine kg_p (As := [.int (f_Fam_constantAt γ), .int 7]) (rest := []) (k_Env_fact (l := l) (g := g) (α := γ) (f_Fam_constantAt γ) 7) S E hI.1 kw_Fam_110 ⟨Nat.le_of_ble_eq_true rfl, Nat.le_of_ble_eq_true rfl⟩ hI.room (kv_Env E hI.1) rfl hl.1 rfl (Nat.le_of_ble_eq_true rfl) d_Fam_argumentTested_87 rfl ?_
    refine lv_istore_n (lv' := [(3, .int (f_Env_fact (f_Fam_constantAt γ) 7 γ)), (2, .int y2), (1, .int y1), (0, .ref (kad g 9))]) hx hb d_Fam_argumentTested_90 rfl hl (by decide) rfl (fun ls hl => ?_)
    refine lv_aload_n hx hb d_Fam_argumentTested_91 rfl (lv_at hl 3 rfl) ?_
    refine kf_Fam_environment S E hI.1 vt_150 d_Fam_argumentTested_92 ?_
    refine lv_aload_n hx hb d_Fam_argumentTested_95 rfl (lv_at hl 3 rfl) ?_
    refine kg_p (As := []) (rest := [.ref (kad g 3)]) (k_Fam_constantAt (l := l) (g := g) (α := γ) ) S E hI.1 kw_Fam_155 ⟨Nat.le_of_ble_eq_true rfl, Nat.le_of_ble_eq_true rfl⟩ hI.room (kv_Fam E hI.1) rfl hl.1 rfl (Nat.le_of_ble_eq_true rfl) d_Fam_argumentTested_96 rfl ?_
    refine lv_bipush (v := 7) hx hb d_Fam_argumentTested_99 (by decide) ?_
    refine lv_iload_n hx hb d_Fam_argumentTested_101 rfl (lv_at hl 0 rfl) ?_
    refine lv_iconst (v := 1) hx hb d_Fam_argumentTested_102 (by decide) ?_
    refine lv_iadd hx hb d_Fam_argumentTested_103 ?_
    refine kg_tV (As := [.int (f_Fam_constantAt γ), .int 7, .int ((f_Env_fact (f_Fam_constantAt γ) 7 γ) + 1)]) (rest := []) (k_Env_fix (l := l) (g := g) (α := γ) (f_Fam_constantAt γ) 7 ((f_Env_fact (f_Fam_constantAt γ) 7 γ) + 1)) S hlocks hno E hI kw_Fam_106 ⟨Nat.le_of_ble_eq_true rfl, Nat.le_of_ble_eq_true rfl⟩ (kv_Env E hI.1) rfl hl.1 rfl (Nat.le_of_ble_eq_true rfl) d_Fam_argumentTested_104 (fun ad H locs cells slots hRm hI => ?_)
    exact J107 y2 y1 _ _ _ _ _ _ _ h hI (lv_sub hl [1, 2, 3] rfl)
  have J44 : ∀ (y2 : Int32) (y1 : Int32) (γ : kS) (ad : Nat → Nat) (H : Heap) (locs : List Loc) (cells slots : Nat) (ls : Array Slot), f_Fam_argumentTested_j44 N y2 y1 γ = some x → kI g A s α ad0 γ ad H locs cells slots → lv_has ls 4 [(2, .int y2), (1, .int y1), (0, .ref (kad g 9))] → W p l e (kR 34 997 α) s m ([.ref (kad g 9)]).toArray below meth c H locs cells slots (vEQ below (kQ g A α ad0 (kQr x)) ([.ref (kad g 9)]).toArray s A) (F0 m 44 ls []) := by
    intro y2 y1 γ ad H locs cells slots ls h hI hl
    unfold f_Fam_argumentTested_j44 at h
    refine lv_aload_n hx hb d_Fam_argumentTested_44 rfl (lv_at hl 2 rfl) ?_
    refine kf_Fam_terms S E hI.1 vt_149 d_Fam_argumentTested_45 ?_
    refine lv_iload_n hx hb d_Fam_argumentTested_48 rfl (lv_at hl 1 rfl) ?_
    refine lv_iconst (v := 3) hx hb d_Fam_argumentTested_49 (by decide) ?_
    refine lv_aload_n hx hb d_Fam_argumentTested_50 rfl (lv_at hl 2 rfl) ?_
    refine kf_Fam_family S E hI.1 vt_974 d_Fam_argumentTested_51 ?_
    refine kg_cI (As := [.int y1, .int 3, .int (γ.1 25)]) (rest := []) h (k_Terms_has (l := l) (g := g) (α := γ) hfl N y1 3 (γ.1 25)) S hlocks hno E hI kw_Fam_171 ⟨Nat.le_of_ble_eq_true rfl, Nat.le_of_ble_eq_true rfl⟩ (kv_Terms E hI.1) rfl hl.1 rfl (Nat.le_of_ble_eq_true rfl) d_Fam_argumentTested_54 (fun v4 α2 ad H locs cells slots e3 h hRm hI => ?_)
    refine lv_if_eq (tgt := 107) hx hb d_Fam_argumentTested_57 (by decide) (fun c5 => ?_) (fun c5 => ?_)
    · replace h := Eq.trans (if_pos c5).symm h
      exact J107 y2 y1 _ _ _ _ _ _ _ h hI (lv_sub hl [0, 1, 2] rfl)
    · replace h := Eq.trans (if_neg c5).symm h
      refine lv_aload_n hx hb d_Fam_argumentTested_60 rfl (lv_at hl 2 rfl) ?_
      refine lv_iload_n hx hb d_Fam_argumentTested_61 rfl (lv_at hl 1 rfl) ?_
      refine kg_cI (As := [.int y1]) (rest := []) h (k_Fam_isRecursive (l := l) (g := g) (α := α2) hfl N y1) S hlocks hno E hI kw_Fam_175 ⟨Nat.le_of_ble_eq_true rfl, Nat.le_of_ble_eq_true rfl⟩ (kv_Fam E hI.1) rfl hl.1 rfl (Nat.le_of_ble_eq_true rfl) d_Fam_argumentTested_62 (fun v19 α17 ad H locs cells slots e18 h hRm hI => ?_)
      refine lv_if_ne (tgt := 77) hx hb d_Fam_argumentTested_65 (by decide) (fun c20 => ?_) (fun c20 => ?_)
      · replace h := Eq.trans (if_neg c20).symm h
        exact J77 y2 y1 _ _ _ _ _ _ _ h hI (lv_sub hl [0, 1, 2] rfl)
      · replace h := Eq.trans (if_pos c20).symm h
        refine lv_aload_n hx hb d_Fam_argumentTested_68 rfl (lv_at hl 2 rfl) ?_
        refine kf_Fam_meter S E hI.1 vt_148 d_Fam_argumentTested_69 ?_
        refine lv_bipush (v := 8) hx hb d_Fam_argumentTested_72 (by decide) ?_
        refine kg_cV (As := [.int 8]) (rest := []) h (k_Meter_fail (l := l) (g := g) (α := α17) hfl N 8) S hlocks hno E hI kw_Fam_94 ⟨Nat.le_of_ble_eq_true rfl, Nat.le_of_ble_eq_true rfl⟩ (kv_Meter E hI.1) rfl hl.1 rfl (Nat.le_of_ble_eq_true rfl) d_Fam_argumentTested_74 (fun α21 ad H locs cells slots e22 h hRm hI => ?_)
        exact J77 y2 y1 _ _ _ _ _ _ _ h hI (lv_sub hl [0, 1, 2] rfl)
  refine lv_aload_n hx hb d_Fam_argumentTested_0 rfl (lv_at hl 0 rfl) ?_
  refine kf_Fam_terms S E hI.1 vt_149 d_Fam_argumentTested_1 ?_
  refine lv_aload_n hx hb d_Fam_argumentTested_4 rfl (lv_at hl 0 rfl) ?_
  refine kf_Fam_rest S E hI.1 vt_1014 d_Fam_argumentTested_5 ?_
  refine kg_p (As := [.int (α.1 32)]) (rest := []) (k_Terms_left (l := l) (g := g) (α := α) (α.1 32)) S E hI.1 kw_Fam_100 ⟨Nat.le_of_ble_eq_true rfl, Nat.le_of_ble_eq_true rfl⟩ hI.room (kv_Terms E hI.1) rfl hl.1 rfl (Nat.le_of_ble_eq_true rfl) d_Fam_argumentTested_8 rfl ?_
  refine lv_istore_n (lv' := [(1, .int (f_Terms_left (α.1 32) α)), (0, .ref (kad g 9))]) hx hb d_Fam_argumentTested_11 rfl hl (by decide) rfl (fun ls hl => ?_)
  refine lv_aload_n hx hb d_Fam_argumentTested_12 rfl (lv_at hl 1 rfl) ?_
  refine kf_Fam_frames S E hI.1 vt_147 d_Fam_argumentTested_13 ?_
  refine kg_p (As := []) (rest := []) (k_Fra_result (l := l) (g := g) (α := α) ) S E hI.1 kw_Fam_168 ⟨Nat.le_of_ble_eq_true rfl, Nat.le_of_ble_eq_true rfl⟩ hI.room (kv_Fra E hI.1) rfl hl.1 rfl (Nat.le_of_ble_eq_true rfl) d_Fam_argumentTested_16 rfl ?_
  refine lv_istore_n (lv' := [(2, .int (f_Fra_result α)), (1, .int (f_Terms_left (α.1 32) α)), (0, .ref (kad g 9))]) hx hb d_Fam_argumentTested_19 rfl hl (by decide) rfl (fun ls hl => ?_)
  refine lv_aload_n hx hb d_Fam_argumentTested_20 rfl (lv_at hl 2 rfl) ?_
  refine kf_Fam_sort S E hI.1 vt_989 d_Fam_argumentTested_21 ?_
  refine lv_if_eq (tgt := 44) hx hb d_Fam_argumentTested_24 (by decide) (fun c1 => ?_) (fun c1 => ?_)
  · replace h := Eq.trans (if_pos c1).symm h
    exact J44 (f_Fra_result α) (f_Terms_left (α.1 32) α) _ _ _ _ _ _ _ h hI (lv_sub hl [0, 1, 2] rfl)
  · replace h := Eq.trans (if_neg c1).symm h
    refine lv_iload_n hx hb d_Fam_argumentTested_27 rfl (lv_at hl 0 rfl) ?_
    refine lv_aload_n hx hb d_Fam_argumentTested_28 rfl (lv_at hl 2 rfl) ?_
    refine kf_Fam_sort S E hI.1 vt_989 d_Fam_argumentTested_29 ?_
    refine lv_icmp_le (tgt := 44) hx hb d_Fam_argumentTested_32 (by decide) (fun c23 => ?_) (fun c23 => ?_)
    · replace h := Eq.trans (if_pos c23).symm h
      exact J44 (f_Fra_result α) (f_Terms_left (α.1 32) α) _ _ _ _ _ _ _ h hI (lv_sub hl [0, 1, 2] rfl)
    · replace h := Eq.trans (if_neg c23).symm h
      refine lv_aload_n hx hb d_Fam_argumentTested_35 rfl (lv_at hl 2 rfl) ?_
      refine kf_Fam_meter S E hI.1 vt_148 d_Fam_argumentTested_36 ?_
      refine lv_bipush (v := 7) hx hb d_Fam_argumentTested_39 (by decide) ?_
      refine kg_cV (As := [.int 7]) (rest := []) h (k_Meter_fail (l := l) (g := g) (α := α) hfl N 7) S hlocks hno E hI kw_Fam_94 ⟨Nat.le_of_ble_eq_true rfl, Nat.le_of_ble_eq_true rfl⟩ (kv_Meter E hI.1) rfl hl.1 rfl (Nat.le_of_ble_eq_true rfl) d_Fam_argumentTested_41 (fun α24 ad H locs cells slots e25 h hRm hI => ?_)
      exact J44 (f_Fra_result α) (f_Terms_left (α.1 32) α) _ _ _ _ _ _ _ h hI (lv_sub hl [0, 1, 2] rfl)
def f_Fam_memberTyped  (α : kS) : kS := (f_Fra_set 0 33 (kSi α 31 ((α.1 31) + 1)))
set_option maxHeartbeats 4000000 in
set_option maxRecDepth 100000 in
theorem k_Fam_memberTyped {l : Launch} {g : kG} {α : kS}   : kC l g y_Fam_memberTyped b_Fam_memberTyped 1 none 12 344 [.ref (kad g 9)] α (kQr (some none, f_Fam_memberTyped α)) := by
  generalize h : f_Fam_memberTyped α = x
  unfold f_Fam_memberTyped at h
  refine kc_ofW (by decide) (fun A ad0 p e s m args below meth c S hr hlocks hno hadm hargs E hI => ?_)
  have hx := S.1
  have hb := S.2.1
  have hown := S.2.2.2.1
  have hT := S.2.2.2.2
  subst hargs
  have hl := lv_entry ([.ref (kad g 9)]) (n := 1) (Nat.le_of_ble_eq_true rfl)
  rw [lg_entry_eq]
  generalize (lg_sl ([.ref (kad g 9)]) ++ List.replicate (1 - (lg_sl ([.ref (kad g 9)])).length) Slot.unset).toArray = ls at hl ⊢
  have hl : lv_has ls 1 [(0, .ref (kad g 9))] := hl
  refine lv_aload_n hx hb d_Fam_memberTyped_0 rfl (lv_at hl 0 rfl) ?_
  refine lv_dup hx hb d_Fam_memberTyped_1 rfl ?_
  refine kf_Fam_at S E hI.1 vt_983 d_Fam_memberTyped_2 ?_
  refine lv_iconst (v := 1) hx hb d_Fam_memberTyped_5 (by decide) ?_
  refine lv_iadd hx hb d_Fam_memberTyped_6 ?_
  refine kp_Fam_at S E hI vt_983 d_Fam_memberTyped_7 (fun H locs hI => ?_)
  refine lv_aload_n hx hb d_Fam_memberTyped_10 rfl (lv_at hl 0 rfl) ?_
  refine kf_Fam_frames S E hI.1 vt_147 d_Fam_memberTyped_11 ?_
  refine lv_iconst (v := 0) hx hb d_Fam_memberTyped_14 (by decide) ?_
  refine lv_bipush (v := 33) hx hb d_Fam_memberTyped_15 (by decide) ?_
  refine kg_tV (As := [.int 0, .int 33]) (rest := []) (k_Fra_set (l := l) (g := g) (α := (kSi α 31 ((α.1 31) + 1))) 0 33) S hlocks hno E hI kw_Fam_119 ⟨Nat.le_of_ble_eq_true rfl, Nat.le_of_ble_eq_true rfl⟩ (kv_Fra E hI.1) rfl hl.1 rfl (Nat.le_of_ble_eq_true rfl) d_Fam_memberTyped_17 (fun ad H locs cells slots hRm hI => ?_)
  exact kc_vret hx hb hr hlocks E hI (by rw [← h]) d_Fam_memberTyped_20
theorem kw_Fam_215 : kWv "FamilyKernel$Families" 215 "FamilyKernel$Terms" y_Terms_size b_Terms_size 2 (some .int) 1 := ⟨vt_1069, vt_545, vt_546, vt_19, vt_547, by decide, by decide, by decide +kernel⟩
theorem kw_Fam_226 : kWv "FamilyKernel$Families" 226 "FamilyKernel$Meter" y_Meter_charge b_Meter_charge 2 none 1 := ⟨vt_1082, vt_637, vt_638, vt_13, vt_639, by decide, by decide, by decide +kernel⟩
def f_Fam_payOpenings_18 (N : Nat)  (k2 : Int32 → kS → Option (kO × kS)) : Nat → Int32 → Int32 → Int32 → kS → Option (kO × kS)
  | 0, _, _, _, _ => none
  | n + 1, x3_18, x2_18, x1_18, β18 => if 3000 ≤ x3_18 then (k2 (x1_18 + 1) β18) else (if (f_Terms_kind x2_18 β18) = 6 then (kBv (f_Meter_charge N (f_Terms_size (f_Terms_right x2_18 β18) β18) β18) fun α4 => (f_Fam_payOpenings_18 N k2 n (x3_18 + 1) (f_Terms_right x2_18 β18) x1_18 α4)) else (k2 (x1_18 + 1) β18))
def f_Fam_payOpenings_2 (N : Nat)  : Nat → Int32 → kS → Option (kO × kS)
  | 0, _, _ => none
  | n + 1, x1, β => if (β.1 28) ≤ x1 then (some (some none, β)) else (f_Fam_payOpenings_18 N (f_Fam_payOpenings_2 N n) N 0 (f_Fam_memberTerm x1 β) x1 β)
def f_Fam_payOpenings (N : Nat)  (α : kS) : Option (kO × kS) := f_Fam_payOpenings_2 N N 0 α
set_option maxHeartbeats 4000000 in
set_option maxRecDepth 100000 in
theorem k_Fam_payOpenings {l : Launch} {g : kG} {α : kS} (hfl : kFl l) (N : Nat)   : ∀ x, f_Fam_payOpenings N α = some x → kC l g y_Fam_payOpenings b_Fam_payOpenings 4 none 13 364 [.ref (kad g 9)] α (kQr x) := by
  intro x h
  unfold f_Fam_payOpenings at h
  refine kc_ofW (by decide) (fun A ad0 p e s m args below meth c S hr hlocks hno hadm hargs E hI => ?_)
  have hx := S.1
  have hb := S.2.1
  have hown := S.2.2.2.1
  have hT := S.2.2.2.2
  subst hargs
  have hl := lv_entry ([.ref (kad g 9)]) (n := 4) (Nat.le_of_ble_eq_true rfl)
  rw [lg_entry_eq]
  generalize (lg_sl ([.ref (kad g 9)]) ++ List.replicate (4 - (lg_sl ([.ref (kad g 9)])).length) Slot.unset).toArray = ls at hl ⊢
  have hl : lv_has ls 4 [(0, .ref (kad g 9))] := hl
  refine lv_iconst (v := 0) hx hb d_Fam_payOpenings_0 (by decide) ?_
  refine lv_istore_n (lv' := [(1, .int 0), (0, .ref (kad g 9))]) hx hb d_Fam_payOpenings_1 rfl hl (by decide) rfl (fun ls hl => ?_)
  have L2 : ∀ (n2 : Nat) (x1 : Int32) (β : kS) (ad : Nat → Nat) (H : Heap) (locs : List Loc) (cells slots : Nat) (ls : Array Slot), f_Fam_payOpenings_2 N n2 x1 β = some x → kI g A s α ad0 β ad H locs cells slots → lv_has ls 4 [(1, .int x1), (0, .ref (kad g 9))] → W p l e (kR 13 364 α) s m ([.ref (kad g 9)]).toArray below meth c H locs cells slots (vEQ below (kQ g A α ad0 (kQr x)) ([.ref (kad g 9)]).toArray s A) (F0 m 2 ls []) := by
    intro n2
    induction n2 with
    | zero => intro x1 β ad H locs cells slots ls h hI hl; rw [f_Fam_payOpenings_2] at h; cases h
    | succ n2 ih2 =>
      intro x1 β ad H locs cells slots ls h hI hl
      rw [f_Fam_payOpenings_2] at h
      refine lv_iload_n hx hb d_Fam_payOpenings_2 rfl (lv_at hl 0 rfl) ?_
      refine lv_aload_n hx hb d_Fam_payOpenings_3 rfl (lv_at hl 1 rfl) ?_
      refine kf_Fam_members S E hI.1 vt_981 d_Fam_payOpenings_4 ?_
      refine lv_icmp_ge (tgt := 74) hx hb d_Fam_payOpenings_7 (by decide) (fun c1 => ?_) (fun c1 => ?_)
      · replace h := Eq.trans (if_pos c1).symm h
        exact kc_vret hx hb hr hlocks E hI h d_Fam_payOpenings_74
      · replace h := Eq.trans (if_neg c1).symm h
        refine lv_aload_n hx hb d_Fam_payOpenings_10 rfl (lv_at hl 1 rfl) ?_
        refine lv_iload_n hx hb d_Fam_payOpenings_11 rfl (lv_at hl 0 rfl) ?_
        refine kg_p (As := [.int x1]) (rest := []) (k_Fam_memberTerm (l := l) (g := g) (α := β) x1) S E hI.1 kw_Fam_145 ⟨Nat.le_of_ble_eq_true rfl, Nat.le_of_ble_eq_true rfl⟩ hI.room (kv_Fam E hI.1) rfl hl.1 rfl (Nat.le_of_ble_eq_true rfl) d_Fam_payOpenings_12 rfl ?_
        refine lv_istore_n (lv' := [(2, .int (f_Fam_memberTerm x1 β)), (1, .int x1), (0, .ref (kad g 9))]) hx hb d_Fam_payOpenings_15 rfl hl (by decide) rfl (fun ls hl => ?_)
        refine lv_iconst (v := 0) hx hb d_Fam_payOpenings_16 (by decide) ?_
        refine lv_istore_n (lv' := [(3, .int 0), (2, .int (f_Fam_memberTerm x1 β)), (1, .int x1), (0, .ref (kad g 9))]) hx hb d_Fam_payOpenings_17 rfl hl (by decide) rfl (fun ls hl => ?_)
        have L18 : ∀ (n18 : Nat) (x3_18 : Int32) (x2_18 : Int32) (x1_18 : Int32) (β18 : kS) (ad : Nat → Nat) (H : Heap) (locs : List Loc) (cells slots : Nat) (ls : Array Slot), f_Fam_payOpenings_18 N (f_Fam_payOpenings_2 N n2) n18 x3_18 x2_18 x1_18 β18 = some x → kI g A s α ad0 β18 ad H locs cells slots → lv_has ls 4 [(3, .int x3_18), (2, .int x2_18), (1, .int x1_18), (0, .ref (kad g 9))] → W p l e (kR 13 364 α) s m ([.ref (kad g 9)]).toArray below meth c H locs cells slots (vEQ below (kQ g A α ad0 (kQr x)) ([.ref (kad g 9)]).toArray s A) (F0 m 18 ls []) := by
          intro n18
          induction n18 with
          | zero => intro x3_18 x2_18 x1_18 β18 ad H locs cells slots ls h hI hl; rw [f_Fam_payOpenings_18] at h; cases h
          | succ n18 ih18 =>
            intro x3_18 x2_18 x1_18 β18 ad H locs cells slots ls h hI hl
            rw [f_Fam_payOpenings_18] at h
            refine lv_iload_n hx hb d_Fam_payOpenings_18 rfl (lv_at hl 0 rfl) ?_
            refine lv_sipush (v := 3000) hx hb d_Fam_payOpenings_19 (by decide) ?_
            refine lv_icmp_ge (tgt := 68) hx hb d_Fam_payOpenings_22 (by decide) (fun c2 => ?_) (fun c2 => ?_)
            · replace h := Eq.trans (if_pos c2).symm h
              refine lv_iinc (v := (x1_18 + 1)) (lv' := [(1, .int (x1_18 + 1)), (3, .int x3_18), (2, .int x2_18), (0, .ref (kad g 9))]) hx hb d_Fam_payOpenings_68 hl (k := 2) rfl rfl (by decide) rfl (fun ls hl => ?_)
              refine lv_goto (tgt := 2) hx hb d_Fam_payOpenings_71 (by decide) ?_
              exact ih2 (x1_18 + 1) _ _ _ _ _ _ _ h hI (lv_sub hl [0, 3] rfl)
            · replace h := Eq.trans (if_neg c2).symm h
              refine lv_aload_n hx hb d_Fam_payOpenings_25 rfl (lv_at hl 3 rfl) ?_
              refine kf_Fam_terms S E hI.1 vt_149 d_Fam_payOpenings_26 ?_
              refine lv_iload_n hx hb d_Fam_payOpenings_29 rfl (lv_at hl 1 rfl) ?_
              refine kg_p (As := [.int x2_18]) (rest := []) (k_Terms_kind (l := l) (g := g) (α := β18) x2_18) S E hI.1 kw_Fam_85 ⟨Nat.le_of_ble_eq_true rfl, Nat.le_of_ble_eq_true rfl⟩ hI.room (kv_Terms E hI.1) rfl hl.1 rfl (Nat.le_of_ble_eq_true rfl) d_Fam_payOpenings_30 rfl ?_
              refine lv_bipush (v := 6) hx hb d_Fam_payOpenings_33 (by decide) ?_
              refine lv_icmp_ne (tgt := 68) hx hb d_Fam_payOpenings_35 (by decide) (fun c3 => ?_) (fun c3 => ?_)
              · replace h := Eq.trans (if_neg c3).symm h
                refine lv_iinc (v := (x1_18 + 1)) (lv' := [(1, .int (x1_18 + 1)), (3, .int x3_18), (2, .int x2_18), (0, .ref (kad g 9))]) hx hb d_Fam_payOpenings_68 hl (k := 2) rfl rfl (by decide) rfl (fun ls hl => ?_)
                refine lv_goto (tgt := 2) hx hb d_Fam_payOpenings_71 (by decide) ?_
                exact ih2 (x1_18 + 1) _ _ _ _ _ _ _ h hI (lv_sub hl [0, 3] rfl)
              · replace h := Eq.trans (if_pos c3).symm h
                refine lv_aload_n hx hb d_Fam_payOpenings_38 rfl (lv_at hl 3 rfl) ?_
                refine kf_Fam_terms S E hI.1 vt_149 d_Fam_payOpenings_39 ?_
                refine lv_iload_n hx hb d_Fam_payOpenings_42 rfl (lv_at hl 1 rfl) ?_
                refine kg_p (As := [.int x2_18]) (rest := []) (k_Terms_right (l := l) (g := g) (α := β18) x2_18) S E hI.1 kw_Fam_91 ⟨Nat.le_of_ble_eq_true rfl, Nat.le_of_ble_eq_true rfl⟩ hI.room (kv_Terms E hI.1) rfl hl.1 rfl (Nat.le_of_ble_eq_true rfl) d_Fam_payOpenings_43 rfl ?_
                refine lv_istore_n (lv' := [(2, .int (f_Terms_right x2_18 β18)), (3, .int x3_18), (1, .int x1_18), (0, .ref (kad g 9))]) hx hb d_Fam_payOpenings_46 rfl hl (by decide) rfl (fun ls hl => ?_)
                refine lv_aload_n hx hb d_Fam_payOpenings_47 rfl (lv_at hl 3 rfl) ?_
                refine kf_Fam_meter S E hI.1 vt_148 d_Fam_payOpenings_48 ?_
                refine lv_aload_n hx hb d_Fam_payOpenings_51 rfl (lv_at hl 3 rfl) ?_
                refine kf_Fam_terms S E hI.1 vt_149 d_Fam_payOpenings_52 ?_
                refine lv_iload_n hx hb d_Fam_payOpenings_55 rfl (lv_at hl 0 rfl) ?_
                refine kg_p (As := [.int (f_Terms_right x2_18 β18)]) (rest := [.ref (kad g 1)]) (k_Terms_size (l := l) (g := g) (α := β18) (f_Terms_right x2_18 β18)) S E hI.1 kw_Fam_215 ⟨Nat.le_of_ble_eq_true rfl, Nat.le_of_ble_eq_true rfl⟩ hI.room (kv_Terms E hI.1) rfl hl.1 rfl (Nat.le_of_ble_eq_true rfl) d_Fam_payOpenings_56 rfl ?_
                refine kg_cV (As := [.int (f_Terms_size (f_Terms_right x2_18 β18) β18)]) (rest := []) h (k_Meter_charge (l := l) (g := g) (α := β18) hfl N (f_Terms_size (f_Terms_right x2_18 β18) β18)) S hlocks hno E hI kw_Fam_226 ⟨Nat.le_of_ble_eq_true rfl, Nat.le_of_ble_eq_true rfl⟩ (kv_Meter E hI.1) rfl hl.1 rfl (Nat.le_of_ble_eq_true rfl) d_Fam_payOpenings_59 (fun α4 ad H locs cells slots e5 h hRm hI => ?_)
                refine lv_iinc (v := (x3_18 + 1)) (lv' := [(3, .int (x3_18 + 1)), (2, .int (f_Terms_right x2_18 β18)), (1, .int x1_18), (0, .ref (kad g 9))]) hx hb d_Fam_payOpenings_62 hl (k := 1) rfl rfl (by decide) rfl (fun ls hl => ?_)
                refine lv_goto (tgt := 18) hx hb d_Fam_payOpenings_65 (by decide) ?_
                exact ih18 (x3_18 + 1) (f_Terms_right x2_18 β18) x1_18 _ _ _ _ _ _ _ h hI (lv_sub hl [0, 1, 2, 3] rfl)
        exact L18 N 0 (f_Fam_memberTerm x1 β) x1 _ _ _ _ _ _ _ h hI (lv_sub hl [0, 1, 2, 3] rfl)
  exact L2 N 0 _ _ _ _ _ _ _ h hI (lv_sub hl [0, 1] rfl)
def f_Fam_split_10 (N : Nat) (r2 : Nat) : Nat → Int32 → Int32 → kS → Option (kO × kS)
  | 0, _, _, _ => none
  | n + 1, x4, x3, β => if 3000 ≤ x4 then (some (some (some x3), β)) else (if (f_Terms_kind x3 β) = 6 then (kBv (fR_push β r2 (f_Terms_left x3 β)) fun α3 => (f_Fam_split_10 N r2 n (x4 + 1) (f_Terms_right x3 α3) α3)) else (some (some (some x3), β)))
def f_Fam_split (N : Nat) (a1 : Int32) (r2 : Nat) (α : kS) : Option (kO × kS) := f_Fam_split_10 N r2 N 0 a1 (fR_cut α r2 0)
set_option maxHeartbeats 4000000 in
set_option maxRecDepth 100000 in
theorem k_Fam_split {l : Launch} {g : kG} {α : kS} (hfl : kFl l) (N : Nat) (a1 : Int32) (r2 : Nat) (hr2 : r2 < 21) : ∀ x, f_Fam_split N a1 r2 α = some x → kC l g y_Fam_split b_Fam_split 5 (some .int) 31 921 [.ref (kad g 9), .int a1, .ref (kad g (11 + r2))] α (kQr x) := by
  intro x h
  unfold f_Fam_split at h
  refine kc_ofW (by decide) (fun A ad0 p e s m args below meth c S hr hlocks hno hadm hargs E hI => ?_)
  have hx := S.1
  have hb := S.2.1
  have hown := S.2.2.2.1
  have hT := S.2.2.2.2
  subst hargs
  have hl := lv_entry ([.ref (kad g 9), .int a1, .ref (kad g (11 + r2))]) (n := 5) (Nat.le_of_ble_eq_true rfl)
  rw [lg_entry_eq]
  generalize (lg_sl ([.ref (kad g 9), .int a1, .ref (kad g (11 + r2))]) ++ List.replicate (5 - (lg_sl ([.ref (kad g 9), .int a1, .ref (kad g (11 + r2))])).length) Slot.unset).toArray = ls at hl ⊢
  have hl : lv_has ls 5 [(0, .ref (kad g 9)), (1, .int a1), (2, .ref (kad g (11 + r2)))] := hl
  refine lv_iload_n hx hb d_Fam_split_0 rfl (lv_at hl 1 rfl) ?_
  refine lv_istore_n (lv' := [(3, .int a1), (0, .ref (kad g 9)), (1, .int a1), (2, .ref (kad g (11 + r2)))]) hx hb d_Fam_split_1 rfl hl (by decide) rfl (fun ls hl => ?_)
  refine lv_aload_n hx hb d_Fam_split_2 rfl (lv_at hl 3 rfl) ?_
  refine lv_iconst (v := 0) hx hb d_Fam_split_3 (by decide) ?_
  refine kg_tV (As := [.int 0]) (rest := []) (k_Row_cut (l := l) (g := g) (α := α) (r := r2) hr2 0) S hlocks hno E hI kw_Fam_142 ⟨Nat.le_of_ble_eq_true rfl, Nat.le_of_ble_eq_true rfl⟩ (kv_Row (r := r2) hr2 E hI.1) rfl hl.1 rfl (Nat.le_of_ble_eq_true rfl) d_Fam_split_4 (fun ad H locs cells slots hRm hI => ?_)
  refine lv_iconst (v := 0) hx hb d_Fam_split_7 (by decide) ?_
  refine lv_istore (lv' := [(4, .int 0), (3, .int a1), (0, .ref (kad g 9)), (1, .int a1), (2, .ref (kad g (11 + r2)))]) hx hb d_Fam_split_8 hl (by decide) rfl (fun ls hl => ?_)
  have L10 : ∀ (n10 : Nat) (x4 : Int32) (x3 : Int32) (β : kS) (ad : Nat → Nat) (H : Heap) (locs : List Loc) (cells slots : Nat) (ls : Array Slot), f_Fam_split_10 N r2 n10 x4 x3 β = some x → kI g A s α ad0 β ad H locs cells slots → lv_has ls 5 [(4, .int x4), (3, .int x3), (0, .ref (kad g 9)), (2, .ref (kad g (11 + r2)))] → W p l e (kR 31 921 α) s m ([.ref (kad g 9), .int a1, .ref (kad g (11 + r2))]).toArray below meth c H locs cells slots (vEQ below (kQ g A α ad0 (kQr x)) ([.ref (kad g 9), .int a1, .ref (kad g (11 + r2))]).toArray s A) (F0 m 10 ls []) := by
    intro n10
    induction n10 with
    | zero => intro x4 x3 β ad H locs cells slots ls h hI hl; rw [f_Fam_split_10] at h; cases h
    | succ n10 ih10 =>
      intro x4 x3 β ad H locs cells slots ls h hI hl
      rw [f_Fam_split_10] at h
      refine lv_iload hx hb d_Fam_split_10 (lv_at hl 0 rfl) ?_
      refine lv_sipush (v := 3000) hx hb d_Fam_split_12 (by decide) ?_
      refine lv_icmp_ge (tgt := 58) hx hb d_Fam_split_15 (by decide) (fun c1 => ?_) (fun c1 => ?_)
      · replace h := Eq.trans (if_pos c1).symm h
        refine lv_iload_n hx hb d_Fam_split_58 rfl (lv_at hl 1 rfl) ?_
        exact kc_iret (w := x3) hx hb hr rfl hlocks E hI h d_Fam_split_59
      · replace h := Eq.trans (if_neg c1).symm h
        refine lv_aload_n hx hb d_Fam_split_18 rfl (lv_at hl 2 rfl) ?_
        refine kf_Fam_terms S E hI.1 vt_149 d_Fam_split_19 ?_
        refine lv_iload_n hx hb d_Fam_split_22 rfl (lv_at hl 1 rfl) ?_
        refine kg_p (As := [.int x3]) (rest := []) (k_Terms_kind (l := l) (g := g) (α := β) x3) S E hI.1 kw_Fam_85 ⟨Nat.le_of_ble_eq_true rfl, Nat.le_of_ble_eq_true rfl⟩ hI.room (kv_Terms E hI.1) rfl hl.1 rfl (Nat.le_of_ble_eq_true rfl) d_Fam_split_23 rfl ?_
        refine lv_bipush (v := 6) hx hb d_Fam_split_26 (by decide) ?_
        refine lv_icmp_ne (tgt := 58) hx hb d_Fam_split_28 (by decide) (fun c2 => ?_) (fun c2 => ?_)
        · replace h := Eq.trans (if_neg c2).symm h
          refine lv_iload_n hx hb d_Fam_split_58 rfl (lv_at hl 1 rfl) ?_
          exact kc_iret (w := x3) hx hb hr rfl hlocks E hI h d_Fam_split_59
        · replace h := Eq.trans (if_pos c2).symm h
          refine lv_aload_n hx hb d_Fam_split_31 rfl (lv_at hl 3 rfl) ?_
          refine lv_aload_n hx hb d_Fam_split_32 rfl (lv_at hl 2 rfl) ?_
          refine kf_Fam_terms S E hI.1 vt_149 d_Fam_split_33 ?_
          refine lv_iload_n hx hb d_Fam_split_36 rfl (lv_at hl 1 rfl) ?_
          refine kg_p (As := [.int x3]) (rest := [.ref (kad g (11 + r2))]) (k_Terms_left (l := l) (g := g) (α := β) x3) S E hI.1 kw_Fam_100 ⟨Nat.le_of_ble_eq_true rfl, Nat.le_of_ble_eq_true rfl⟩ hI.room (kv_Terms E hI.1) rfl hl.1 rfl (Nat.le_of_ble_eq_true rfl) d_Fam_split_37 rfl ?_
          refine kg_cV (As := [.int (f_Terms_left x3 β)]) (rest := []) h (k_Row_push (l := l) (g := g) (α := β) (r := r2) hr2 (f_Terms_left x3 β)) S hlocks hno E hI kw_Fam_178 ⟨Nat.le_of_ble_eq_true rfl, Nat.le_of_ble_eq_true rfl⟩ (kv_Row (r := r2) hr2 E hI.1) rfl hl.1 rfl (Nat.le_of_ble_eq_true rfl) d_Fam_split_40 (fun α3 ad H locs cells slots e4 h hRm hI => ?_)
          refine lv_aload_n hx hb d_Fam_split_43 rfl (lv_at hl 2 rfl) ?_
          refine kf_Fam_terms S E hI.1 vt_149 d_Fam_split_44 ?_
          refine lv_iload_n hx hb d_Fam_split_47 rfl (lv_at hl 1 rfl) ?_
          refine kg_p (As := [.int x3]) (rest := []) (k_Terms_right (l := l) (g := g) (α := α3) x3) S E hI.1 kw_Fam_91 ⟨Nat.le_of_ble_eq_true rfl, Nat.le_of_ble_eq_true rfl⟩ hI.room (kv_Terms E hI.1) rfl hl.1 rfl (Nat.le_of_ble_eq_true rfl) d_Fam_split_48 rfl ?_
          refine lv_istore_n (lv' := [(3, .int (f_Terms_right x3 α3)), (4, .int x4), (0, .ref (kad g 9)), (2, .ref (kad g (11 + r2)))]) hx hb d_Fam_split_51 rfl hl (by decide) rfl (fun ls hl => ?_)
          refine lv_iinc (v := (x4 + 1)) (lv' := [(4, .int (x4 + 1)), (3, .int (f_Terms_right x3 α3)), (0, .ref (kad g 9)), (2, .ref (kad g (11 + r2)))]) hx hb d_Fam_split_52 hl (k := 1) rfl rfl (by decide) rfl (fun ls hl => ?_)
          refine lv_goto (tgt := 10) hx hb d_Fam_split_55 (by decide) ?_
          exact ih10 (x4 + 1) (f_Terms_right x3 α3) _ _ _ _ _ _ _ h hI (lv_sub hl [0, 1, 2, 3] rfl)
  exact L10 N 0 a1 _ _ _ _ _ _ _ h hI (lv_sub hl [0, 1, 2, 4] rfl)
def f_Fam_applied_6 (N : Nat)  : Nat → Int32 → Int32 → Int32 → Int32 → Int32 → kS → Option (kO × kS)
  | 0, _, _, _, _, _, _ => none
  | n + 1, x6, x5, x2, x3, x4, β => if x3 ≤ x6 then (some (some (some x5), β)) else (kBi (f_Terms_make N 0 (((x4 - 1) - x2) - x6) 0 β) fun v4 α2 => (kBi (f_Terms_make N 5 x5 v4 α2) fun v7 α5 => (f_Fam_applied_6 N n (x6 + 1) v7 x2 x3 x4 α5)))
def f_Fam_applied (N : Nat) (a1 : Int32) (a2 : Int32) (a3 : Int32) (a4 : Int32) (α : kS) : Option (kO × kS) := f_Fam_applied_6 N N 0 a1 a2 a3 a4 α
set_option maxHeartbeats 4000000 in
set_option maxRecDepth 100000 in
theorem k_Fam_applied {l : Launch} {g : kG} {α : kS} (hfl : kFl l) (N : Nat) (a1 : Int32) (a2 : Int32) (a3 : Int32) (a4 : Int32)  : ∀ x, f_Fam_applied N a1 a2 a3 a4 α = some x → kC l g y_Fam_applied b_Fam_applied 8 (some .int) 23 692 [.ref (kad g 9), .int a1, .int a2, .int a3, .int a4] α (kQr x) := by
  intro x h
  unfold f_Fam_applied at h
  refine kc_ofW (by decide) (fun A ad0 p e s m args below meth c S hr hlocks hno hadm hargs E hI => ?_)
  have hx := S.1
  have hb := S.2.1
  have hown := S.2.2.2.1
  have hT := S.2.2.2.2
  subst hargs
  have hl := lv_entry ([.ref (kad g 9), .int a1, .int a2, .int a3, .int a4]) (n := 8) (Nat.le_of_ble_eq_true rfl)
  rw [lg_entry_eq]
  generalize (lg_sl ([.ref (kad g 9), .int a1, .int a2, .int a3, .int a4]) ++ List.replicate (8 - (lg_sl ([.ref (kad g 9), .int a1, .int a2, .int a3, .int a4])).length) Slot.unset).toArray = ls at hl ⊢
  have hl : lv_has ls 8 [(0, .ref (kad g 9)), (1, .int a1), (2, .int a2), (3, .int a3), (4, .int a4)] := hl
  refine lv_iload_n hx hb d_Fam_applied_0 rfl (lv_at hl 1 rfl) ?_
  refine lv_istore (lv' := [(5, .int a1), (0, .ref (kad g 9)), (1, .int a1), (2, .int a2), (3, .int a3), (4, .int a4)]) hx hb d_Fam_applied_1 hl (by decide) rfl (fun ls hl => ?_)
  refine lv_iconst (v := 0) hx hb d_Fam_applied_3 (by decide) ?_
  refine lv_istore (lv' := [(6, .int 0), (5, .int a1), (0, .ref (kad g 9)), (1, .int a1), (2, .int a2), (3, .int a3), (4, .int a4)]) hx hb d_Fam_applied_4 hl (by decide) rfl (fun ls hl => ?_)
  have L6 : ∀ (n6 : Nat) (x6 : Int32) (x5 : Int32) (x2 : Int32) (x3 : Int32) (x4 : Int32) (β : kS) (ad : Nat → Nat) (H : Heap) (locs : List Loc) (cells slots : Nat) (ls : Array Slot), f_Fam_applied_6 N n6 x6 x5 x2 x3 x4 β = some x → kI g A s α ad0 β ad H locs cells slots → lv_has ls 8 [(6, .int x6), (5, .int x5), (0, .ref (kad g 9)), (2, .int x2), (3, .int x3), (4, .int x4)] → W p l e (kR 23 692 α) s m ([.ref (kad g 9), .int a1, .int a2, .int a3, .int a4]).toArray below meth c H locs cells slots (vEQ below (kQ g A α ad0 (kQr x)) ([.ref (kad g 9), .int a1, .int a2, .int a3, .int a4]).toArray s A) (F0 m 6 ls []) := by
    intro n6
    induction n6 with
    | zero => intro x6 x5 x2 x3 x4 β ad H locs cells slots ls h hI hl; rw [f_Fam_applied_6] at h; cases h
    | succ n6 ih6 =>
      intro x6 x5 x2 x3 x4 β ad H locs cells slots ls h hI hl
      rw [f_Fam_applied_6] at h
      refine lv_iload hx hb d_Fam_applied_6 (lv_at hl 0 rfl) ?_
      refine lv_iload_n hx hb d_Fam_applied_8 rfl (lv_at hl 4 rfl) ?_
      refine lv_icmp_ge (tgt := 52) hx hb d_Fam_applied_9 (by decide) (fun c1 => ?_) (fun c1 => ?_)
      · replace h := Eq.trans (if_pos c1).symm h
        refine lv_iload hx hb d_Fam_applied_52 (lv_at hl 1 rfl) ?_
        exact kc_iret (w := x5) hx hb hr rfl hlocks E hI h d_Fam_applied_54
      · replace h := Eq.trans (if_neg c1).symm h
        refine lv_aload_n hx hb d_Fam_applied_12 rfl (lv_at hl 2 rfl) ?_
        refine kf_Fam_terms S E hI.1 vt_149 d_Fam_applied_13 ?_
        refine lv_iconst (v := 0) hx hb d_Fam_applied_16 (by decide) ?_
        refine lv_iload hx hb d_Fam_applied_17 (lv_at hl 5 rfl) ?_
        refine lv_iconst (v := 1) hx hb d_Fam_applied_19 (by decide) ?_
        refine lv_isub hx hb d_Fam_applied_20 ?_
        refine lv_iload_n hx hb d_Fam_applied_21 rfl (lv_at hl 3 rfl) ?_
        refine lv_isub hx hb d_Fam_applied_22 ?_
        refine lv_iload hx hb d_Fam_applied_23 (lv_at hl 0 rfl) ?_
        refine lv_isub hx hb d_Fam_applied_25 ?_
        refine lv_iconst (v := 0) hx hb d_Fam_applied_26 (by decide) ?_
        refine kg_cI (As := [.int 0, .int (((x4 - 1) - x2) - x6), .int 0]) (rest := []) h (k_Terms_make (l := l) (g := g) (α := β) hfl N 0 (((x4 - 1) - x2) - x6) 0) S hlocks hno E hI kw_Fam_180 ⟨Nat.le_of_ble_eq_true rfl, Nat.le_of_ble_eq_true rfl⟩ (kv_Terms E hI.1) rfl hl.1 rfl (Nat.le_of_ble_eq_true rfl) d_Fam_applied_27 (fun v4 α2 ad H locs cells slots e3 h hRm hI => ?_)
        refine lv_istore (lv' := [(7, .int v4), (6, .int x6), (5, .int x5), (0, .ref (kad g 9)), (2, .int x2), (3, .int x3), (4, .int x4)]) hx hb d_Fam_applied_30 hl (by decide) rfl (fun ls hl => ?_)
        refine lv_aload_n hx hb d_Fam_applied_32 rfl (lv_at hl 3 rfl) ?_
        refine kf_Fam_terms S E hI.1 vt_149 d_Fam_applied_33 ?_
        refine lv_iconst (v := 5) hx hb d_Fam_applied_36 (by decide) ?_
        refine lv_iload hx hb d_Fam_applied_37 (lv_at hl 2 rfl) ?_
        refine lv_iload hx hb d_Fam_applied_39 (lv_at hl 0 rfl) ?_
        refine kg_cI (As := [.int 5, .int x5, .int v4]) (rest := []) h (k_Terms_make (l := l) (g := g) (α := α2) hfl N 5 x5 v4) S hlocks hno E hI kw_Fam_180 ⟨Nat.le_of_ble_eq_true rfl, Nat.le_of_ble_eq_true rfl⟩ (kv_Terms E hI.1) rfl hl.1 rfl (Nat.le_of_ble_eq_true rfl) d_Fam_applied_41 (fun v7 α5 ad H locs cells slots e6 h hRm hI => ?_)
        refine lv_istore (lv' := [(5, .int v7), (7, .int v4), (6, .int x6), (0, .ref (kad g 9)), (2, .int x2), (3, .int x3), (4, .int x4)]) hx hb d_Fam_applied_44 hl (by decide) rfl (fun ls hl => ?_)
        refine lv_iinc (v := (x6 + 1)) (lv' := [(6, .int (x6 + 1)), (5, .int v7), (7, .int v4), (0, .ref (kad g 9)), (2, .int x2), (3, .int x3), (4, .int x4)]) hx hb d_Fam_applied_46 hl (k := 2) rfl rfl (by decide) rfl (fun ls hl => ?_)
        refine lv_goto (tgt := 6) hx hb d_Fam_applied_49 (by decide) ?_
        exact ih6 (x6 + 1) v7 x2 x3 x4 _ _ _ _ _ _ _ h hI (lv_sub hl [0, 1, 3, 4, 5, 6] rfl)
  exact L6 N 0 a1 a2 a3 a4 _ _ _ _ _ _ _ h hI (lv_sub hl [0, 1, 2, 4, 5, 6] rfl)
def f_Fam_bound_11 (N : Nat) (r2 : Nat) : Nat → Int32 → Int32 → Int32 → kS → Option (kO × kS)
  | 0, _, _, _, _ => none
  | n + 1, x5, x4, x1, β => if x5 < 0 then (some (some (some x4), β)) else (kBi (f_Terms_make N x1 (fR_at β r2 x5) x4 β) fun v4 α2 => (f_Fam_bound_11 N r2 n (x5 + (-1)) v4 x1 α2))
def f_Fam_bound (N : Nat) (a1 : Int32) (r2 : Nat) (a3 : Int32) (α : kS) : Option (kO × kS) := f_Fam_bound_11 N r2 N ((fR_size α r2) - 1) a3 a1 α
set_option maxHeartbeats 4000000 in
set_option maxRecDepth 100000 in
theorem k_Fam_bound {l : Launch} {g : kG} {α : kS} (hfl : kFl l) (N : Nat) (a1 : Int32) (r2 : Nat) (a3 : Int32) (hr2 : r2 < 21) : ∀ x, f_Fam_bound N a1 r2 a3 α = some x → kC l g y_Fam_bound b_Fam_bound 6 (some .int) 23 692 [.ref (kad g 9), .int a1, .ref (kad g (11 + r2)), .int a3] α (kQr x) := by
  intro x h
  unfold f_Fam_bound at h
  refine kc_ofW (by decide) (fun A ad0 p e s m args below meth c S hr hlocks hno hadm hargs E hI => ?_)
  have hx := S.1
  have hb := S.2.1
  have hown := S.2.2.2.1
  have hT := S.2.2.2.2
  subst hargs
  have hl := lv_entry ([.ref (kad g 9), .int a1, .ref (kad g (11 + r2)), .int a3]) (n := 6) (Nat.le_of_ble_eq_true rfl)
  rw [lg_entry_eq]
  generalize (lg_sl ([.ref (kad g 9), .int a1, .ref (kad g (11 + r2)), .int a3]) ++ List.replicate (6 - (lg_sl ([.ref (kad g 9), .int a1, .ref (kad g (11 + r2)), .int a3])).length) Slot.unset).toArray = ls at hl ⊢
  have hl : lv_has ls 6 [(0, .ref (kad g 9)), (1, .int a1), (2, .ref (kad g (11 + r2))), (3, .int a3)] := hl
  refine lv_iload_n hx hb d_Fam_bound_0 rfl (lv_at hl 3 rfl) ?_
  refine lv_istore (lv' := [(4, .int a3), (0, .ref (kad g 9)), (1, .int a1), (2, .ref (kad g (11 + r2))), (3, .int a3)]) hx hb d_Fam_bound_1 hl (by decide) rfl (fun ls hl => ?_)
  refine lv_aload_n hx hb d_Fam_bound_3 rfl (lv_at hl 3 rfl) ?_
  refine kg_p (As := []) (rest := []) (k_Row_size (l := l) (g := g) (α := α) (r := r2) hr2) S E hI.1 kw_Fam_158 ⟨Nat.le_of_ble_eq_true rfl, Nat.le_of_ble_eq_true rfl⟩ hI.room (kv_Row (r := r2) hr2 E hI.1) rfl hl.1 rfl (Nat.le_of_ble_eq_true rfl) d_Fam_bound_4 rfl ?_
  refine lv_iconst (v := 1) hx hb d_Fam_bound_7 (by decide) ?_
  refine lv_isub hx hb d_Fam_bound_8 ?_
  refine lv_istore (lv' := [(5, .int ((fR_size α r2) - 1)), (4, .int a3), (0, .ref (kad g 9)), (1, .int a1), (2, .ref (kad g (11 + r2))), (3, .int a3)]) hx hb d_Fam_bound_9 hl (by decide) rfl (fun ls hl => ?_)
  have L11 : ∀ (n11 : Nat) (x5 : Int32) (x4 : Int32) (x1 : Int32) (β : kS) (ad : Nat → Nat) (H : Heap) (locs : List Loc) (cells slots : Nat) (ls : Array Slot), f_Fam_bound_11 N r2 n11 x5 x4 x1 β = some x → kI g A s α ad0 β ad H locs cells slots → lv_has ls 6 [(5, .int x5), (4, .int x4), (0, .ref (kad g 9)), (1, .int x1), (2, .ref (kad g (11 + r2)))] → W p l e (kR 23 692 α) s m ([.ref (kad g 9), .int a1, .ref (kad g (11 + r2)), .int a3]).toArray below meth c H locs cells slots (vEQ below (kQ g A α ad0 (kQr x)) ([.ref (kad g 9), .int a1, .ref (kad g (11 + r2)), .int a3]).toArray s A) (F0 m 11 ls []) := by
    intro n11
    induction n11 with
    | zero => intro x5 x4 x1 β ad H locs cells slots ls h hI hl; rw [f_Fam_bound_11] at h; cases h
    | succ n11 ih11 =>
      intro x5 x4 x1 β ad H locs cells slots ls h hI hl
      rw [f_Fam_bound_11] at h
      refine lv_iload hx hb d_Fam_bound_11 (lv_at hl 0 rfl) ?_
      refine lv_if_lt (tgt := 40) hx hb d_Fam_bound_13 (by decide) (fun c1 => ?_) (fun c1 => ?_)
      · replace h := Eq.trans (if_pos c1).symm h
        refine lv_iload hx hb d_Fam_bound_40 (lv_at hl 1 rfl) ?_
        exact kc_iret (w := x4) hx hb hr rfl hlocks E hI h d_Fam_bound_42
      · replace h := Eq.trans (if_neg c1).symm h
        refine lv_aload_n hx hb d_Fam_bound_16 rfl (lv_at hl 2 rfl) ?_
        refine kf_Fam_terms S E hI.1 vt_149 d_Fam_bound_17 ?_
        refine lv_iload_n hx hb d_Fam_bound_20 rfl (lv_at hl 3 rfl) ?_
        refine lv_aload_n hx hb d_Fam_bound_21 rfl (lv_at hl 4 rfl) ?_
        refine lv_iload hx hb d_Fam_bound_22 (lv_at hl 0 rfl) ?_
        refine kg_p (As := [.int x5]) (rest := [.int x1, .ref (kad g 2)]) (k_Row_at (l := l) (g := g) (α := β) (r := r2) hr2 x5) S E hI.1 kw_Fam_192 ⟨Nat.le_of_ble_eq_true rfl, Nat.le_of_ble_eq_true rfl⟩ hI.room (kv_Row (r := r2) hr2 E hI.1) rfl hl.1 rfl (Nat.le_of_ble_eq_true rfl) d_Fam_bound_24 rfl ?_
        refine lv_iload hx hb d_Fam_bound_27 (lv_at hl 1 rfl) ?_
        refine kg_cI (As := [.int x1, .int (fR_at β r2 x5), .int x4]) (rest := []) h (k_Terms_make (l := l) (g := g) (α := β) hfl N x1 (fR_at β r2 x5) x4) S hlocks hno E hI kw_Fam_180 ⟨Nat.le_of_ble_eq_true rfl, Nat.le_of_ble_eq_true rfl⟩ (kv_Terms E hI.1) rfl hl.1 rfl (Nat.le_of_ble_eq_true rfl) d_Fam_bound_29 (fun v4 α2 ad H locs cells slots e3 h hRm hI => ?_)
        refine lv_istore (lv' := [(4, .int v4), (5, .int x5), (0, .ref (kad g 9)), (1, .int x1), (2, .ref (kad g (11 + r2)))]) hx hb d_Fam_bound_32 hl (by decide) rfl (fun ls hl => ?_)
        refine lv_iinc (v := (x5 + (-1))) (lv' := [(5, .int (x5 + (-1))), (4, .int v4), (0, .ref (kad g 9)), (1, .int x1), (2, .ref (kad g (11 + r2)))]) hx hb d_Fam_bound_34 hl (k := 1) rfl rfl (by decide) rfl (fun ls hl => ?_)
        refine lv_goto (tgt := 11) hx hb d_Fam_bound_37 (by decide) ?_
        exact ih11 (x5 + (-1)) v4 x1 _ _ _ _ _ _ _ h hI (lv_sub hl [0, 1, 2, 3, 4] rfl)
  exact L11 N ((fR_size α r2) - 1) a3 a1 _ _ _ _ _ _ _ h hI (lv_sub hl [0, 1, 2, 3, 4] rfl)
theorem kw_Fam_229 : kWv "FamilyKernel$Families" 229 "FamilyKernel$Families" y_Fam_split b_Fam_split 5 (some .int) 2 := ⟨vt_1083, vt_1084, vt_1085, vt_68, vt_1086, by decide, by decide, by decide +kernel⟩
theorem kw_Fam_233 : kWv "FamilyKernel$Families" 233 "FamilyKernel$Families" y_Fam_applied b_Fam_applied 8 (some .int) 4 := ⟨vt_1087, vt_1088, vt_1089, vt_68, vt_1090, by decide, by decide, by decide +kernel⟩
theorem kw_Fam_237 : kWv "FamilyKernel$Families" 237 "FamilyKernel$Families" y_Fam_bound b_Fam_bound 6 (some .int) 3 := ⟨vt_1091, vt_1092, vt_1093, vt_68, vt_1094, by decide, by decide, by decide +kernel⟩
def f_Fam_buildMotive (N : Nat)  (α : kS) : Option (kO × kS) := kBi (f_Fam_split N (f_Par_type α) 16 α) fun v3 α1 => (kBi (f_Terms_make N 3 (α1.1 25) 0 α1) fun v6 α4 => (kBi (f_Fam_applied N v6 0 ((α.1 26) + (α.1 27)) ((α.1 26) + (α.1 27)) α4) fun v9 α7 => (kBi (f_Terms_make N 2 101 0 α7) fun v12 α10 => (kBi (f_Terms_make N 6 v9 v12 α10) fun v15 α13 => (kBi (f_Fam_bound N 6 16 v15 α13) fun v18 α16 => (some (some none, (kSi α16 30 v18))))))))
set_option maxHeartbeats 4000000 in
set_option maxRecDepth 100000 in
theorem k_Fam_buildMotive {l : Launch} {g : kG} {α : kS} (hfl : kFl l) (N : Nat)   : ∀ x, f_Fam_buildMotive N α = some x → kC l g y_Fam_buildMotive b_Fam_buildMotive 4 none 32 945 [.ref (kad g 9)] α (kQr x) := by
  intro x h
  unfold f_Fam_buildMotive at h
  refine kc_ofW (by decide) (fun A ad0 p e s m args below meth c S hr hlocks hno hadm hargs E hI => ?_)
  have hx := S.1
  have hb := S.2.1
  have hown := S.2.2.2.1
  have hT := S.2.2.2.2
  subst hargs
  have hl := lv_entry ([.ref (kad g 9)]) (n := 4) (Nat.le_of_ble_eq_true rfl)
  rw [lg_entry_eq]
  generalize (lg_sl ([.ref (kad g 9)]) ++ List.replicate (4 - (lg_sl ([.ref (kad g 9)])).length) Slot.unset).toArray = ls at hl ⊢
  have hl : lv_has ls 4 [(0, .ref (kad g 9))] := hl
  refine lv_aload_n hx hb d_Fam_buildMotive_0 rfl (lv_at hl 0 rfl) ?_
  refine kf_Fam_parameters S E hI.1 vt_979 d_Fam_buildMotive_1 ?_
  refine lv_aload_n hx hb d_Fam_buildMotive_4 rfl (lv_at hl 0 rfl) ?_
  refine kf_Fam_indices S E hI.1 vt_982 d_Fam_buildMotive_5 ?_
  refine lv_iadd hx hb d_Fam_buildMotive_8 ?_
  refine lv_istore_n (lv' := [(1, .int ((α.1 26) + (α.1 27))), (0, .ref (kad g 9))]) hx hb d_Fam_buildMotive_9 rfl hl (by decide) rfl (fun ls hl => ?_)
  refine lv_aload_n hx hb d_Fam_buildMotive_10 rfl (lv_at hl 1 rfl) ?_
  refine lv_aload_n hx hb d_Fam_buildMotive_11 rfl (lv_at hl 1 rfl) ?_
  refine kf_Fam_parser S E hI.1 vt_151 d_Fam_buildMotive_12 ?_
  refine kg_p (As := []) (rest := [.ref (kad g 9)]) (k_Par_type (l := l) (g := g) (α := α) ) S E hI.1 kw_Fam_82 ⟨Nat.le_of_ble_eq_true rfl, Nat.le_of_ble_eq_true rfl⟩ hI.room (kv_Par E hI.1) rfl hl.1 rfl (Nat.le_of_ble_eq_true rfl) d_Fam_buildMotive_15 rfl ?_
  refine lv_aload_n hx hb d_Fam_buildMotive_18 rfl (lv_at hl 1 rfl) ?_
  refine kf_Fam_domains S E hI.1 vt_156 d_Fam_buildMotive_19 ?_
  refine kg_cI (As := [.int (f_Par_type α), .ref (kad g (11 + 16))]) (rest := []) h (k_Fam_split (l := l) (g := g) (α := α) hfl N (f_Par_type α) 16 (by decide)) S hlocks hno E hI kw_Fam_229 ⟨Nat.le_of_ble_eq_true rfl, Nat.le_of_ble_eq_true rfl⟩ (kv_Fam E hI.1) rfl hl.1 rfl (Nat.le_of_ble_eq_true rfl) d_Fam_buildMotive_22 (fun v3 α1 ad H locs cells slots e2 h hRm hI => ?_)
  refine lv_pop hx hb d_Fam_buildMotive_25 rfl ?_
  refine lv_aload_n hx hb d_Fam_buildMotive_26 rfl (lv_at hl 1 rfl) ?_
  refine kf_Fam_terms S E hI.1 vt_149 d_Fam_buildMotive_27 ?_
  refine lv_iconst (v := 3) hx hb d_Fam_buildMotive_30 (by decide) ?_
  refine lv_aload_n hx hb d_Fam_buildMotive_31 rfl (lv_at hl 1 rfl) ?_
  refine kf_Fam_family S E hI.1 vt_974 d_Fam_buildMotive_32 ?_
  refine lv_iconst (v := 0) hx hb d_Fam_buildMotive_35 (by decide) ?_
  refine kg_cI (As := [.int 3, .int (α1.1 25), .int 0]) (rest := []) h (k_Terms_make (l := l) (g := g) (α := α1) hfl N 3 (α1.1 25) 0) S hlocks hno E hI kw_Fam_180 ⟨Nat.le_of_ble_eq_true rfl, Nat.le_of_ble_eq_true rfl⟩ (kv_Terms E hI.1) rfl hl.1 rfl (Nat.le_of_ble_eq_true rfl) d_Fam_buildMotive_36 (fun v6 α4 ad H locs cells slots e5 h hRm hI => ?_)
  refine lv_istore_n (lv' := [(2, .int v6), (1, .int ((α.1 26) + (α.1 27))), (0, .ref (kad g 9))]) hx hb d_Fam_buildMotive_39 rfl hl (by decide) rfl (fun ls hl => ?_)
  refine lv_aload_n hx hb d_Fam_buildMotive_40 rfl (lv_at hl 2 rfl) ?_
  refine lv_iload_n hx hb d_Fam_buildMotive_41 rfl (lv_at hl 0 rfl) ?_
  refine lv_iconst (v := 0) hx hb d_Fam_buildMotive_42 (by decide) ?_
  refine lv_iload_n hx hb d_Fam_buildMotive_43 rfl (lv_at hl 1 rfl) ?_
  refine lv_iload_n hx hb d_Fam_buildMotive_44 rfl (lv_at hl 1 rfl) ?_
  refine kg_cI (As := [.int v6, .int 0, .int ((α.1 26) + (α.1 27)), .int ((α.1 26) + (α.1 27))]) (rest := []) h (k_Fam_applied (l := l) (g := g) (α := α4) hfl N v6 0 ((α.1 26) + (α.1 27)) ((α.1 26) + (α.1 27))) S hlocks hno E hI kw_Fam_233 ⟨Nat.le_of_ble_eq_true rfl, Nat.le_of_ble_eq_true rfl⟩ (kv_Fam E hI.1) rfl hl.1 rfl (Nat.le_of_ble_eq_true rfl) d_Fam_buildMotive_45 (fun v9 α7 ad H locs cells slots e8 h hRm hI => ?_)
  refine lv_istore_n (lv' := [(3, .int v9), (2, .int v6), (1, .int ((α.1 26) + (α.1 27))), (0, .ref (kad g 9))]) hx hb d_Fam_buildMotive_48 rfl hl (by decide) rfl (fun ls hl => ?_)
  refine lv_aload_n hx hb d_Fam_buildMotive_49 rfl (lv_at hl 3 rfl) ?_
  refine lv_aload_n hx hb d_Fam_buildMotive_50 rfl (lv_at hl 3 rfl) ?_
  refine lv_bipush (v := 6) hx hb d_Fam_buildMotive_51 (by decide) ?_
  refine lv_aload_n hx hb d_Fam_buildMotive_53 rfl (lv_at hl 3 rfl) ?_
  refine kf_Fam_domains S E hI.1 vt_156 d_Fam_buildMotive_54 ?_
  refine lv_aload_n hx hb d_Fam_buildMotive_57 rfl (lv_at hl 3 rfl) ?_
  refine kf_Fam_terms S E hI.1 vt_149 d_Fam_buildMotive_58 ?_
  refine lv_bipush (v := 6) hx hb d_Fam_buildMotive_61 (by decide) ?_
  refine lv_iload_n hx hb d_Fam_buildMotive_63 rfl (lv_at hl 0 rfl) ?_
  refine lv_aload_n hx hb d_Fam_buildMotive_64 rfl (lv_at hl 3 rfl) ?_
  refine kf_Fam_terms S E hI.1 vt_149 d_Fam_buildMotive_65 ?_
  refine lv_iconst (v := 2) hx hb d_Fam_buildMotive_68 (by decide) ?_
  refine lv_bipush (v := 101) hx hb d_Fam_buildMotive_69 (by decide) ?_
  refine lv_iconst (v := 0) hx hb d_Fam_buildMotive_71 (by decide) ?_
  refine kg_cI (As := [.int 2, .int 101, .int 0]) (rest := [.int v9, .int 6, .ref (kad g 2), .ref (kad g (11 + 16)), .int 6, .ref (kad g 9), .ref (kad g 9)]) h (k_Terms_make (l := l) (g := g) (α := α7) hfl N 2 101 0) S hlocks hno E hI kw_Fam_180 ⟨Nat.le_of_ble_eq_true rfl, Nat.le_of_ble_eq_true rfl⟩ (kv_Terms E hI.1) rfl hl.1 rfl (Nat.le_of_ble_eq_true rfl) d_Fam_buildMotive_72 (fun v12 α10 ad H locs cells slots e11 h hRm hI => ?_)
  refine kg_cI (As := [.int 6, .int v9, .int v12]) (rest := [.ref (kad g (11 + 16)), .int 6, .ref (kad g 9), .ref (kad g 9)]) h (k_Terms_make (l := l) (g := g) (α := α10) hfl N 6 v9 v12) S hlocks hno E hI kw_Fam_180 ⟨Nat.le_of_ble_eq_true rfl, Nat.le_of_ble_eq_true rfl⟩ (kv_Terms E hI.1) rfl hl.1 rfl (Nat.le_of_ble_eq_true rfl) d_Fam_buildMotive_75 (fun v15 α13 ad H locs cells slots e14 h hRm hI => ?_)
  refine kg_cI (As := [.int 6, .ref (kad g (11 + 16)), .int v15]) (rest := [.ref (kad g 9)]) h (k_Fam_bound (l := l) (g := g) (α := α13) hfl N 6 16 v15 (by decide)) S hlocks hno E hI kw_Fam_237 ⟨Nat.le_of_ble_eq_true rfl, Nat.le_of_ble_eq_true rfl⟩ (kv_Fam E hI.1) rfl hl.1 rfl (Nat.le_of_ble_eq_true rfl) d_Fam_buildMotive_78 (fun v18 α16 ad H locs cells slots e17 h hRm hI => ?_)
  refine kp_Fam_motive S E hI vt_1095 d_Fam_buildMotive_81 (fun H locs hI => ?_)
  exact kc_vret hx hb hr hlocks E hI h d_Fam_buildMotive_84
def f_Fam_variable (N : Nat) (a1 : Int32) (a2 : Int32) (α : kS) : Option (kO × kS) := kBi (f_Terms_make N 0 ((a2 - 1) - a1) 0 α) fun v3 α1 => (some (some (some v3), α1))
set_option maxHeartbeats 4000000 in
set_option maxRecDepth 100000 in
theorem k_Fam_variable {l : Launch} {g : kG} {α : kS} (hfl : kFl l) (N : Nat) (a1 : Int32) (a2 : Int32)  : ∀ x, f_Fam_variable N a1 a2 α = some x → kC l g y_Fam_variable b_Fam_variable 3 (some .int) 23 692 [.ref (kad g 9), .int a1, .int a2] α (kQr x) := by
  intro x h
  unfold f_Fam_variable at h
  refine kc_ofW (by decide) (fun A ad0 p e s m args below meth c S hr hlocks hno hadm hargs E hI => ?_)
  have hx := S.1
  have hb := S.2.1
  have hown := S.2.2.2.1
  have hT := S.2.2.2.2
  subst hargs
  have hl := lv_entry ([.ref (kad g 9), .int a1, .int a2]) (n := 3) (Nat.le_of_ble_eq_true rfl)
  rw [lg_entry_eq]
  generalize (lg_sl ([.ref (kad g 9), .int a1, .int a2]) ++ List.replicate (3 - (lg_sl ([.ref (kad g 9), .int a1, .int a2])).length) Slot.unset).toArray = ls at hl ⊢
  have hl : lv_has ls 3 [(0, .ref (kad g 9)), (1, .int a1), (2, .int a2)] := hl
  refine lv_aload_n hx hb d_Fam_variable_0 rfl (lv_at hl 0 rfl) ?_
  refine kf_Fam_terms S E hI.1 vt_149 d_Fam_variable_1 ?_
  refine lv_iconst (v := 0) hx hb d_Fam_variable_4 (by decide) ?_
  refine lv_iload_n hx hb d_Fam_variable_5 rfl (lv_at hl 2 rfl) ?_
  refine lv_iconst (v := 1) hx hb d_Fam_variable_6 (by decide) ?_
  refine lv_isub hx hb d_Fam_variable_7 ?_
  refine lv_iload_n hx hb d_Fam_variable_8 rfl (lv_at hl 1 rfl) ?_
  refine lv_isub hx hb d_Fam_variable_9 ?_
  refine lv_iconst (v := 0) hx hb d_Fam_variable_10 (by decide) ?_
  refine kg_cI (As := [.int 0, .int ((a2 - 1) - a1), .int 0]) (rest := []) h (k_Terms_make (l := l) (g := g) (α := α) hfl N 0 ((a2 - 1) - a1) 0) S hlocks hno E hI kw_Fam_180 ⟨Nat.le_of_ble_eq_true rfl, Nat.le_of_ble_eq_true rfl⟩ (kv_Terms E hI.1) rfl hl.1 rfl (Nat.le_of_ble_eq_true rfl) d_Fam_variable_11 (fun v3 α1 ad H locs cells slots e2 h hRm hI => ?_)
  exact kc_iret (w := v3) hx hb hr rfl hlocks E hI h d_Fam_variable_14
theorem kw_Fam_247 : kWv "FamilyKernel$Families" 247 "FamilyKernel$Families" y_Fam_variable b_Fam_variable 3 (some .int) 2 := ⟨vt_1100, vt_1101, vt_1102, vt_68, vt_1103, by decide, by decide, by decide +kernel⟩
def f_Fam_hypothesis_108 (N : Nat)  : Nat → Int32 → Int32 → Int32 → Int32 → Int32 → kS → Option (kO × kS)
  | 0, _, _, _, _, _, _ => none
  | n + 1, x9, x8, x7, x5, x1, β => if x9 < 0 then (kBi (f_Terms_make N 5 x7 x8 β) fun v20 α18 => (kBi (f_Fam_bound N x1 18 v20 α18) fun v23 α21 => (some (some (some v23), α21)))) else (((f_Terms_fromLast N x5 x9 β)).bind fun v24 => (kBi (f_Terms_make N 5 x7 v24 β) fun v28 α26 => (f_Fam_hypothesis_108 N n (x9 + (-1)) x8 v28 x5 x1 α26)))
def f_Fam_hypothesis_j74 (N : Nat)  (y6 : Int32) (y5 : Int32) (y1 : Int32) (y3 : Int32) (y4 : Int32) (t0 : Int32) (γ : kS) : Option (kO × kS) := kBi (f_Fam_variable N y3 y6 γ) fun v13 α11 => (kBi (f_Fam_applied N v13 y4 (fR_size α11 18) y6 α11) fun v16 α14 => (f_Fam_hypothesis_108 N N ((α14.1 27) - 1) v16 t0 y5 y1 α14))
def f_Fam_hypothesis (N : Nat) (a1 : Int32) (a2 : Int32) (a3 : Int32) (a4 : Int32) (α : kS) : Option (kO × kS) := kBi (f_Fam_split N a2 18 α) fun v3 α1 => (if a1 = 6 then (kBi (f_Fam_variable N (α1.1 26) (a4 + (fR_size α1 18)) α1) fun v31 α29 => (f_Fam_hypothesis_j74 N (a4 + (fR_size α1 18)) v3 a1 a3 a4 v31 α29)) else (kBi (f_Terms_make N 4 (α1.1 25) 101 α1) fun v7 α5 => (kBi (f_Fam_applied N v7 0 (((α5.1 26) + 1) + (α5.1 28)) (a4 + (fR_size α1 18)) α5) fun v10 α8 => (f_Fam_hypothesis_j74 N (a4 + (fR_size α1 18)) v3 a1 a3 a4 v10 α8))))
set_option maxHeartbeats 4000000 in
set_option maxRecDepth 100000 in
theorem k_Fam_hypothesis {l : Launch} {g : kG} {α : kS} (hfl : kFl l) (N : Nat) (a1 : Int32) (a2 : Int32) (a3 : Int32) (a4 : Int32)  : ∀ x, f_Fam_hypothesis N a1 a2 a3 a4 α = some x → kC l g y_Fam_hypothesis b_Fam_hypothesis 10 (some .int) 32 945 [.ref (kad g 9), .int a1, .int a2, .int a3, .int a4] α (kQr x) := by
  intro x h
  unfold f_Fam_hypothesis at h
  refine kc_ofW (by decide) (fun A ad0 p e s m args below meth c S hr hlocks hno hadm hargs E hI => ?_)
  have hx := S.1
  have hb := S.2.1
  have hown := S.2.2.2.1
  have hT := S.2.2.2.2
  subst hargs
  have hl := lv_entry ([.ref (kad g 9), .int a1, .int a2, .int a3, .int a4]) (n := 10) (Nat.le_of_ble_eq_true rfl)
  rw [lg_entry_eq]
  generalize (lg_sl ([.ref (kad g 9), .int a1, .int a2, .int a3, .int a4]) ++ List.replicate (10 - (lg_sl ([.ref (kad g 9), .int a1, .int a2, .int a3, .int a4])).length) Slot.unset).toArray = ls at hl ⊢
  have hl : lv_has ls 10 [(0, .ref (kad g 9)), (1, .int a1), (2, .int a2), (3, .int a3), (4, .int a4)] := hl
  have J74 : ∀ (y6 : Int32) (y5 : Int32) (y1 : Int32) (y3 : Int32) (y4 : Int32) (t0 : Int32) (γ : kS) (ad : Nat → Nat) (H : Heap) (locs : List Loc) (cells slots : Nat) (ls : Array Slot), f_Fam_hypothesis_j74 N y6 y5 y1 y3 y4 t0 γ = some x → kI g A s α ad0 γ ad H locs cells slots → lv_has ls 10 [(6, .int y6), (5, .int y5), (0, .ref (kad g 9)), (1, .int y1), (3, .int y3), (4, .int y4)] → W p l e (kR 32 945 α) s m ([.ref (kad g 9), .int a1, .int a2, .int a3, .int a4]).toArray below meth c H locs cells slots (vEQ below (kQ g A α ad0 (kQr x)) ([.ref (kad g 9), .int a1, .int a2, .int a3, .int a4]).toArray s A) (F0 m 74 ls [.int t0]) := by
    intro y6 y5 y1 y3 y4 t0 γ ad H locs cells slots ls h hI hl
    unfold f_Fam_hypothesis_j74 at h
    refine lv_istore (lv' := [(7, .int t0), (6, .int y6), (5, .int y5), (0, .ref (kad g 9)), (1, .int y1), (3, .int y3), (4, .int y4)]) hx hb d_Fam_hypothesis_74 hl (by decide) rfl (fun ls hl => ?_)
    refine lv_aload_n hx hb d_Fam_hypothesis_76 rfl (lv_at hl 3 rfl) ?_
    refine lv_aload_n hx hb d_Fam_hypothesis_77 rfl (lv_at hl 3 rfl) ?_
    refine lv_iload_n hx hb d_Fam_hypothesis_78 rfl (lv_at hl 5 rfl) ?_
    refine lv_iload hx hb d_Fam_hypothesis_79 (lv_at hl 1 rfl) ?_
    refine kg_cI (As := [.int y3, .int y6]) (rest := [.ref (kad g 9)]) h (k_Fam_variable (l := l) (g := g) (α := γ) hfl N y3 y6) S hlocks hno E hI kw_Fam_247 ⟨Nat.le_of_ble_eq_true rfl, Nat.le_of_ble_eq_true rfl⟩ (kv_Fam E hI.1) rfl hl.1 rfl (Nat.le_of_ble_eq_true rfl) d_Fam_hypothesis_81 (fun v13 α11 ad H locs cells slots e12 h hRm hI => ?_)
    refine lv_iload hx hb d_Fam_hypothesis_84 (lv_at hl 6 rfl) ?_
    refine lv_aload_n hx hb d_Fam_hypothesis_86 rfl (lv_at hl 3 rfl) ?_
    refine kf_Fam_within S E hI.1 vt_158 d_Fam_hypothesis_87 ?_
    refine kg_p (As := []) (rest := [.int y4, .int v13, .ref (kad g 9)]) (k_Row_size (l := l) (g := g) (α := α11) (r := 18) (by decide)) S E hI.1 kw_Fam_158 ⟨Nat.le_of_ble_eq_true rfl, Nat.le_of_ble_eq_true rfl⟩ hI.room (kv_Row (r := 18) (by decide) E hI.1) rfl hl.1 rfl (Nat.le_of_ble_eq_true rfl) d_Fam_hypothesis_90 rfl ?_
    refine lv_iload hx hb d_Fam_hypothesis_93 (lv_at hl 1 rfl) ?_
    refine kg_cI (As := [.int v13, .int y4, .int (fR_size α11 18), .int y6]) (rest := []) h (k_Fam_applied (l := l) (g := g) (α := α11) hfl N v13 y4 (fR_size α11 18) y6) S hlocks hno E hI kw_Fam_233 ⟨Nat.le_of_ble_eq_true rfl, Nat.le_of_ble_eq_true rfl⟩ (kv_Fam E hI.1) rfl hl.1 rfl (Nat.le_of_ble_eq_true rfl) d_Fam_hypothesis_95 (fun v16 α14 ad H locs cells slots e15 h hRm hI => ?_)
    refine lv_istore (lv' := [(8, .int v16), (7, .int t0), (6, .int y6), (5, .int y5), (0, .ref (kad g 9)), (1, .int y1), (3, .int y3), (4, .int y4)]) hx hb d_Fam_hypothesis_98 hl (by decide) rfl (fun ls hl => ?_)
    refine lv_aload_n hx hb d_Fam_hypothesis_100 rfl (lv_at hl 4 rfl) ?_
    refine kf_Fam_indices S E hI.1 vt_982 d_Fam_hypothesis_101 ?_
    refine lv_iconst (v := 1) hx hb d_Fam_hypothesis_104 (by decide) ?_
    refine lv_isub hx hb d_Fam_hypothesis_105 ?_
    refine lv_istore (lv' := [(9, .int ((α14.1 27) - 1)), (8, .int v16), (7, .int t0), (6, .int y6), (5, .int y5), (0, .ref (kad g 9)), (1, .int y1), (3, .int y3), (4, .int y4)]) hx hb d_Fam_hypothesis_106 hl (by decide) rfl (fun ls hl => ?_)
    have L108 : ∀ (n108 : Nat) (x9 : Int32) (x8 : Int32) (x7 : Int32) (x5 : Int32) (x1 : Int32) (β : kS) (ad : Nat → Nat) (H : Heap) (locs : List Loc) (cells slots : Nat) (ls : Array Slot), f_Fam_hypothesis_108 N n108 x9 x8 x7 x5 x1 β = some x → kI g A s α ad0 β ad H locs cells slots → lv_has ls 10 [(9, .int x9), (8, .int x8), (7, .int x7), (5, .int x5), (0, .ref (kad g 9)), (1, .int x1)] → W p l e (kR 32 945 α) s m ([.ref (kad g 9), .int a1, .int a2, .int a3, .int a4]).toArray below meth c H locs cells slots (vEQ below (kQ g A α ad0 (kQr x)) ([.ref (kad g 9), .int a1, .int a2, .int a3, .int a4]).toArray s A) (F0 m 108 ls []) := by
      intro n108
      induction n108 with
      | zero => intro x9 x8 x7 x5 x1 β ad H locs cells slots ls h hI hl; rw [f_Fam_hypothesis_108] at h; cases h
      | succ n108 ih108 =>
        intro x9 x8 x7 x5 x1 β ad H locs cells slots ls h hI hl
        rw [f_Fam_hypothesis_108] at h
        refine lv_iload hx hb d_Fam_hypothesis_108 (lv_at hl 0 rfl) ?_
        refine lv_if_lt (tgt := 142) hx hb d_Fam_hypothesis_110 (by decide) (fun c17 => ?_) (fun c17 => ?_)
        · replace h := Eq.trans (if_pos c17).symm h
          refine lv_aload_n hx hb d_Fam_hypothesis_142 rfl (lv_at hl 4 rfl) ?_
          refine lv_iload_n hx hb d_Fam_hypothesis_143 rfl (lv_at hl 5 rfl) ?_
          refine lv_aload_n hx hb d_Fam_hypothesis_144 rfl (lv_at hl 4 rfl) ?_
          refine kf_Fam_within S E hI.1 vt_158 d_Fam_hypothesis_145 ?_
          refine lv_aload_n hx hb d_Fam_hypothesis_148 rfl (lv_at hl 4 rfl) ?_
          refine kf_Fam_terms S E hI.1 vt_149 d_Fam_hypothesis_149 ?_
          refine lv_iconst (v := 5) hx hb d_Fam_hypothesis_152 (by decide) ?_
          refine lv_iload hx hb d_Fam_hypothesis_153 (lv_at hl 2 rfl) ?_
          refine lv_iload hx hb d_Fam_hypothesis_155 (lv_at hl 1 rfl) ?_
          refine kg_cI (As := [.int 5, .int x7, .int x8]) (rest := [.ref (kad g (11 + 18)), .int x1, .ref (kad g 9)]) h (k_Terms_make (l := l) (g := g) (α := β) hfl N 5 x7 x8) S hlocks hno E hI kw_Fam_180 ⟨Nat.le_of_ble_eq_true rfl, Nat.le_of_ble_eq_true rfl⟩ (kv_Terms E hI.1) rfl hl.1 rfl (Nat.le_of_ble_eq_true rfl) d_Fam_hypothesis_157 (fun v20 α18 ad H locs cells slots e19 h hRm hI => ?_)
          refine kg_cI (As := [.int x1, .ref (kad g (11 + 18)), .int v20]) (rest := []) h (k_Fam_bound (l := l) (g := g) (α := α18) hfl N x1 18 v20 (by decide)) S hlocks hno E hI kw_Fam_237 ⟨Nat.le_of_ble_eq_true rfl, Nat.le_of_ble_eq_true rfl⟩ (kv_Fam E hI.1) rfl hl.1 rfl (Nat.le_of_ble_eq_true rfl) d_Fam_hypothesis_160 (fun v23 α21 ad H locs cells slots e22 h hRm hI => ?_)
          exact kc_iret (w := v23) hx hb hr rfl hlocks E hI h d_Fam_hypothesis_163
        · replace h := Eq.trans (if_neg c17).symm h
          refine lv_aload_n hx hb d_Fam_hypothesis_113 rfl (lv_at hl 4 rfl) ?_
          refine kf_Fam_terms S E hI.1 vt_149 d_Fam_hypothesis_114 ?_
          refine lv_iconst (v := 5) hx hb d_Fam_hypothesis_117 (by decide) ?_
          refine lv_iload hx hb d_Fam_hypothesis_118 (lv_at hl 2 rfl) ?_
          refine lv_aload_n hx hb d_Fam_hypothesis_120 rfl (lv_at hl 4 rfl) ?_
          refine kf_Fam_terms S E hI.1 vt_149 d_Fam_hypothesis_121 ?_
          refine lv_iload hx hb d_Fam_hypothesis_124 (lv_at hl 3 rfl) ?_
          refine lv_iload hx hb d_Fam_hypothesis_126 (lv_at hl 0 rfl) ?_
          obtain ⟨v24, e25, h⟩ := Option.bind_eq_some_iff.mp h
          refine kg_p (As := [.int x5, .int x9]) (rest := [.int x7, .int 5, .ref (kad g 2)]) ((k_Terms_fromLast (l := l) (g := g) (α := β) N x5 x9) _ e25) S E hI.1 kw_Fam_189 ⟨Nat.le_of_ble_eq_true rfl, Nat.le_of_ble_eq_true rfl⟩ hI.room (kv_Terms E hI.1) rfl hl.1 rfl (Nat.le_of_ble_eq_true rfl) d_Fam_hypothesis_128 rfl ?_
          refine kg_cI (As := [.int 5, .int x7, .int v24]) (rest := []) h (k_Terms_make (l := l) (g := g) (α := β) hfl N 5 x7 v24) S hlocks hno E hI kw_Fam_180 ⟨Nat.le_of_ble_eq_true rfl, Nat.le_of_ble_eq_true rfl⟩ (kv_Terms E hI.1) rfl hl.1 rfl (Nat.le_of_ble_eq_true rfl) d_Fam_hypothesis_131 (fun v28 α26 ad H locs cells slots e27 h hRm hI => ?_)
          refine lv_istore (lv' := [(7, .int v28), (9, .int x9), (8, .int x8), (5, .int x5), (0, .ref (kad g 9)), (1, .int x1)]) hx hb d_Fam_hypothesis_134 hl (by decide) rfl (fun ls hl => ?_)
          refine lv_iinc (v := (x9 + (-1))) (lv' := [(9, .int (x9 + (-1))), (7, .int v28), (8, .int x8), (5, .int x5), (0, .ref (kad g 9)), (1, .int x1)]) hx hb d_Fam_hypothesis_136 hl (k := 1) rfl rfl (by decide) rfl (fun ls hl => ?_)
          refine lv_goto (tgt := 108) hx hb d_Fam_hypothesis_139 (by decide) ?_
          exact ih108 (x9 + (-1)) x8 v28 x5 x1 _ _ _ _ _ _ _ h hI (lv_sub hl [0, 2, 1, 3, 4, 5] rfl)
    exact L108 N ((α14.1 27) - 1) v16 t0 y5 y1 _ _ _ _ _ _ _ h hI (lv_sub hl [0, 1, 2, 4, 5, 6] rfl)
  refine lv_aload_n hx hb d_Fam_hypothesis_0 rfl (lv_at hl 0 rfl) ?_
  refine lv_iload_n hx hb d_Fam_hypothesis_1 rfl (lv_at hl 2 rfl) ?_
  refine lv_aload_n hx hb d_Fam_hypothesis_2 rfl (lv_at hl 0 rfl) ?_
  refine kf_Fam_within S E hI.1 vt_158 d_Fam_hypothesis_3 ?_
  refine kg_cI (As := [.int a2, .ref (kad g (11 + 18))]) (rest := []) h (k_Fam_split (l := l) (g := g) (α := α) hfl N a2 18 (by decide)) S hlocks hno E hI kw_Fam_229 ⟨Nat.le_of_ble_eq_true rfl, Nat.le_of_ble_eq_true rfl⟩ (kv_Fam E hI.1) rfl hl.1 rfl (Nat.le_of_ble_eq_true rfl) d_Fam_hypothesis_6 (fun v3 α1 ad H locs cells slots e2 h hRm hI => ?_)
  refine lv_istore (lv' := [(5, .int v3), (0, .ref (kad g 9)), (1, .int a1), (2, .int a2), (3, .int a3), (4, .int a4)]) hx hb d_Fam_hypothesis_9 hl (by decide) rfl (fun ls hl => ?_)
  refine lv_iload hx hb d_Fam_hypothesis_11 (lv_at hl 5 rfl) ?_
  refine lv_aload_n hx hb d_Fam_hypothesis_13 rfl (lv_at hl 1 rfl) ?_
  refine kf_Fam_within S E hI.1 vt_158 d_Fam_hypothesis_14 ?_
  refine kg_p (As := []) (rest := [.int a4]) (k_Row_size (l := l) (g := g) (α := α1) (r := 18) (by decide)) S E hI.1 kw_Fam_158 ⟨Nat.le_of_ble_eq_true rfl, Nat.le_of_ble_eq_true rfl⟩ hI.room (kv_Row (r := 18) (by decide) E hI.1) rfl hl.1 rfl (Nat.le_of_ble_eq_true rfl) d_Fam_hypothesis_17 rfl ?_
  refine lv_iadd hx hb d_Fam_hypothesis_20 ?_
  refine lv_istore (lv' := [(6, .int (a4 + (fR_size α1 18))), (5, .int v3), (0, .ref (kad g 9)), (1, .int a1), (2, .int a2), (3, .int a3), (4, .int a4)]) hx hb d_Fam_hypothesis_21 hl (by decide) rfl (fun ls hl => ?_)
  refine lv_iload_n hx hb d_Fam_hypothesis_23 rfl (lv_at hl 3 rfl) ?_
  refine lv_bipush (v := 6) hx hb d_Fam_hypothesis_24 (by decide) ?_
  refine lv_icmp_ne (tgt := 42) hx hb d_Fam_hypothesis_26 (by decide) (fun c4 => ?_) (fun c4 => ?_)
  · replace h := Eq.trans (if_neg c4).symm h
    refine lv_aload_n hx hb d_Fam_hypothesis_42 rfl (lv_at hl 2 rfl) ?_
    refine lv_aload_n hx hb d_Fam_hypothesis_43 rfl (lv_at hl 2 rfl) ?_
    refine kf_Fam_terms S E hI.1 vt_149 d_Fam_hypothesis_44 ?_
    refine lv_iconst (v := 4) hx hb d_Fam_hypothesis_47 (by decide) ?_
    refine lv_aload_n hx hb d_Fam_hypothesis_48 rfl (lv_at hl 2 rfl) ?_
    refine kf_Fam_family S E hI.1 vt_974 d_Fam_hypothesis_49 ?_
    refine lv_bipush (v := 101) hx hb d_Fam_hypothesis_52 (by decide) ?_
    refine kg_cI (As := [.int 4, .int (α1.1 25), .int 101]) (rest := [.ref (kad g 9)]) h (k_Terms_make (l := l) (g := g) (α := α1) hfl N 4 (α1.1 25) 101) S hlocks hno E hI kw_Fam_180 ⟨Nat.le_of_ble_eq_true rfl, Nat.le_of_ble_eq_true rfl⟩ (kv_Terms E hI.1) rfl hl.1 rfl (Nat.le_of_ble_eq_true rfl) d_Fam_hypothesis_54 (fun v7 α5 ad H locs cells slots e6 h hRm hI => ?_)
    refine lv_iconst (v := 0) hx hb d_Fam_hypothesis_57 (by decide) ?_
    refine lv_aload_n hx hb d_Fam_hypothesis_58 rfl (lv_at hl 2 rfl) ?_
    refine kf_Fam_parameters S E hI.1 vt_979 d_Fam_hypothesis_59 ?_
    refine lv_iconst (v := 1) hx hb d_Fam_hypothesis_62 (by decide) ?_
    refine lv_iadd hx hb d_Fam_hypothesis_63 ?_
    refine lv_aload_n hx hb d_Fam_hypothesis_64 rfl (lv_at hl 2 rfl) ?_
    refine kf_Fam_members S E hI.1 vt_981 d_Fam_hypothesis_65 ?_
    refine lv_iadd hx hb d_Fam_hypothesis_68 ?_
    refine lv_iload hx hb d_Fam_hypothesis_69 (lv_at hl 0 rfl) ?_
    refine kg_cI (As := [.int v7, .int 0, .int (((α5.1 26) + 1) + (α5.1 28)), .int (a4 + (fR_size α1 18))]) (rest := []) h (k_Fam_applied (l := l) (g := g) (α := α5) hfl N v7 0 (((α5.1 26) + 1) + (α5.1 28)) (a4 + (fR_size α1 18))) S hlocks hno E hI kw_Fam_233 ⟨Nat.le_of_ble_eq_true rfl, Nat.le_of_ble_eq_true rfl⟩ (kv_Fam E hI.1) rfl hl.1 rfl (Nat.le_of_ble_eq_true rfl) d_Fam_hypothesis_71 (fun v10 α8 ad H locs cells slots e9 h hRm hI => ?_)
    exact J74 (a4 + (fR_size α1 18)) v3 a1 a3 a4 v10 _ _ _ _ _ _ _ h hI (lv_sub hl [0, 1, 2, 3, 5, 6] rfl)
  · replace h := Eq.trans (if_pos c4).symm h
    refine lv_aload_n hx hb d_Fam_hypothesis_29 rfl (lv_at hl 2 rfl) ?_
    refine lv_aload_n hx hb d_Fam_hypothesis_30 rfl (lv_at hl 2 rfl) ?_
    refine kf_Fam_parameters S E hI.1 vt_979 d_Fam_hypothesis_31 ?_
    refine lv_iload hx hb d_Fam_hypothesis_34 (lv_at hl 0 rfl) ?_
    refine kg_cI (As := [.int (α1.1 26), .int (a4 + (fR_size α1 18))]) (rest := []) h (k_Fam_variable (l := l) (g := g) (α := α1) hfl N (α1.1 26) (a4 + (fR_size α1 18))) S hlocks hno E hI kw_Fam_247 ⟨Nat.le_of_ble_eq_true rfl, Nat.le_of_ble_eq_true rfl⟩ (kv_Fam E hI.1) rfl hl.1 rfl (Nat.le_of_ble_eq_true rfl) d_Fam_hypothesis_36 (fun v31 α29 ad H locs cells slots e30 h hRm hI => ?_)
    refine lv_goto (tgt := 74) hx hb d_Fam_hypothesis_39 (by decide) ?_
    exact J74 (a4 + (fR_size α1 18)) v3 a1 a3 a4 v31 _ _ _ _ _ _ _ h hI (lv_sub hl [0, 1, 2, 3, 5, 6] rfl)
def f_Fam_withIndices_11 (N : Nat)  : Nat → Int32 → Int32 → Int32 → Int32 → kS → Option (kO × kS)
  | 0, _, _, _, _, _ => none
  | n + 1, x5, x4, x2, x3, β => if x5 < 0 then (some (some (some x4), β)) else (((f_Terms_fromLast N x2 x5 β)).bind fun v2 => (kBi (f_Terms_rewrite N 3 v2 x3 β) fun v6 α4 => (kBi (f_Terms_make N 5 x4 v6 α4) fun v9 α7 => (f_Fam_withIndices_11 N n (x5 + (-1)) v9 x2 x3 α7))))
def f_Fam_withIndices (N : Nat) (a1 : Int32) (a2 : Int32) (a3 : Int32) (α : kS) : Option (kO × kS) := f_Fam_withIndices_11 N N ((α.1 27) - 1) a1 a2 a3 α
set_option maxHeartbeats 4000000 in
set_option maxRecDepth 100000 in
theorem k_Fam_withIndices {l : Launch} {g : kG} {α : kS} (hfl : kFl l) (N : Nat) (a1 : Int32) (a2 : Int32) (a3 : Int32)  : ∀ x, f_Fam_withIndices N a1 a2 a3 α = some x → kC l g y_Fam_withIndices b_Fam_withIndices 7 (some .int) 32 949 [.ref (kad g 9), .int a1, .int a2, .int a3] α (kQr x) := by
  intro x h
  unfold f_Fam_withIndices at h
  refine kc_ofW (by decide) (fun A ad0 p e s m args below meth c S hr hlocks hno hadm hargs E hI => ?_)
  have hx := S.1
  have hb := S.2.1
  have hown := S.2.2.2.1
  have hT := S.2.2.2.2
  subst hargs
  have hl := lv_entry ([.ref (kad g 9), .int a1, .int a2, .int a3]) (n := 7) (Nat.le_of_ble_eq_true rfl)
  rw [lg_entry_eq]
  generalize (lg_sl ([.ref (kad g 9), .int a1, .int a2, .int a3]) ++ List.replicate (7 - (lg_sl ([.ref (kad g 9), .int a1, .int a2, .int a3])).length) Slot.unset).toArray = ls at hl ⊢
  have hl : lv_has ls 7 [(0, .ref (kad g 9)), (1, .int a1), (2, .int a2), (3, .int a3)] := hl
  refine lv_iload_n hx hb d_Fam_withIndices_0 rfl (lv_at hl 1 rfl) ?_
  refine lv_istore (lv' := [(4, .int a1), (0, .ref (kad g 9)), (1, .int a1), (2, .int a2), (3, .int a3)]) hx hb d_Fam_withIndices_1 hl (by decide) rfl (fun ls hl => ?_)
  refine lv_aload_n hx hb d_Fam_withIndices_3 rfl (lv_at hl 1 rfl) ?_
  refine kf_Fam_indices S E hI.1 vt_982 d_Fam_withIndices_4 ?_
  refine lv_iconst (v := 1) hx hb d_Fam_withIndices_7 (by decide) ?_
  refine lv_isub hx hb d_Fam_withIndices_8 ?_
  refine lv_istore (lv' := [(5, .int ((α.1 27) - 1)), (4, .int a1), (0, .ref (kad g 9)), (1, .int a1), (2, .int a2), (3, .int a3)]) hx hb d_Fam_withIndices_9 hl (by decide) rfl (fun ls hl => ?_)
  have L11 : ∀ (n11 : Nat) (x5 : Int32) (x4 : Int32) (x2 : Int32) (x3 : Int32) (β : kS) (ad : Nat → Nat) (H : Heap) (locs : List Loc) (cells slots : Nat) (ls : Array Slot), f_Fam_withIndices_11 N n11 x5 x4 x2 x3 β = some x → kI g A s α ad0 β ad H locs cells slots → lv_has ls 7 [(5, .int x5), (4, .int x4), (0, .ref (kad g 9)), (2, .int x2), (3, .int x3)] → W p l e (kR 32 949 α) s m ([.ref (kad g 9), .int a1, .int a2, .int a3]).toArray below meth c H locs cells slots (vEQ below (kQ g A α ad0 (kQr x)) ([.ref (kad g 9), .int a1, .int a2, .int a3]).toArray s A) (F0 m 11 ls []) := by
    intro n11
    induction n11 with
    | zero => intro x5 x4 x2 x3 β ad H locs cells slots ls h hI hl; rw [f_Fam_withIndices_11] at h; cases h
    | succ n11 ih11 =>
      intro x5 x4 x2 x3 β ad H locs cells slots ls h hI hl
      rw [f_Fam_withIndices_11] at h
      refine lv_iload hx hb d_Fam_withIndices_11 (lv_at hl 0 rfl) ?_
      refine lv_if_lt (tgt := 57) hx hb d_Fam_withIndices_13 (by decide) (fun c1 => ?_) (fun c1 => ?_)
      · replace h := Eq.trans (if_pos c1).symm h
        refine lv_iload hx hb d_Fam_withIndices_57 (lv_at hl 1 rfl) ?_
        exact kc_iret (w := x4) hx hb hr rfl hlocks E hI h d_Fam_withIndices_59
      · replace h := Eq.trans (if_neg c1).symm h
        refine lv_aload_n hx hb d_Fam_withIndices_16 rfl (lv_at hl 2 rfl) ?_
        refine kf_Fam_terms S E hI.1 vt_149 d_Fam_withIndices_17 ?_
        refine lv_iconst (v := 3) hx hb d_Fam_withIndices_20 (by decide) ?_
        refine lv_aload_n hx hb d_Fam_withIndices_21 rfl (lv_at hl 2 rfl) ?_
        refine kf_Fam_terms S E hI.1 vt_149 d_Fam_withIndices_22 ?_
        refine lv_iload_n hx hb d_Fam_withIndices_25 rfl (lv_at hl 3 rfl) ?_
        refine lv_iload hx hb d_Fam_withIndices_26 (lv_at hl 0 rfl) ?_
        obtain ⟨v2, e3, h⟩ := Option.bind_eq_some_iff.mp h
        refine kg_p (As := [.int x2, .int x5]) (rest := [.int 3, .ref (kad g 2)]) ((k_Terms_fromLast (l := l) (g := g) (α := β) N x2 x5) _ e3) S E hI.1 kw_Fam_189 ⟨Nat.le_of_ble_eq_true rfl, Nat.le_of_ble_eq_true rfl⟩ hI.room (kv_Terms E hI.1) rfl hl.1 rfl (Nat.le_of_ble_eq_true rfl) d_Fam_withIndices_28 rfl ?_
        refine lv_iload_n hx hb d_Fam_withIndices_31 rfl (lv_at hl 4 rfl) ?_
        refine kg_cI (As := [.int 3, .int v2, .int x3]) (rest := []) h (k_Terms_rewrite (l := l) (g := g) (α := β) hfl N 3 v2 x3) S hlocks hno E hI kw_Fam_135 ⟨Nat.le_of_ble_eq_true rfl, Nat.le_of_ble_eq_true rfl⟩ (kv_Terms E hI.1) rfl hl.1 rfl (Nat.le_of_ble_eq_true rfl) d_Fam_withIndices_32 (fun v6 α4 ad H locs cells slots e5 h hRm hI => ?_)
        refine lv_istore (lv' := [(6, .int v6), (5, .int x5), (4, .int x4), (0, .ref (kad g 9)), (2, .int x2), (3, .int x3)]) hx hb d_Fam_withIndices_35 hl (by decide) rfl (fun ls hl => ?_)
        refine lv_aload_n hx hb d_Fam_withIndices_37 rfl (lv_at hl 3 rfl) ?_
        refine kf_Fam_terms S E hI.1 vt_149 d_Fam_withIndices_38 ?_
        refine lv_iconst (v := 5) hx hb d_Fam_withIndices_41 (by decide) ?_
        refine lv_iload hx hb d_Fam_withIndices_42 (lv_at hl 2 rfl) ?_
        refine lv_iload hx hb d_Fam_withIndices_44 (lv_at hl 0 rfl) ?_
        refine kg_cI (As := [.int 5, .int x4, .int v6]) (rest := []) h (k_Terms_make (l := l) (g := g) (α := α4) hfl N 5 x4 v6) S hlocks hno E hI kw_Fam_180 ⟨Nat.le_of_ble_eq_true rfl, Nat.le_of_ble_eq_true rfl⟩ (kv_Terms E hI.1) rfl hl.1 rfl (Nat.le_of_ble_eq_true rfl) d_Fam_withIndices_46 (fun v9 α7 ad H locs cells slots e8 h hRm hI => ?_)
        refine lv_istore (lv' := [(4, .int v9), (6, .int v6), (5, .int x5), (0, .ref (kad g 9)), (2, .int x2), (3, .int x3)]) hx hb d_Fam_withIndices_49 hl (by decide) rfl (fun ls hl => ?_)
        refine lv_iinc (v := (x5 + (-1))) (lv' := [(5, .int (x5 + (-1))), (4, .int v9), (6, .int v6), (0, .ref (kad g 9)), (2, .int x2), (3, .int x3)]) hx hb d_Fam_withIndices_51 hl (k := 2) rfl rfl (by decide) rfl (fun ls hl => ?_)
        refine lv_goto (tgt := 11) hx hb d_Fam_withIndices_54 (by decide) ?_
        exact ih11 (x5 + (-1)) v9 x2 x3 _ _ _ _ _ _ _ h hI (lv_sub hl [0, 1, 3, 4, 5] rfl)
  exact L11 N ((α.1 27) - 1) a1 a2 a3 _ _ _ _ _ _ _ h hI (lv_sub hl [0, 1, 2, 4, 5] rfl)
theorem kw_Fam_250 : kWv "FamilyKernel$Families" 250 "FamilyKernel$Families" y_Fam_withIndices b_Fam_withIndices 7 (some .int) 3 := ⟨vt_1104, vt_1105, vt_1106, vt_68, vt_1107, by decide, by decide, by decide +kernel⟩
theorem kw_Fam_244 : kWv "FamilyKernel$Families" 244 "FamilyKernel$Families" y_Fam_hypothesis b_Fam_hypothesis 10 (some .int) 4 := ⟨vt_1096, vt_1097, vt_1098, vt_68, vt_1099, by decide, by decide, by decide +kernel⟩
def f_Fam_minor_54 (N : Nat)  : Nat → Int32 → Int32 → Int32 → Int32 → Int32 → kS → Option (kO × kS)
  | 0, _, _, _, _, _, _ => none
  | n + 1, x5, x4, x3, x2, x1, β => if x4 ≤ x5 then (kBi (f_Terms_make N 3 (((β.1 25) + 1) + x1) 0 β) fun v10 α8 => (kBi (f_Fam_applied N v10 0 (α8.1 26) ((x2 + x4) + (fR_size β 17)) α8) fun v13 α11 => (kBi (f_Fam_applied N v13 x2 x4 ((x2 + x4) + (fR_size β 17)) α11) fun v16 α14 => (kBi (f_Fam_variable N (α14.1 26) ((x2 + x4) + (fR_size β 17)) α14) fun v19 α17 => (kBi (f_Fam_withIndices N v19 x3 (fR_size α17 17) α17) fun v22 α20 => (kBi (f_Terms_make N 5 v22 v16 α20) fun v25 α23 => (kBi (f_Fam_bound N 6 17 v25 α23) fun v28 α26 => (kBi (f_Fam_bound N 6 16 v28 α26) fun v31 α29 => (some (some (some v31), α29)))))))))) else (kBi (f_Terms_has N (fR_at β 16 x5) 3 (β.1 25) β) fun v34 α32 => (if v34 = 0 then (f_Fam_minor_54 N n (x5 + 1) x4 x3 x2 x1 α32) else (kBi (f_Terms_rewrite N 3 (fR_at α32 16 x5) ((((x2 + x4) + (fR_size α32 17)) - x2) - x5) α32) fun v38 α36 => (kBi (f_Fam_hypothesis N 6 v38 (x2 + x5) ((x2 + x4) + (fR_size α32 17)) α36) fun v41 α39 => (kBv (fR_push α39 17 v41) fun α42 => (f_Fam_minor_54 N n (x5 + 1) x4 x3 x2 x1 α42))))))
def f_Fam_minor (N : Nat) (a1 : Int32) (α : kS) : Option (kO × kS) := kBi (f_Terms_rewrite N 3 (f_Fam_memberTerm a1 α) (1 + a1) α) fun v3 α1 => (kBi (f_Fam_split N v3 16 α1) fun v6 α4 => (f_Fam_minor_54 N N 0 (fR_size α4 16) v6 (((α.1 26) + 1) + a1) a1 (fR_cut α4 17 0)))
set_option maxHeartbeats 4000000 in
set_option maxRecDepth 100000 in
theorem k_Fam_minor {l : Launch} {g : kG} {α : kS} (hfl : kFl l) (N : Nat) (a1 : Int32)  : ∀ x, f_Fam_minor N a1 α = some x → kC l g y_Fam_minor b_Fam_minor 8 (some .int) 33 975 [.ref (kad g 9), .int a1] α (kQr x) := by
  intro x h
  unfold f_Fam_minor at h
  refine kc_ofW (by decide) (fun A ad0 p e s m args below meth c S hr hlocks hno hadm hargs E hI => ?_)
  have hx := S.1
  have hb := S.2.1
  have hown := S.2.2.2.1
  have hT := S.2.2.2.2
  subst hargs
  have hl := lv_entry ([.ref (kad g 9), .int a1]) (n := 8) (Nat.le_of_ble_eq_true rfl)
  rw [lg_entry_eq]
  generalize (lg_sl ([.ref (kad g 9), .int a1]) ++ List.replicate (8 - (lg_sl ([.ref (kad g 9), .int a1])).length) Slot.unset).toArray = ls at hl ⊢
  have hl : lv_has ls 8 [(0, .ref (kad g 9)), (1, .int a1)] := hl
  refine lv_aload_n hx hb d_Fam_minor_0 rfl (lv_at hl 0 rfl) ?_
  refine kf_Fam_parameters S E hI.1 vt_979 d_Fam_minor_1 ?_
  refine lv_iconst (v := 1) hx hb d_Fam_minor_4 (by decide) ?_
  refine lv_iadd hx hb d_Fam_minor_5 ?_
  refine lv_iload_n hx hb d_Fam_minor_6 rfl (lv_at hl 1 rfl) ?_
  refine lv_iadd hx hb d_Fam_minor_7 ?_
  refine lv_istore_n (lv' := [(2, .int (((α.1 26) + 1) + a1)), (0, .ref (kad g 9)), (1, .int a1)]) hx hb d_Fam_minor_8 rfl hl (by decide) rfl (fun ls hl => ?_)
  refine lv_aload_n hx hb d_Fam_minor_9 rfl (lv_at hl 1 rfl) ?_
  refine lv_aload_n hx hb d_Fam_minor_10 rfl (lv_at hl 1 rfl) ?_
  refine kf_Fam_terms S E hI.1 vt_149 d_Fam_minor_11 ?_
  refine lv_iconst (v := 3) hx hb d_Fam_minor_14 (by decide) ?_
  refine lv_aload_n hx hb d_Fam_minor_15 rfl (lv_at hl 1 rfl) ?_
  refine lv_iload_n hx hb d_Fam_minor_16 rfl (lv_at hl 2 rfl) ?_
  refine kg_p (As := [.int a1]) (rest := [.int 3, .ref (kad g 2), .ref (kad g 9)]) (k_Fam_memberTerm (l := l) (g := g) (α := α) a1) S E hI.1 kw_Fam_145 ⟨Nat.le_of_ble_eq_true rfl, Nat.le_of_ble_eq_true rfl⟩ hI.room (kv_Fam E hI.1) rfl hl.1 rfl (Nat.le_of_ble_eq_true rfl) d_Fam_minor_17 rfl ?_
  refine lv_iconst (v := 1) hx hb d_Fam_minor_20 (by decide) ?_
  refine lv_iload_n hx hb d_Fam_minor_21 rfl (lv_at hl 2 rfl) ?_
  refine lv_iadd hx hb d_Fam_minor_22 ?_
  refine kg_cI (As := [.int 3, .int (f_Fam_memberTerm a1 α), .int (1 + a1)]) (rest := [.ref (kad g 9)]) h (k_Terms_rewrite (l := l) (g := g) (α := α) hfl N 3 (f_Fam_memberTerm a1 α) (1 + a1)) S hlocks hno E hI kw_Fam_135 ⟨Nat.le_of_ble_eq_true rfl, Nat.le_of_ble_eq_true rfl⟩ (kv_Terms E hI.1) rfl hl.1 rfl (Nat.le_of_ble_eq_true rfl) d_Fam_minor_23 (fun v3 α1 ad H locs cells slots e2 h hRm hI => ?_)
  refine lv_aload_n hx hb d_Fam_minor_26 rfl (lv_at hl 1 rfl) ?_
  refine kf_Fam_domains S E hI.1 vt_156 d_Fam_minor_27 ?_
  refine kg_cI (As := [.int v3, .ref (kad g (11 + 16))]) (rest := []) h (k_Fam_split (l := l) (g := g) (α := α1) hfl N v3 16 (by decide)) S hlocks hno E hI kw_Fam_229 ⟨Nat.le_of_ble_eq_true rfl, Nat.le_of_ble_eq_true rfl⟩ (kv_Fam E hI.1) rfl hl.1 rfl (Nat.le_of_ble_eq_true rfl) d_Fam_minor_30 (fun v6 α4 ad H locs cells slots e5 h hRm hI => ?_)
  refine lv_istore_n (lv' := [(3, .int v6), (2, .int (((α.1 26) + 1) + a1)), (0, .ref (kad g 9)), (1, .int a1)]) hx hb d_Fam_minor_33 rfl hl (by decide) rfl (fun ls hl => ?_)
  refine lv_aload_n hx hb d_Fam_minor_34 rfl (lv_at hl 2 rfl) ?_
  refine kf_Fam_domains S E hI.1 vt_156 d_Fam_minor_35 ?_
  refine kg_p (As := []) (rest := []) (k_Row_size (l := l) (g := g) (α := α4) (r := 16) (by decide)) S E hI.1 kw_Fam_158 ⟨Nat.le_of_ble_eq_true rfl, Nat.le_of_ble_eq_true rfl⟩ hI.room (kv_Row (r := 16) (by decide) E hI.1) rfl hl.1 rfl (Nat.le_of_ble_eq_true rfl) d_Fam_minor_38 rfl ?_
  refine lv_istore (lv' := [(4, .int (fR_size α4 16)), (3, .int v6), (2, .int (((α.1 26) + 1) + a1)), (0, .ref (kad g 9)), (1, .int a1)]) hx hb d_Fam_minor_41 hl (by decide) rfl (fun ls hl => ?_)
  refine lv_aload_n hx hb d_Fam_minor_43 rfl (lv_at hl 3 rfl) ?_
  refine kf_Fam_hypotheses S E hI.1 vt_157 d_Fam_minor_44 ?_
  refine lv_iconst (v := 0) hx hb d_Fam_minor_47 (by decide) ?_
  refine kg_tV (As := [.int 0]) (rest := []) (k_Row_cut (l := l) (g := g) (α := α4) (r := 17) (by decide) 0) S hlocks hno E hI kw_Fam_142 ⟨Nat.le_of_ble_eq_true rfl, Nat.le_of_ble_eq_true rfl⟩ (kv_Row (r := 17) (by decide) E hI.1) rfl hl.1 rfl (Nat.le_of_ble_eq_true rfl) d_Fam_minor_48 (fun ad H locs cells slots hRm hI => ?_)
  refine lv_iconst (v := 0) hx hb d_Fam_minor_51 (by decide) ?_
  refine lv_istore (lv' := [(5, .int 0), (4, .int (fR_size α4 16)), (3, .int v6), (2, .int (((α.1 26) + 1) + a1)), (0, .ref (kad g 9)), (1, .int a1)]) hx hb d_Fam_minor_52 hl (by decide) rfl (fun ls hl => ?_)
  have L54 : ∀ (n54 : Nat) (x5 : Int32) (x4 : Int32) (x3 : Int32) (x2 : Int32) (x1 : Int32) (β : kS) (ad : Nat → Nat) (H : Heap) (locs : List Loc) (cells slots : Nat) (ls : Array Slot), f_Fam_minor_54 N n54 x5 x4 x3 x2 x1 β = some x → kI g A s α ad0 β ad H locs cells slots → lv_has ls 8 [(5, .int x5), (4, .int x4), (3, .int x3), (2, .int x2), (0, .ref (kad g 9)), (1, .int x1)] → W p l e (kR 33 975 α) s m ([.ref (kad g 9), .int a1]).toArray below meth c H locs cells slots (vEQ below (kQ g A α ad0 (kQr x)) ([.ref (kad g 9), .int a1]).toArray s A) (F0 m 54 ls []) := by
    intro n54
    induction n54 with
    | zero => intro x5 x4 x3 x2 x1 β ad H locs cells slots ls h hI hl; rw [f_Fam_minor_54] at h; cases h
    | succ n54 ih54 =>
      intro x5 x4 x3 x2 x1 β ad H locs cells slots ls h hI hl
      rw [f_Fam_minor_54] at h
      refine lv_iload hx hb d_Fam_minor_54 (lv_at hl 0 rfl) ?_
      refine lv_iload hx hb d_Fam_minor_56 (lv_at hl 1 rfl) ?_
      refine lv_icmp_ge (tgt := 152) hx hb d_Fam_minor_58 (by decide) (fun c7 => ?_) (fun c7 => ?_)
      · replace h := Eq.trans (if_pos c7).symm h
        refine lv_iload_n hx hb d_Fam_minor_152 rfl (lv_at hl 3 rfl) ?_
        refine lv_iload hx hb d_Fam_minor_153 (lv_at hl 1 rfl) ?_
        refine lv_iadd hx hb d_Fam_minor_155 ?_
        refine lv_aload_n hx hb d_Fam_minor_156 rfl (lv_at hl 4 rfl) ?_
        refine kf_Fam_hypotheses S E hI.1 vt_157 d_Fam_minor_157 ?_
        refine kg_p (As := []) (rest := [.int (x2 + x4)]) (k_Row_size (l := l) (g := g) (α := β) (r := 17) (by decide)) S E hI.1 kw_Fam_158 ⟨Nat.le_of_ble_eq_true rfl, Nat.le_of_ble_eq_true rfl⟩ hI.room (kv_Row (r := 17) (by decide) E hI.1) rfl hl.1 rfl (Nat.le_of_ble_eq_true rfl) d_Fam_minor_160 rfl ?_
        refine lv_iadd hx hb d_Fam_minor_163 ?_
        refine lv_istore (lv' := [(5, .int ((x2 + x4) + (fR_size β 17))), (4, .int x4), (3, .int x3), (2, .int x2), (0, .ref (kad g 9)), (1, .int x1)]) hx hb d_Fam_minor_164 hl (by decide) rfl (fun ls hl => ?_)
        refine lv_aload_n hx hb d_Fam_minor_166 rfl (lv_at hl 4 rfl) ?_
        refine kf_Fam_terms S E hI.1 vt_149 d_Fam_minor_167 ?_
        refine lv_iconst (v := 3) hx hb d_Fam_minor_170 (by decide) ?_
        refine lv_aload_n hx hb d_Fam_minor_171 rfl (lv_at hl 4 rfl) ?_
        refine kf_Fam_family S E hI.1 vt_974 d_Fam_minor_172 ?_
        refine lv_iconst (v := 1) hx hb d_Fam_minor_175 (by decide) ?_
        refine lv_iadd hx hb d_Fam_minor_176 ?_
        refine lv_iload_n hx hb d_Fam_minor_177 rfl (lv_at hl 5 rfl) ?_
        refine lv_iadd hx hb d_Fam_minor_178 ?_
        refine lv_iconst (v := 0) hx hb d_Fam_minor_179 (by decide) ?_
        refine kg_cI (As := [.int 3, .int (((β.1 25) + 1) + x1), .int 0]) (rest := []) h (k_Terms_make (l := l) (g := g) (α := β) hfl N 3 (((β.1 25) + 1) + x1) 0) S hlocks hno E hI kw_Fam_180 ⟨Nat.le_of_ble_eq_true rfl, Nat.le_of_ble_eq_true rfl⟩ (kv_Terms E hI.1) rfl hl.1 rfl (Nat.le_of_ble_eq_true rfl) d_Fam_minor_180 (fun v10 α8 ad H locs cells slots e9 h hRm hI => ?_)
        refine lv_istore (lv' := [(6, .int v10), (5, .int ((x2 + x4) + (fR_size β 17))), (4, .int x4), (3, .int x3), (2, .int x2), (0, .ref (kad g 9)), (1, .int x1)]) hx hb d_Fam_minor_183 hl (by decide) rfl (fun ls hl => ?_)
        refine lv_aload_n hx hb d_Fam_minor_185 rfl (lv_at hl 5 rfl) ?_
        refine lv_aload_n hx hb d_Fam_minor_186 rfl (lv_at hl 5 rfl) ?_
        refine lv_iload hx hb d_Fam_minor_187 (lv_at hl 0 rfl) ?_
        refine lv_iconst (v := 0) hx hb d_Fam_minor_189 (by decide) ?_
        refine lv_aload_n hx hb d_Fam_minor_190 rfl (lv_at hl 5 rfl) ?_
        refine kf_Fam_parameters S E hI.1 vt_979 d_Fam_minor_191 ?_
        refine lv_iload hx hb d_Fam_minor_194 (lv_at hl 1 rfl) ?_
        refine kg_cI (As := [.int v10, .int 0, .int (α8.1 26), .int ((x2 + x4) + (fR_size β 17))]) (rest := [.ref (kad g 9)]) h (k_Fam_applied (l := l) (g := g) (α := α8) hfl N v10 0 (α8.1 26) ((x2 + x4) + (fR_size β 17))) S hlocks hno E hI kw_Fam_233 ⟨Nat.le_of_ble_eq_true rfl, Nat.le_of_ble_eq_true rfl⟩ (kv_Fam E hI.1) rfl hl.1 rfl (Nat.le_of_ble_eq_true rfl) d_Fam_minor_196 (fun v13 α11 ad H locs cells slots e12 h hRm hI => ?_)
        refine lv_iload_n hx hb d_Fam_minor_199 rfl (lv_at hl 4 rfl) ?_
        refine lv_iload hx hb d_Fam_minor_200 (lv_at hl 2 rfl) ?_
        refine lv_iload hx hb d_Fam_minor_202 (lv_at hl 1 rfl) ?_
        refine kg_cI (As := [.int v13, .int x2, .int x4, .int ((x2 + x4) + (fR_size β 17))]) (rest := []) h (k_Fam_applied (l := l) (g := g) (α := α11) hfl N v13 x2 x4 ((x2 + x4) + (fR_size β 17))) S hlocks hno E hI kw_Fam_233 ⟨Nat.le_of_ble_eq_true rfl, Nat.le_of_ble_eq_true rfl⟩ (kv_Fam E hI.1) rfl hl.1 rfl (Nat.le_of_ble_eq_true rfl) d_Fam_minor_204 (fun v16 α14 ad H locs cells slots e15 h hRm hI => ?_)
        refine lv_istore (lv' := [(6, .int v16), (5, .int ((x2 + x4) + (fR_size β 17))), (4, .int x4), (3, .int x3), (2, .int x2), (0, .ref (kad g 9)), (1, .int x1)]) hx hb d_Fam_minor_207 hl (by decide) rfl (fun ls hl => ?_)
        refine lv_aload_n hx hb d_Fam_minor_209 rfl (lv_at hl 5 rfl) ?_
        refine lv_aload_n hx hb d_Fam_minor_210 rfl (lv_at hl 5 rfl) ?_
        refine lv_aload_n hx hb d_Fam_minor_211 rfl (lv_at hl 5 rfl) ?_
        refine kf_Fam_parameters S E hI.1 vt_979 d_Fam_minor_212 ?_
        refine lv_iload hx hb d_Fam_minor_215 (lv_at hl 1 rfl) ?_
        refine kg_cI (As := [.int (α14.1 26), .int ((x2 + x4) + (fR_size β 17))]) (rest := [.ref (kad g 9)]) h (k_Fam_variable (l := l) (g := g) (α := α14) hfl N (α14.1 26) ((x2 + x4) + (fR_size β 17))) S hlocks hno E hI kw_Fam_247 ⟨Nat.le_of_ble_eq_true rfl, Nat.le_of_ble_eq_true rfl⟩ (kv_Fam E hI.1) rfl hl.1 rfl (Nat.le_of_ble_eq_true rfl) d_Fam_minor_217 (fun v19 α17 ad H locs cells slots e18 h hRm hI => ?_)
        refine lv_iload_n hx hb d_Fam_minor_220 rfl (lv_at hl 3 rfl) ?_
        refine lv_aload_n hx hb d_Fam_minor_221 rfl (lv_at hl 5 rfl) ?_
        refine kf_Fam_hypotheses S E hI.1 vt_157 d_Fam_minor_222 ?_
        refine kg_p (As := []) (rest := [.int x3, .int v19, .ref (kad g 9)]) (k_Row_size (l := l) (g := g) (α := α17) (r := 17) (by decide)) S E hI.1 kw_Fam_158 ⟨Nat.le_of_ble_eq_true rfl, Nat.le_of_ble_eq_true rfl⟩ hI.room (kv_Row (r := 17) (by decide) E hI.1) rfl hl.1 rfl (Nat.le_of_ble_eq_true rfl) d_Fam_minor_225 rfl ?_
        refine kg_cI (As := [.int v19, .int x3, .int (fR_size α17 17)]) (rest := []) h (k_Fam_withIndices (l := l) (g := g) (α := α17) hfl N v19 x3 (fR_size α17 17)) S hlocks hno E hI kw_Fam_250 ⟨Nat.le_of_ble_eq_true rfl, Nat.le_of_ble_eq_true rfl⟩ (kv_Fam E hI.1) rfl hl.1 rfl (Nat.le_of_ble_eq_true rfl) d_Fam_minor_228 (fun v22 α20 ad H locs cells slots e21 h hRm hI => ?_)
        refine lv_istore (lv' := [(7, .int v22), (6, .int v16), (5, .int ((x2 + x4) + (fR_size β 17))), (4, .int x4), (3, .int x3), (2, .int x2), (0, .ref (kad g 9)), (1, .int x1)]) hx hb d_Fam_minor_231 hl (by decide) rfl (fun ls hl => ?_)
        refine lv_aload_n hx hb d_Fam_minor_233 rfl (lv_at hl 6 rfl) ?_
        refine kf_Fam_terms S E hI.1 vt_149 d_Fam_minor_234 ?_
        refine lv_iconst (v := 5) hx hb d_Fam_minor_237 (by decide) ?_
        refine lv_iload hx hb d_Fam_minor_238 (lv_at hl 0 rfl) ?_
        refine lv_iload hx hb d_Fam_minor_240 (lv_at hl 1 rfl) ?_
        refine kg_cI (As := [.int 5, .int v22, .int v16]) (rest := []) h (k_Terms_make (l := l) (g := g) (α := α20) hfl N 5 v22 v16) S hlocks hno E hI kw_Fam_180 ⟨Nat.le_of_ble_eq_true rfl, Nat.le_of_ble_eq_true rfl⟩ (kv_Terms E hI.1) rfl hl.1 rfl (Nat.le_of_ble_eq_true rfl) d_Fam_minor_242 (fun v25 α23 ad H locs cells slots e24 h hRm hI => ?_)
        refine lv_istore (lv' := [(7, .int v25), (6, .int v16), (5, .int ((x2 + x4) + (fR_size β 17))), (4, .int x4), (3, .int x3), (2, .int x2), (0, .ref (kad g 9)), (1, .int x1)]) hx hb d_Fam_minor_245 hl (by decide) rfl (fun ls hl => ?_)
        refine lv_aload_n hx hb d_Fam_minor_247 rfl (lv_at hl 6 rfl) ?_
        refine lv_bipush (v := 6) hx hb d_Fam_minor_248 (by decide) ?_
        refine lv_aload_n hx hb d_Fam_minor_250 rfl (lv_at hl 6 rfl) ?_
        refine kf_Fam_domains S E hI.1 vt_156 d_Fam_minor_251 ?_
        refine lv_aload_n hx hb d_Fam_minor_254 rfl (lv_at hl 6 rfl) ?_
        refine lv_bipush (v := 6) hx hb d_Fam_minor_255 (by decide) ?_
        refine lv_aload_n hx hb d_Fam_minor_257 rfl (lv_at hl 6 rfl) ?_
        refine kf_Fam_hypotheses S E hI.1 vt_157 d_Fam_minor_258 ?_
        refine lv_iload hx hb d_Fam_minor_261 (lv_at hl 0 rfl) ?_
        refine kg_cI (As := [.int 6, .ref (kad g (11 + 17)), .int v25]) (rest := [.ref (kad g (11 + 16)), .int 6, .ref (kad g 9)]) h (k_Fam_bound (l := l) (g := g) (α := α23) hfl N 6 17 v25 (by decide)) S hlocks hno E hI kw_Fam_237 ⟨Nat.le_of_ble_eq_true rfl, Nat.le_of_ble_eq_true rfl⟩ (kv_Fam E hI.1) rfl hl.1 rfl (Nat.le_of_ble_eq_true rfl) d_Fam_minor_263 (fun v28 α26 ad H locs cells slots e27 h hRm hI => ?_)
        refine kg_cI (As := [.int 6, .ref (kad g (11 + 16)), .int v28]) (rest := []) h (k_Fam_bound (l := l) (g := g) (α := α26) hfl N 6 16 v28 (by decide)) S hlocks hno E hI kw_Fam_237 ⟨Nat.le_of_ble_eq_true rfl, Nat.le_of_ble_eq_true rfl⟩ (kv_Fam E hI.1) rfl hl.1 rfl (Nat.le_of_ble_eq_true rfl) d_Fam_minor_266 (fun v31 α29 ad H locs cells slots e30 h hRm hI => ?_)
        exact kc_iret (w := v31) hx hb hr rfl hlocks E hI h d_Fam_minor_269
      · replace h := Eq.trans (if_neg c7).symm h
        refine lv_aload_n hx hb d_Fam_minor_61 rfl (lv_at hl 4 rfl) ?_
        refine kf_Fam_terms S E hI.1 vt_149 d_Fam_minor_62 ?_
        refine lv_aload_n hx hb d_Fam_minor_65 rfl (lv_at hl 4 rfl) ?_
        refine kf_Fam_domains S E hI.1 vt_156 d_Fam_minor_66 ?_
        refine lv_iload hx hb d_Fam_minor_69 (lv_at hl 0 rfl) ?_
        refine kg_p (As := [.int x5]) (rest := [.ref (kad g 2)]) (k_Row_at (l := l) (g := g) (α := β) (r := 16) (by decide) x5) S E hI.1 kw_Fam_192 ⟨Nat.le_of_ble_eq_true rfl, Nat.le_of_ble_eq_true rfl⟩ hI.room (kv_Row (r := 16) (by decide) E hI.1) rfl hl.1 rfl (Nat.le_of_ble_eq_true rfl) d_Fam_minor_71 rfl ?_
        refine lv_iconst (v := 3) hx hb d_Fam_minor_74 (by decide) ?_
        refine lv_aload_n hx hb d_Fam_minor_75 rfl (lv_at hl 4 rfl) ?_
        refine kf_Fam_family S E hI.1 vt_974 d_Fam_minor_76 ?_
        refine kg_cI (As := [.int (fR_at β 16 x5), .int 3, .int (β.1 25)]) (rest := []) h (k_Terms_has (l := l) (g := g) (α := β) hfl N (fR_at β 16 x5) 3 (β.1 25)) S hlocks hno E hI kw_Fam_171 ⟨Nat.le_of_ble_eq_true rfl, Nat.le_of_ble_eq_true rfl⟩ (kv_Terms E hI.1) rfl hl.1 rfl (Nat.le_of_ble_eq_true rfl) d_Fam_minor_79 (fun v34 α32 ad H locs cells slots e33 h hRm hI => ?_)
        refine lv_if_eq (tgt := 146) hx hb d_Fam_minor_82 (by decide) (fun c35 => ?_) (fun c35 => ?_)
        · replace h := Eq.trans (if_pos c35).symm h
          refine lv_iinc (v := (x5 + 1)) (lv' := [(5, .int (x5 + 1)), (4, .int x4), (3, .int x3), (2, .int x2), (0, .ref (kad g 9)), (1, .int x1)]) hx hb d_Fam_minor_146 hl (k := 0) rfl rfl (by decide) rfl (fun ls hl => ?_)
          refine lv_goto (tgt := 54) hx hb d_Fam_minor_149 (by decide) ?_
          exact ih54 (x5 + 1) x4 x3 x2 x1 _ _ _ _ _ _ _ h hI (lv_sub hl [0, 1, 2, 3, 4, 5] rfl)
        · replace h := Eq.trans (if_neg c35).symm h
          refine lv_iload_n hx hb d_Fam_minor_85 rfl (lv_at hl 3 rfl) ?_
          refine lv_iload hx hb d_Fam_minor_86 (lv_at hl 1 rfl) ?_
          refine lv_iadd hx hb d_Fam_minor_88 ?_
          refine lv_aload_n hx hb d_Fam_minor_89 rfl (lv_at hl 4 rfl) ?_
          refine kf_Fam_hypotheses S E hI.1 vt_157 d_Fam_minor_90 ?_
          refine kg_p (As := []) (rest := [.int (x2 + x4)]) (k_Row_size (l := l) (g := g) (α := α32) (r := 17) (by decide)) S E hI.1 kw_Fam_158 ⟨Nat.le_of_ble_eq_true rfl, Nat.le_of_ble_eq_true rfl⟩ hI.room (kv_Row (r := 17) (by decide) E hI.1) rfl hl.1 rfl (Nat.le_of_ble_eq_true rfl) d_Fam_minor_93 rfl ?_
          refine lv_iadd hx hb d_Fam_minor_96 ?_
          refine lv_istore (lv' := [(6, .int ((x2 + x4) + (fR_size α32 17))), (5, .int x5), (4, .int x4), (3, .int x3), (2, .int x2), (0, .ref (kad g 9)), (1, .int x1)]) hx hb d_Fam_minor_97 hl (by decide) rfl (fun ls hl => ?_)
          refine lv_aload_n hx hb d_Fam_minor_99 rfl (lv_at hl 5 rfl) ?_
          refine kf_Fam_terms S E hI.1 vt_149 d_Fam_minor_100 ?_
          refine lv_iconst (v := 3) hx hb d_Fam_minor_103 (by decide) ?_
          refine lv_aload_n hx hb d_Fam_minor_104 rfl (lv_at hl 5 rfl) ?_
          refine kf_Fam_domains S E hI.1 vt_156 d_Fam_minor_105 ?_
          refine lv_iload hx hb d_Fam_minor_108 (lv_at hl 1 rfl) ?_
          refine kg_p (As := [.int x5]) (rest := [.int 3, .ref (kad g 2)]) (k_Row_at (l := l) (g := g) (α := α32) (r := 16) (by decide) x5) S E hI.1 kw_Fam_192 ⟨Nat.le_of_ble_eq_true rfl, Nat.le_of_ble_eq_true rfl⟩ hI.room (kv_Row (r := 16) (by decide) E hI.1) rfl hl.1 rfl (Nat.le_of_ble_eq_true rfl) d_Fam_minor_110 rfl ?_
          refine lv_iload hx hb d_Fam_minor_113 (lv_at hl 0 rfl) ?_
          refine lv_iload_n hx hb d_Fam_minor_115 rfl (lv_at hl 4 rfl) ?_
          refine lv_isub hx hb d_Fam_minor_116 ?_
          refine lv_iload hx hb d_Fam_minor_117 (lv_at hl 1 rfl) ?_
          refine lv_isub hx hb d_Fam_minor_119 ?_
          refine kg_cI (As := [.int 3, .int (fR_at α32 16 x5), .int ((((x2 + x4) + (fR_size α32 17)) - x2) - x5)]) (rest := []) h (k_Terms_rewrite (l := l) (g := g) (α := α32) hfl N 3 (fR_at α32 16 x5) ((((x2 + x4) + (fR_size α32 17)) - x2) - x5)) S hlocks hno E hI kw_Fam_135 ⟨Nat.le_of_ble_eq_true rfl, Nat.le_of_ble_eq_true rfl⟩ (kv_Terms E hI.1) rfl hl.1 rfl (Nat.le_of_ble_eq_true rfl) d_Fam_minor_120 (fun v38 α36 ad H locs cells slots e37 h hRm hI => ?_)
          refine lv_istore (lv' := [(7, .int v38), (6, .int ((x2 + x4) + (fR_size α32 17))), (5, .int x5), (4, .int x4), (3, .int x3), (2, .int x2), (0, .ref (kad g 9)), (1, .int x1)]) hx hb d_Fam_minor_123 hl (by decide) rfl (fun ls hl => ?_)
          refine lv_aload_n hx hb d_Fam_minor_125 rfl (lv_at hl 6 rfl) ?_
          refine kf_Fam_hypotheses S E hI.1 vt_157 d_Fam_minor_126 ?_
          refine lv_aload_n hx hb d_Fam_minor_129 rfl (lv_at hl 6 rfl) ?_
          refine lv_bipush (v := 6) hx hb d_Fam_minor_130 (by decide) ?_
          refine lv_iload hx hb d_Fam_minor_132 (lv_at hl 0 rfl) ?_
          refine lv_iload_n hx hb d_Fam_minor_134 rfl (lv_at hl 5 rfl) ?_
          refine lv_iload hx hb d_Fam_minor_135 (lv_at hl 2 rfl) ?_
          refine lv_iadd hx hb d_Fam_minor_137 ?_
          refine lv_iload hx hb d_Fam_minor_138 (lv_at hl 1 rfl) ?_
          refine kg_cI (As := [.int 6, .int v38, .int (x2 + x5), .int ((x2 + x4) + (fR_size α32 17))]) (rest := [.ref (kad g (11 + 17))]) h (k_Fam_hypothesis (l := l) (g := g) (α := α36) hfl N 6 v38 (x2 + x5) ((x2 + x4) + (fR_size α32 17))) S hlocks hno E hI kw_Fam_244 ⟨Nat.le_of_ble_eq_true rfl, Nat.le_of_ble_eq_true rfl⟩ (kv_Fam E hI.1) rfl hl.1 rfl (Nat.le_of_ble_eq_true rfl) d_Fam_minor_140 (fun v41 α39 ad H locs cells slots e40 h hRm hI => ?_)
          refine kg_cV (As := [.int v41]) (rest := []) h (k_Row_push (l := l) (g := g) (α := α39) (r := 17) (by decide) v41) S hlocks hno E hI kw_Fam_178 ⟨Nat.le_of_ble_eq_true rfl, Nat.le_of_ble_eq_true rfl⟩ (kv_Row (r := 17) (by decide) E hI.1) rfl hl.1 rfl (Nat.le_of_ble_eq_true rfl) d_Fam_minor_143 (fun α42 ad H locs cells slots e43 h hRm hI => ?_)
          refine lv_iinc (v := (x5 + 1)) (lv' := [(5, .int (x5 + 1)), (7, .int v38), (6, .int ((x2 + x4) + (fR_size α32 17))), (4, .int x4), (3, .int x3), (2, .int x2), (0, .ref (kad g 9)), (1, .int x1)]) hx hb d_Fam_minor_146 hl (k := 2) rfl rfl (by decide) rfl (fun ls hl => ?_)
          refine lv_goto (tgt := 54) hx hb d_Fam_minor_149 (by decide) ?_
          exact ih54 (x5 + 1) x4 x3 x2 x1 _ _ _ _ _ _ _ h hI (lv_sub hl [0, 3, 4, 5, 6, 7] rfl)
  exact L54 N 0 (fR_size α4 16) v6 (((α.1 26) + 1) + a1) a1 _ _ _ _ _ _ _ h hI (lv_sub hl [0, 1, 2, 3, 4, 5] rfl)
def f_Fam_recursorType (N : Nat)  (α : kS) : Option (kO × kS) := kBi (f_Terms_rewrite N 3 (f_Par_type α) (1 + (α.1 28)) α) fun v3 α1 => (kBi (f_Fam_split N v3 16 α1) fun v6 α4 => (kBi (f_Terms_make N 3 (α4.1 25) 0 α4) fun v9 α7 => (kBi (f_Fam_applied N v9 0 (α7.1 26) ((((α.1 26) + 1) + (α.1 28)) + (α.1 27)) α7) fun v12 α10 => (kBi (f_Fam_applied N v12 (((α.1 26) + 1) + (α.1 28)) (α10.1 27) ((((α.1 26) + 1) + (α.1 28)) + (α.1 27)) α10) fun v15 α13 => (kBi (f_Fam_variable N (α13.1 26) (((((α.1 26) + 1) + (α.1 28)) + (α.1 27)) + 1) α13) fun v18 α16 => (kBi (f_Fam_applied N v18 (((α.1 26) + 1) + (α.1 28)) ((α16.1 27) + 1) (((((α.1 26) + 1) + (α.1 28)) + (α.1 27)) + 1) α16) fun v21 α19 => (kBi (f_Terms_make N 6 v15 v21 α19) fun v24 α22 => (kBi (f_Fam_bound N 6 16 v24 α22) fun v27 α25 => (kBi (f_Fam_bound N 6 19 v27 α25) fun v30 α28 => (kBi (f_Terms_make N 6 (α25.1 30) v30 α28) fun v33 α31 => (kBi (f_Par_overParameters N v33 α31) fun v36 α34 => (some (some (some v36), α34)))))))))))))
set_option maxHeartbeats 4000000 in
set_option maxRecDepth 100000 in
theorem k_Fam_recursorType {l : Launch} {g : kG} {α : kS} (hfl : kFl l) (N : Nat)   : ∀ x, f_Fam_recursorType N α = some x → kC l g y_Fam_recursorType b_Fam_recursorType 7 (some .int) 32 949 [.ref (kad g 9)] α (kQr x) := by
  intro x h
  unfold f_Fam_recursorType at h
  refine kc_ofW (by decide) (fun A ad0 p e s m args below meth c S hr hlocks hno hadm hargs E hI => ?_)
  have hx := S.1
  have hb := S.2.1
  have hown := S.2.2.2.1
  have hT := S.2.2.2.2
  subst hargs
  have hl := lv_entry ([.ref (kad g 9)]) (n := 7) (Nat.le_of_ble_eq_true rfl)
  rw [lg_entry_eq]
  generalize (lg_sl ([.ref (kad g 9)]) ++ List.replicate (7 - (lg_sl ([.ref (kad g 9)])).length) Slot.unset).toArray = ls at hl ⊢
  have hl : lv_has ls 7 [(0, .ref (kad g 9))] := hl
  refine lv_aload_n hx hb d_Fam_recursorType_0 rfl (lv_at hl 0 rfl) ?_
  refine kf_Fam_parameters S E hI.1 vt_979 d_Fam_recursorType_1 ?_
  refine lv_iconst (v := 1) hx hb d_Fam_recursorType_4 (by decide) ?_
  refine lv_iadd hx hb d_Fam_recursorType_5 ?_
  refine lv_aload_n hx hb d_Fam_recursorType_6 rfl (lv_at hl 0 rfl) ?_
  refine kf_Fam_members S E hI.1 vt_981 d_Fam_recursorType_7 ?_
  refine lv_iadd hx hb d_Fam_recursorType_10 ?_
  refine lv_istore_n (lv' := [(1, .int (((α.1 26) + 1) + (α.1 28))), (0, .ref (kad g 9))]) hx hb d_Fam_recursorType_11 rfl hl (by decide) rfl (fun ls hl => ?_)
  refine lv_iload_n hx hb d_Fam_recursorType_12 rfl (lv_at hl 0 rfl) ?_
  refine lv_aload_n hx hb d_Fam_recursorType_13 rfl (lv_at hl 1 rfl) ?_
  refine kf_Fam_indices S E hI.1 vt_982 d_Fam_recursorType_14 ?_
  refine lv_iadd hx hb d_Fam_recursorType_17 ?_
  refine lv_istore_n (lv' := [(2, .int ((((α.1 26) + 1) + (α.1 28)) + (α.1 27))), (1, .int (((α.1 26) + 1) + (α.1 28))), (0, .ref (kad g 9))]) hx hb d_Fam_recursorType_18 rfl hl (by decide) rfl (fun ls hl => ?_)
  refine lv_aload_n hx hb d_Fam_recursorType_19 rfl (lv_at hl 2 rfl) ?_
  refine lv_aload_n hx hb d_Fam_recursorType_20 rfl (lv_at hl 2 rfl) ?_
  refine kf_Fam_terms S E hI.1 vt_149 d_Fam_recursorType_21 ?_
  refine lv_iconst (v := 3) hx hb d_Fam_recursorType_24 (by decide) ?_
  refine lv_aload_n hx hb d_Fam_recursorType_25 rfl (lv_at hl 2 rfl) ?_
  refine kf_Fam_parser S E hI.1 vt_151 d_Fam_recursorType_26 ?_
  refine kg_p (As := []) (rest := [.int 3, .ref (kad g 2), .ref (kad g 9)]) (k_Par_type (l := l) (g := g) (α := α) ) S E hI.1 kw_Fam_82 ⟨Nat.le_of_ble_eq_true rfl, Nat.le_of_ble_eq_true rfl⟩ hI.room (kv_Par E hI.1) rfl hl.1 rfl (Nat.le_of_ble_eq_true rfl) d_Fam_recursorType_29 rfl ?_
  refine lv_iconst (v := 1) hx hb d_Fam_recursorType_32 (by decide) ?_
  refine lv_aload_n hx hb d_Fam_recursorType_33 rfl (lv_at hl 2 rfl) ?_
  refine kf_Fam_members S E hI.1 vt_981 d_Fam_recursorType_34 ?_
  refine lv_iadd hx hb d_Fam_recursorType_37 ?_
  refine kg_cI (As := [.int 3, .int (f_Par_type α), .int (1 + (α.1 28))]) (rest := [.ref (kad g 9)]) h (k_Terms_rewrite (l := l) (g := g) (α := α) hfl N 3 (f_Par_type α) (1 + (α.1 28))) S hlocks hno E hI kw_Fam_135 ⟨Nat.le_of_ble_eq_true rfl, Nat.le_of_ble_eq_true rfl⟩ (kv_Terms E hI.1) rfl hl.1 rfl (Nat.le_of_ble_eq_true rfl) d_Fam_recursorType_38 (fun v3 α1 ad H locs cells slots e2 h hRm hI => ?_)
  refine lv_aload_n hx hb d_Fam_recursorType_41 rfl (lv_at hl 2 rfl) ?_
  refine kf_Fam_domains S E hI.1 vt_156 d_Fam_recursorType_42 ?_
  refine kg_cI (As := [.int v3, .ref (kad g (11 + 16))]) (rest := []) h (k_Fam_split (l := l) (g := g) (α := α1) hfl N v3 16 (by decide)) S hlocks hno E hI kw_Fam_229 ⟨Nat.le_of_ble_eq_true rfl, Nat.le_of_ble_eq_true rfl⟩ (kv_Fam E hI.1) rfl hl.1 rfl (Nat.le_of_ble_eq_true rfl) d_Fam_recursorType_45 (fun v6 α4 ad H locs cells slots e5 h hRm hI => ?_)
  refine lv_pop hx hb d_Fam_recursorType_48 rfl ?_
  refine lv_aload_n hx hb d_Fam_recursorType_49 rfl (lv_at hl 2 rfl) ?_
  refine kf_Fam_terms S E hI.1 vt_149 d_Fam_recursorType_50 ?_
  refine lv_iconst (v := 3) hx hb d_Fam_recursorType_53 (by decide) ?_
  refine lv_aload_n hx hb d_Fam_recursorType_54 rfl (lv_at hl 2 rfl) ?_
  refine kf_Fam_family S E hI.1 vt_974 d_Fam_recursorType_55 ?_
  refine lv_iconst (v := 0) hx hb d_Fam_recursorType_58 (by decide) ?_
  refine kg_cI (As := [.int 3, .int (α4.1 25), .int 0]) (rest := []) h (k_Terms_make (l := l) (g := g) (α := α4) hfl N 3 (α4.1 25) 0) S hlocks hno E hI kw_Fam_180 ⟨Nat.le_of_ble_eq_true rfl, Nat.le_of_ble_eq_true rfl⟩ (kv_Terms E hI.1) rfl hl.1 rfl (Nat.le_of_ble_eq_true rfl) d_Fam_recursorType_59 (fun v9 α7 ad H locs cells slots e8 h hRm hI => ?_)
  refine lv_istore_n (lv' := [(3, .int v9), (2, .int ((((α.1 26) + 1) + (α.1 28)) + (α.1 27))), (1, .int (((α.1 26) + 1) + (α.1 28))), (0, .ref (kad g 9))]) hx hb d_Fam_recursorType_62 rfl hl (by decide) rfl (fun ls hl => ?_)
  refine lv_aload_n hx hb d_Fam_recursorType_63 rfl (lv_at hl 3 rfl) ?_
  refine lv_aload_n hx hb d_Fam_recursorType_64 rfl (lv_at hl 3 rfl) ?_
  refine lv_iload_n hx hb d_Fam_recursorType_65 rfl (lv_at hl 0 rfl) ?_
  refine lv_iconst (v := 0) hx hb d_Fam_recursorType_66 (by decide) ?_
  refine lv_aload_n hx hb d_Fam_recursorType_67 rfl (lv_at hl 3 rfl) ?_
  refine kf_Fam_parameters S E hI.1 vt_979 d_Fam_recursorType_68 ?_
  refine lv_iload_n hx hb d_Fam_recursorType_71 rfl (lv_at hl 1 rfl) ?_
  refine kg_cI (As := [.int v9, .int 0, .int (α7.1 26), .int ((((α.1 26) + 1) + (α.1 28)) + (α.1 27))]) (rest := [.ref (kad g 9)]) h (k_Fam_applied (l := l) (g := g) (α := α7) hfl N v9 0 (α7.1 26) ((((α.1 26) + 1) + (α.1 28)) + (α.1 27))) S hlocks hno E hI kw_Fam_233 ⟨Nat.le_of_ble_eq_true rfl, Nat.le_of_ble_eq_true rfl⟩ (kv_Fam E hI.1) rfl hl.1 rfl (Nat.le_of_ble_eq_true rfl) d_Fam_recursorType_72 (fun v12 α10 ad H locs cells slots e11 h hRm hI => ?_)
  refine lv_iload_n hx hb d_Fam_recursorType_75 rfl (lv_at hl 2 rfl) ?_
  refine lv_aload_n hx hb d_Fam_recursorType_76 rfl (lv_at hl 3 rfl) ?_
  refine kf_Fam_indices S E hI.1 vt_982 d_Fam_recursorType_77 ?_
  refine lv_iload_n hx hb d_Fam_recursorType_80 rfl (lv_at hl 1 rfl) ?_
  refine kg_cI (As := [.int v12, .int (((α.1 26) + 1) + (α.1 28)), .int (α10.1 27), .int ((((α.1 26) + 1) + (α.1 28)) + (α.1 27))]) (rest := []) h (k_Fam_applied (l := l) (g := g) (α := α10) hfl N v12 (((α.1 26) + 1) + (α.1 28)) (α10.1 27) ((((α.1 26) + 1) + (α.1 28)) + (α.1 27))) S hlocks hno E hI kw_Fam_233 ⟨Nat.le_of_ble_eq_true rfl, Nat.le_of_ble_eq_true rfl⟩ (kv_Fam E hI.1) rfl hl.1 rfl (Nat.le_of_ble_eq_true rfl) d_Fam_recursorType_81 (fun v15 α13 ad H locs cells slots e14 h hRm hI => ?_)
  refine lv_istore (lv' := [(4, .int v15), (3, .int v9), (2, .int ((((α.1 26) + 1) + (α.1 28)) + (α.1 27))), (1, .int (((α.1 26) + 1) + (α.1 28))), (0, .ref (kad g 9))]) hx hb d_Fam_recursorType_84 hl (by decide) rfl (fun ls hl => ?_)
  refine lv_aload_n hx hb d_Fam_recursorType_86 rfl (lv_at hl 4 rfl) ?_
  refine lv_aload_n hx hb d_Fam_recursorType_87 rfl (lv_at hl 4 rfl) ?_
  refine lv_aload_n hx hb d_Fam_recursorType_88 rfl (lv_at hl 4 rfl) ?_
  refine kf_Fam_parameters S E hI.1 vt_979 d_Fam_recursorType_89 ?_
  refine lv_iload_n hx hb d_Fam_recursorType_92 rfl (lv_at hl 2 rfl) ?_
  refine lv_iconst (v := 1) hx hb d_Fam_recursorType_93 (by decide) ?_
  refine lv_iadd hx hb d_Fam_recursorType_94 ?_
  refine kg_cI (As := [.int (α13.1 26), .int (((((α.1 26) + 1) + (α.1 28)) + (α.1 27)) + 1)]) (rest := [.ref (kad g 9)]) h (k_Fam_variable (l := l) (g := g) (α := α13) hfl N (α13.1 26) (((((α.1 26) + 1) + (α.1 28)) + (α.1 27)) + 1)) S hlocks hno E hI kw_Fam_247 ⟨Nat.le_of_ble_eq_true rfl, Nat.le_of_ble_eq_true rfl⟩ (kv_Fam E hI.1) rfl hl.1 rfl (Nat.le_of_ble_eq_true rfl) d_Fam_recursorType_95 (fun v18 α16 ad H locs cells slots e17 h hRm hI => ?_)
  refine lv_iload_n hx hb d_Fam_recursorType_98 rfl (lv_at hl 3 rfl) ?_
  refine lv_aload_n hx hb d_Fam_recursorType_99 rfl (lv_at hl 4 rfl) ?_
  refine kf_Fam_indices S E hI.1 vt_982 d_Fam_recursorType_100 ?_
  refine lv_iconst (v := 1) hx hb d_Fam_recursorType_103 (by decide) ?_
  refine lv_iadd hx hb d_Fam_recursorType_104 ?_
  refine lv_iload_n hx hb d_Fam_recursorType_105 rfl (lv_at hl 2 rfl) ?_
  refine lv_iconst (v := 1) hx hb d_Fam_recursorType_106 (by decide) ?_
  refine lv_iadd hx hb d_Fam_recursorType_107 ?_
  refine kg_cI (As := [.int v18, .int (((α.1 26) + 1) + (α.1 28)), .int ((α16.1 27) + 1), .int (((((α.1 26) + 1) + (α.1 28)) + (α.1 27)) + 1)]) (rest := []) h (k_Fam_applied (l := l) (g := g) (α := α16) hfl N v18 (((α.1 26) + 1) + (α.1 28)) ((α16.1 27) + 1) (((((α.1 26) + 1) + (α.1 28)) + (α.1 27)) + 1)) S hlocks hno E hI kw_Fam_233 ⟨Nat.le_of_ble_eq_true rfl, Nat.le_of_ble_eq_true rfl⟩ (kv_Fam E hI.1) rfl hl.1 rfl (Nat.le_of_ble_eq_true rfl) d_Fam_recursorType_108 (fun v21 α19 ad H locs cells slots e20 h hRm hI => ?_)
  refine lv_istore (lv' := [(5, .int v21), (4, .int v15), (3, .int v9), (2, .int ((((α.1 26) + 1) + (α.1 28)) + (α.1 27))), (1, .int (((α.1 26) + 1) + (α.1 28))), (0, .ref (kad g 9))]) hx hb d_Fam_recursorType_111 hl (by decide) rfl (fun ls hl => ?_)
  refine lv_aload_n hx hb d_Fam_recursorType_113 rfl (lv_at hl 5 rfl) ?_
  refine lv_bipush (v := 6) hx hb d_Fam_recursorType_114 (by decide) ?_
  refine lv_aload_n hx hb d_Fam_recursorType_116 rfl (lv_at hl 5 rfl) ?_
  refine kf_Fam_domains S E hI.1 vt_156 d_Fam_recursorType_117 ?_
  refine lv_aload_n hx hb d_Fam_recursorType_120 rfl (lv_at hl 5 rfl) ?_
  refine kf_Fam_terms S E hI.1 vt_149 d_Fam_recursorType_121 ?_
  refine lv_bipush (v := 6) hx hb d_Fam_recursorType_124 (by decide) ?_
  refine lv_iload hx hb d_Fam_recursorType_126 (lv_at hl 1 rfl) ?_
  refine lv_iload hx hb d_Fam_recursorType_128 (lv_at hl 0 rfl) ?_
  refine kg_cI (As := [.int 6, .int v15, .int v21]) (rest := [.ref (kad g (11 + 16)), .int 6, .ref (kad g 9)]) h (k_Terms_make (l := l) (g := g) (α := α19) hfl N 6 v15 v21) S hlocks hno E hI kw_Fam_180 ⟨Nat.le_of_ble_eq_true rfl, Nat.le_of_ble_eq_true rfl⟩ (kv_Terms E hI.1) rfl hl.1 rfl (Nat.le_of_ble_eq_true rfl) d_Fam_recursorType_130 (fun v24 α22 ad H locs cells slots e23 h hRm hI => ?_)
  refine kg_cI (As := [.int 6, .ref (kad g (11 + 16)), .int v24]) (rest := []) h (k_Fam_bound (l := l) (g := g) (α := α22) hfl N 6 16 v24 (by decide)) S hlocks hno E hI kw_Fam_237 ⟨Nat.le_of_ble_eq_true rfl, Nat.le_of_ble_eq_true rfl⟩ (kv_Fam E hI.1) rfl hl.1 rfl (Nat.le_of_ble_eq_true rfl) d_Fam_recursorType_133 (fun v27 α25 ad H locs cells slots e26 h hRm hI => ?_)
  refine lv_istore (lv' := [(6, .int v27), (5, .int v21), (4, .int v15), (3, .int v9), (2, .int ((((α.1 26) + 1) + (α.1 28)) + (α.1 27))), (1, .int (((α.1 26) + 1) + (α.1 28))), (0, .ref (kad g 9))]) hx hb d_Fam_recursorType_136 hl (by decide) rfl (fun ls hl => ?_)
  refine lv_aload_n hx hb d_Fam_recursorType_138 rfl (lv_at hl 6 rfl) ?_
  refine kf_Fam_terms S E hI.1 vt_149 d_Fam_recursorType_139 ?_
  refine lv_bipush (v := 6) hx hb d_Fam_recursorType_142 (by decide) ?_
  refine lv_aload_n hx hb d_Fam_recursorType_144 rfl (lv_at hl 6 rfl) ?_
  refine kf_Fam_motive S E hI.1 vt_1095 d_Fam_recursorType_145 ?_
  refine lv_aload_n hx hb d_Fam_recursorType_148 rfl (lv_at hl 6 rfl) ?_
  refine lv_bipush (v := 6) hx hb d_Fam_recursorType_149 (by decide) ?_
  refine lv_aload_n hx hb d_Fam_recursorType_151 rfl (lv_at hl 6 rfl) ?_
  refine kf_Fam_minors S E hI.1 vt_159 d_Fam_recursorType_152 ?_
  refine lv_iload hx hb d_Fam_recursorType_155 (lv_at hl 0 rfl) ?_
  refine kg_cI (As := [.int 6, .ref (kad g (11 + 19)), .int v27]) (rest := [.int (α25.1 30), .int 6, .ref (kad g 2)]) h (k_Fam_bound (l := l) (g := g) (α := α25) hfl N 6 19 v27 (by decide)) S hlocks hno E hI kw_Fam_237 ⟨Nat.le_of_ble_eq_true rfl, Nat.le_of_ble_eq_true rfl⟩ (kv_Fam E hI.1) rfl hl.1 rfl (Nat.le_of_ble_eq_true rfl) d_Fam_recursorType_157 (fun v30 α28 ad H locs cells slots e29 h hRm hI => ?_)
  refine kg_cI (As := [.int 6, .int (α25.1 30), .int v30]) (rest := []) h (k_Terms_make (l := l) (g := g) (α := α28) hfl N 6 (α25.1 30) v30) S hlocks hno E hI kw_Fam_180 ⟨Nat.le_of_ble_eq_true rfl, Nat.le_of_ble_eq_true rfl⟩ (kv_Terms E hI.1) rfl hl.1 rfl (Nat.le_of_ble_eq_true rfl) d_Fam_recursorType_160 (fun v33 α31 ad H locs cells slots e32 h hRm hI => ?_)
  refine lv_istore (lv' := [(6, .int v33), (5, .int v21), (4, .int v15), (3, .int v9), (2, .int ((((α.1 26) + 1) + (α.1 28)) + (α.1 27))), (1, .int (((α.1 26) + 1) + (α.1 28))), (0, .ref (kad g 9))]) hx hb d_Fam_recursorType_163 hl (by decide) rfl (fun ls hl => ?_)
  refine lv_aload_n hx hb d_Fam_recursorType_165 rfl (lv_at hl 6 rfl) ?_
  refine kf_Fam_parser S E hI.1 vt_151 d_Fam_recursorType_166 ?_
  refine lv_iload hx hb d_Fam_recursorType_169 (lv_at hl 0 rfl) ?_
  refine kg_cI (As := [.int v33]) (rest := []) h (k_Par_overParameters (l := l) (g := g) (α := α31) hfl N v33) S hlocks hno E hI kw_Fam_165 ⟨Nat.le_of_ble_eq_true rfl, Nat.le_of_ble_eq_true rfl⟩ (kv_Par E hI.1) rfl hl.1 rfl (Nat.le_of_ble_eq_true rfl) d_Fam_recursorType_171 (fun v36 α34 ad H locs cells slots e35 h hRm hI => ?_)
  exact kc_iret (w := v36) hx hb hr rfl hlocks E hI h d_Fam_recursorType_174
def f_Fam_rule_210 (N : Nat)  : Nat → Int32 → Int32 → kS → Option (kO × kS)
  | 0, _, _, _ => none
  | n + 1, x6_210, x5_210, β210 => if x6_210 < 0 then (some (some (some x5_210), β210)) else (kBi (f_Terms_make N 7 (f_Par_parameterType x6_210 β210) x5_210 β210) fun v26 α24 => (f_Fam_rule_210 N n (x6_210 + (-1)) v26 α24))
def f_Fam_rule_80 (N : Nat)  : Nat → Int32 → Int32 → Int32 → Int32 → Int32 → kS → Option (kO × kS)
  | 0, _, _, _, _, _, _ => none
  | n + 1, x6, x5, x4, x3, x2, β => if x3 ≤ x6 then (kBi (f_Fam_bound N 7 16 x5 β) fun v16 α14 => (kBi (f_Fam_bound N 7 19 v16 α14) fun v19 α17 => (kBi (f_Terms_make N 7 (β.1 30) v19 α17) fun v22 α20 => (f_Fam_rule_210 N N ((α20.1 26) - 1) v22 α20)))) else (kBi (f_Terms_has N (fR_at β 16 x6) 3 (β.1 25) β) fun v29 α27 => (if v29 = 0 then (f_Fam_rule_80 N n (x6 + 1) x5 x4 x3 x2 α27) else (kBi (f_Terms_rewrite N 3 (fR_at α27 16 x6) (x3 - x6) α27) fun v33 α31 => (kBi (f_Fam_hypothesis N 7 v33 (x2 + x6) x4 α31) fun v36 α34 => (kBi (f_Terms_make N 5 x5 v36 α34) fun v39 α37 => (f_Fam_rule_80 N n (x6 + 1) v39 x4 x3 x2 α37))))))
def f_Fam_rule (N : Nat) (a1 : Int32) (α : kS) : Option (kO × kS) := kBi (f_Terms_rewrite N 3 (f_Fam_memberTerm a1 α) (1 + (α.1 28)) α) fun v3 α1 => (kBi (f_Fam_split N v3 16 α1) fun v6 α4 => (kBi (f_Fam_variable N (((α4.1 26) + 1) + a1) ((((α.1 26) + 1) + (α.1 28)) + (fR_size α4 16)) α4) fun v9 α7 => (kBi (f_Fam_applied N v9 (((α.1 26) + 1) + (α.1 28)) (fR_size α4 16) ((((α.1 26) + 1) + (α.1 28)) + (fR_size α4 16)) α7) fun v12 α10 => (f_Fam_rule_80 N N 0 v12 ((((α.1 26) + 1) + (α.1 28)) + (fR_size α4 16)) (fR_size α4 16) (((α.1 26) + 1) + (α.1 28)) α10))))
set_option maxHeartbeats 4000000 in
set_option maxRecDepth 100000 in
theorem k_Fam_rule {l : Launch} {g : kG} {α : kS} (hfl : kFl l) (N : Nat) (a1 : Int32)  : ∀ x, f_Fam_rule N a1 α = some x → kC l g y_Fam_rule b_Fam_rule 8 (some .int) 33 974 [.ref (kad g 9), .int a1] α (kQr x) := by
  intro x h
  unfold f_Fam_rule at h
  refine kc_ofW (by decide) (fun A ad0 p e s m args below meth c S hr hlocks hno hadm hargs E hI => ?_)
  have hx := S.1
  have hb := S.2.1
  have hown := S.2.2.2.1
  have hT := S.2.2.2.2
  subst hargs
  have hl := lv_entry ([.ref (kad g 9), .int a1]) (n := 8) (Nat.le_of_ble_eq_true rfl)
  rw [lg_entry_eq]
  generalize (lg_sl ([.ref (kad g 9), .int a1]) ++ List.replicate (8 - (lg_sl ([.ref (kad g 9), .int a1])).length) Slot.unset).toArray = ls at hl ⊢
  have hl : lv_has ls 8 [(0, .ref (kad g 9)), (1, .int a1)] := hl
  refine lv_aload_n hx hb d_Fam_rule_0 rfl (lv_at hl 0 rfl) ?_
  refine kf_Fam_parameters S E hI.1 vt_979 d_Fam_rule_1 ?_
  refine lv_iconst (v := 1) hx hb d_Fam_rule_4 (by decide) ?_
  refine lv_iadd hx hb d_Fam_rule_5 ?_
  refine lv_aload_n hx hb d_Fam_rule_6 rfl (lv_at hl 0 rfl) ?_
  refine kf_Fam_members S E hI.1 vt_981 d_Fam_rule_7 ?_
  refine lv_iadd hx hb d_Fam_rule_10 ?_
  refine lv_istore_n (lv' := [(2, .int (((α.1 26) + 1) + (α.1 28))), (0, .ref (kad g 9)), (1, .int a1)]) hx hb d_Fam_rule_11 rfl hl (by decide) rfl (fun ls hl => ?_)
  refine lv_aload_n hx hb d_Fam_rule_12 rfl (lv_at hl 1 rfl) ?_
  refine lv_aload_n hx hb d_Fam_rule_13 rfl (lv_at hl 1 rfl) ?_
  refine kf_Fam_terms S E hI.1 vt_149 d_Fam_rule_14 ?_
  refine lv_iconst (v := 3) hx hb d_Fam_rule_17 (by decide) ?_
  refine lv_aload_n hx hb d_Fam_rule_18 rfl (lv_at hl 1 rfl) ?_
  refine lv_iload_n hx hb d_Fam_rule_19 rfl (lv_at hl 2 rfl) ?_
  refine kg_p (As := [.int a1]) (rest := [.int 3, .ref (kad g 2), .ref (kad g 9)]) (k_Fam_memberTerm (l := l) (g := g) (α := α) a1) S E hI.1 kw_Fam_145 ⟨Nat.le_of_ble_eq_true rfl, Nat.le_of_ble_eq_true rfl⟩ hI.room (kv_Fam E hI.1) rfl hl.1 rfl (Nat.le_of_ble_eq_true rfl) d_Fam_rule_20 rfl ?_
  refine lv_iconst (v := 1) hx hb d_Fam_rule_23 (by decide) ?_
  refine lv_aload_n hx hb d_Fam_rule_24 rfl (lv_at hl 1 rfl) ?_
  refine kf_Fam_members S E hI.1 vt_981 d_Fam_rule_25 ?_
  refine lv_iadd hx hb d_Fam_rule_28 ?_
  refine kg_cI (As := [.int 3, .int (f_Fam_memberTerm a1 α), .int (1 + (α.1 28))]) (rest := [.ref (kad g 9)]) h (k_Terms_rewrite (l := l) (g := g) (α := α) hfl N 3 (f_Fam_memberTerm a1 α) (1 + (α.1 28))) S hlocks hno E hI kw_Fam_135 ⟨Nat.le_of_ble_eq_true rfl, Nat.le_of_ble_eq_true rfl⟩ (kv_Terms E hI.1) rfl hl.1 rfl (Nat.le_of_ble_eq_true rfl) d_Fam_rule_29 (fun v3 α1 ad H locs cells slots e2 h hRm hI => ?_)
  refine lv_aload_n hx hb d_Fam_rule_32 rfl (lv_at hl 1 rfl) ?_
  refine kf_Fam_domains S E hI.1 vt_156 d_Fam_rule_33 ?_
  refine kg_cI (As := [.int v3, .ref (kad g (11 + 16))]) (rest := []) h (k_Fam_split (l := l) (g := g) (α := α1) hfl N v3 16 (by decide)) S hlocks hno E hI kw_Fam_229 ⟨Nat.le_of_ble_eq_true rfl, Nat.le_of_ble_eq_true rfl⟩ (kv_Fam E hI.1) rfl hl.1 rfl (Nat.le_of_ble_eq_true rfl) d_Fam_rule_36 (fun v6 α4 ad H locs cells slots e5 h hRm hI => ?_)
  refine lv_pop hx hb d_Fam_rule_39 rfl ?_
  refine lv_aload_n hx hb d_Fam_rule_40 rfl (lv_at hl 1 rfl) ?_
  refine kf_Fam_domains S E hI.1 vt_156 d_Fam_rule_41 ?_
  refine kg_p (As := []) (rest := []) (k_Row_size (l := l) (g := g) (α := α4) (r := 16) (by decide)) S E hI.1 kw_Fam_158 ⟨Nat.le_of_ble_eq_true rfl, Nat.le_of_ble_eq_true rfl⟩ hI.room (kv_Row (r := 16) (by decide) E hI.1) rfl hl.1 rfl (Nat.le_of_ble_eq_true rfl) d_Fam_rule_44 rfl ?_
  refine lv_istore_n (lv' := [(3, .int (fR_size α4 16)), (2, .int (((α.1 26) + 1) + (α.1 28))), (0, .ref (kad g 9)), (1, .int a1)]) hx hb d_Fam_rule_47 rfl hl (by decide) rfl (fun ls hl => ?_)
  refine lv_iload_n hx hb d_Fam_rule_48 rfl (lv_at hl 1 rfl) ?_
  refine lv_iload_n hx hb d_Fam_rule_49 rfl (lv_at hl 0 rfl) ?_
  refine lv_iadd hx hb d_Fam_rule_50 ?_
  refine lv_istore (lv' := [(4, .int ((((α.1 26) + 1) + (α.1 28)) + (fR_size α4 16))), (3, .int (fR_size α4 16)), (2, .int (((α.1 26) + 1) + (α.1 28))), (0, .ref (kad g 9)), (1, .int a1)]) hx hb d_Fam_rule_51 hl (by decide) rfl (fun ls hl => ?_)
  refine lv_aload_n hx hb d_Fam_rule_53 rfl (lv_at hl 3 rfl) ?_
  refine lv_aload_n hx hb d_Fam_rule_54 rfl (lv_at hl 3 rfl) ?_
  refine lv_aload_n hx hb d_Fam_rule_55 rfl (lv_at hl 3 rfl) ?_
  refine kf_Fam_parameters S E hI.1 vt_979 d_Fam_rule_56 ?_
  refine lv_iconst (v := 1) hx hb d_Fam_rule_59 (by decide) ?_
  refine lv_iadd hx hb d_Fam_rule_60 ?_
  refine lv_iload_n hx hb d_Fam_rule_61 rfl (lv_at hl 4 rfl) ?_
  refine lv_iadd hx hb d_Fam_rule_62 ?_
  refine lv_iload hx hb d_Fam_rule_63 (lv_at hl 0 rfl) ?_
  refine kg_cI (As := [.int (((α4.1 26) + 1) + a1), .int ((((α.1 26) + 1) + (α.1 28)) + (fR_size α4 16))]) (rest := [.ref (kad g 9)]) h (k_Fam_variable (l := l) (g := g) (α := α4) hfl N (((α4.1 26) + 1) + a1) ((((α.1 26) + 1) + (α.1 28)) + (fR_size α4 16))) S hlocks hno E hI kw_Fam_247 ⟨Nat.le_of_ble_eq_true rfl, Nat.le_of_ble_eq_true rfl⟩ (kv_Fam E hI.1) rfl hl.1 rfl (Nat.le_of_ble_eq_true rfl) d_Fam_rule_65 (fun v9 α7 ad H locs cells slots e8 h hRm hI => ?_)
  refine lv_iload_n hx hb d_Fam_rule_68 rfl (lv_at hl 2 rfl) ?_
  refine lv_iload_n hx hb d_Fam_rule_69 rfl (lv_at hl 1 rfl) ?_
  refine lv_iload hx hb d_Fam_rule_70 (lv_at hl 0 rfl) ?_
  refine kg_cI (As := [.int v9, .int (((α.1 26) + 1) + (α.1 28)), .int (fR_size α4 16), .int ((((α.1 26) + 1) + (α.1 28)) + (fR_size α4 16))]) (rest := []) h (k_Fam_applied (l := l) (g := g) (α := α7) hfl N v9 (((α.1 26) + 1) + (α.1 28)) (fR_size α4 16) ((((α.1 26) + 1) + (α.1 28)) + (fR_size α4 16))) S hlocks hno E hI kw_Fam_233 ⟨Nat.le_of_ble_eq_true rfl, Nat.le_of_ble_eq_true rfl⟩ (kv_Fam E hI.1) rfl hl.1 rfl (Nat.le_of_ble_eq_true rfl) d_Fam_rule_72 (fun v12 α10 ad H locs cells slots e11 h hRm hI => ?_)
  refine lv_istore (lv' := [(5, .int v12), (4, .int ((((α.1 26) + 1) + (α.1 28)) + (fR_size α4 16))), (3, .int (fR_size α4 16)), (2, .int (((α.1 26) + 1) + (α.1 28))), (0, .ref (kad g 9)), (1, .int a1)]) hx hb d_Fam_rule_75 hl (by decide) rfl (fun ls hl => ?_)
  refine lv_iconst (v := 0) hx hb d_Fam_rule_77 (by decide) ?_
  refine lv_istore (lv' := [(6, .int 0), (5, .int v12), (4, .int ((((α.1 26) + 1) + (α.1 28)) + (fR_size α4 16))), (3, .int (fR_size α4 16)), (2, .int (((α.1 26) + 1) + (α.1 28))), (0, .ref (kad g 9)), (1, .int a1)]) hx hb d_Fam_rule_78 hl (by decide) rfl (fun ls hl => ?_)
  have L80 : ∀ (n80 : Nat) (x6 : Int32) (x5 : Int32) (x4 : Int32) (x3 : Int32) (x2 : Int32) (β : kS) (ad : Nat → Nat) (H : Heap) (locs : List Loc) (cells slots : Nat) (ls : Array Slot), f_Fam_rule_80 N n80 x6 x5 x4 x3 x2 β = some x → kI g A s α ad0 β ad H locs cells slots → lv_has ls 8 [(6, .int x6), (5, .int x5), (4, .int x4), (3, .int x3), (2, .int x2), (0, .ref (kad g 9))] → W p l e (kR 33 974 α) s m ([.ref (kad g 9), .int a1]).toArray below meth c H locs cells slots (vEQ below (kQ g A α ad0 (kQr x)) ([.ref (kad g 9), .int a1]).toArray s A) (F0 m 80 ls []) := by
    intro n80
    induction n80 with
    | zero => intro x6 x5 x4 x3 x2 β ad H locs cells slots ls h hI hl; rw [f_Fam_rule_80] at h; cases h
    | succ n80 ih80 =>
      intro x6 x5 x4 x3 x2 β ad H locs cells slots ls h hI hl
      rw [f_Fam_rule_80] at h
      refine lv_iload hx hb d_Fam_rule_80 (lv_at hl 0 rfl) ?_
      refine lv_iload_n hx hb d_Fam_rule_82 rfl (lv_at hl 3 rfl) ?_
      refine lv_icmp_ge (tgt := 165) hx hb d_Fam_rule_83 (by decide) (fun c13 => ?_) (fun c13 => ?_)
      · replace h := Eq.trans (if_pos c13).symm h
        refine lv_aload_n hx hb d_Fam_rule_165 rfl (lv_at hl 5 rfl) ?_
        refine kf_Fam_terms S E hI.1 vt_149 d_Fam_rule_166 ?_
        refine lv_bipush (v := 7) hx hb d_Fam_rule_169 (by decide) ?_
        refine lv_aload_n hx hb d_Fam_rule_171 rfl (lv_at hl 5 rfl) ?_
        refine kf_Fam_motive S E hI.1 vt_1095 d_Fam_rule_172 ?_
        refine lv_aload_n hx hb d_Fam_rule_175 rfl (lv_at hl 5 rfl) ?_
        refine lv_bipush (v := 7) hx hb d_Fam_rule_176 (by decide) ?_
        refine lv_aload_n hx hb d_Fam_rule_178 rfl (lv_at hl 5 rfl) ?_
        refine kf_Fam_minors S E hI.1 vt_159 d_Fam_rule_179 ?_
        refine lv_aload_n hx hb d_Fam_rule_182 rfl (lv_at hl 5 rfl) ?_
        refine lv_bipush (v := 7) hx hb d_Fam_rule_183 (by decide) ?_
        refine lv_aload_n hx hb d_Fam_rule_185 rfl (lv_at hl 5 rfl) ?_
        refine kf_Fam_domains S E hI.1 vt_156 d_Fam_rule_186 ?_
        refine lv_iload hx hb d_Fam_rule_189 (lv_at hl 1 rfl) ?_
        refine kg_cI (As := [.int 7, .ref (kad g (11 + 16)), .int x5]) (rest := [.ref (kad g (11 + 19)), .int 7, .ref (kad g 9), .int (β.1 30), .int 7, .ref (kad g 2)]) h (k_Fam_bound (l := l) (g := g) (α := β) hfl N 7 16 x5 (by decide)) S hlocks hno E hI kw_Fam_237 ⟨Nat.le_of_ble_eq_true rfl, Nat.le_of_ble_eq_true rfl⟩ (kv_Fam E hI.1) rfl hl.1 rfl (Nat.le_of_ble_eq_true rfl) d_Fam_rule_191 (fun v16 α14 ad H locs cells slots e15 h hRm hI => ?_)
        refine kg_cI (As := [.int 7, .ref (kad g (11 + 19)), .int v16]) (rest := [.int (β.1 30), .int 7, .ref (kad g 2)]) h (k_Fam_bound (l := l) (g := g) (α := α14) hfl N 7 19 v16 (by decide)) S hlocks hno E hI kw_Fam_237 ⟨Nat.le_of_ble_eq_true rfl, Nat.le_of_ble_eq_true rfl⟩ (kv_Fam E hI.1) rfl hl.1 rfl (Nat.le_of_ble_eq_true rfl) d_Fam_rule_194 (fun v19 α17 ad H locs cells slots e18 h hRm hI => ?_)
        refine kg_cI (As := [.int 7, .int (β.1 30), .int v19]) (rest := []) h (k_Terms_make (l := l) (g := g) (α := α17) hfl N 7 (β.1 30) v19) S hlocks hno E hI kw_Fam_180 ⟨Nat.le_of_ble_eq_true rfl, Nat.le_of_ble_eq_true rfl⟩ (kv_Terms E hI.1) rfl hl.1 rfl (Nat.le_of_ble_eq_true rfl) d_Fam_rule_197 (fun v22 α20 ad H locs cells slots e21 h hRm hI => ?_)
        refine lv_istore (lv' := [(5, .int v22), (6, .int x6), (4, .int x4), (3, .int x3), (2, .int x2), (0, .ref (kad g 9))]) hx hb d_Fam_rule_200 hl (by decide) rfl (fun ls hl => ?_)
        refine lv_aload_n hx hb d_Fam_rule_202 rfl (lv_at hl 5 rfl) ?_
        refine kf_Fam_parameters S E hI.1 vt_979 d_Fam_rule_203 ?_
        refine lv_iconst (v := 1) hx hb d_Fam_rule_206 (by decide) ?_
        refine lv_isub hx hb d_Fam_rule_207 ?_
        refine lv_istore (lv' := [(6, .int ((α20.1 26) - 1)), (5, .int v22), (4, .int x4), (3, .int x3), (2, .int x2), (0, .ref (kad g 9))]) hx hb d_Fam_rule_208 hl (by decide) rfl (fun ls hl => ?_)
        have L210 : ∀ (n210 : Nat) (x6_210 : Int32) (x5_210 : Int32) (β210 : kS) (ad : Nat → Nat) (H : Heap) (locs : List Loc) (cells slots : Nat) (ls : Array Slot), f_Fam_rule_210 N n210 x6_210 x5_210 β210 = some x → kI g A s α ad0 β210 ad H locs cells slots → lv_has ls 8 [(6, .int x6_210), (5, .int x5_210), (0, .ref (kad g 9))] → W p l e (kR 33 974 α) s m ([.ref (kad g 9), .int a1]).toArray below meth c H locs cells slots (vEQ below (kQ g A α ad0 (kQr x)) ([.ref (kad g 9), .int a1]).toArray s A) (F0 m 210 ls []) := by
          intro n210
          induction n210 with
          | zero => intro x6_210 x5_210 β210 ad H locs cells slots ls h hI hl; rw [f_Fam_rule_210] at h; cases h
          | succ n210 ih210 =>
            intro x6_210 x5_210 β210 ad H locs cells slots ls h hI hl
            rw [f_Fam_rule_210] at h
            refine lv_iload hx hb d_Fam_rule_210 (lv_at hl 0 rfl) ?_
            refine lv_if_lt (tgt := 243) hx hb d_Fam_rule_212 (by decide) (fun c23 => ?_) (fun c23 => ?_)
            · replace h := Eq.trans (if_pos c23).symm h
              refine lv_iload hx hb d_Fam_rule_243 (lv_at hl 1 rfl) ?_
              exact kc_iret (w := x5_210) hx hb hr rfl hlocks E hI h d_Fam_rule_245
            · replace h := Eq.trans (if_neg c23).symm h
              refine lv_aload_n hx hb d_Fam_rule_215 rfl (lv_at hl 2 rfl) ?_
              refine kf_Fam_terms S E hI.1 vt_149 d_Fam_rule_216 ?_
              refine lv_bipush (v := 7) hx hb d_Fam_rule_219 (by decide) ?_
              refine lv_aload_n hx hb d_Fam_rule_221 rfl (lv_at hl 2 rfl) ?_
              refine kf_Fam_parser S E hI.1 vt_151 d_Fam_rule_222 ?_
              refine lv_iload hx hb d_Fam_rule_225 (lv_at hl 0 rfl) ?_
              refine kg_p (As := [.int x6_210]) (rest := [.int 7, .ref (kad g 2)]) (k_Par_parameterType (l := l) (g := g) (α := β210) x6_210) S E hI.1 kw_Fam_132 ⟨Nat.le_of_ble_eq_true rfl, Nat.le_of_ble_eq_true rfl⟩ hI.room (kv_Par E hI.1) rfl hl.1 rfl (Nat.le_of_ble_eq_true rfl) d_Fam_rule_227 rfl ?_
              refine lv_iload hx hb d_Fam_rule_230 (lv_at hl 1 rfl) ?_
              refine kg_cI (As := [.int 7, .int (f_Par_parameterType x6_210 β210), .int x5_210]) (rest := []) h (k_Terms_make (l := l) (g := g) (α := β210) hfl N 7 (f_Par_parameterType x6_210 β210) x5_210) S hlocks hno E hI kw_Fam_180 ⟨Nat.le_of_ble_eq_true rfl, Nat.le_of_ble_eq_true rfl⟩ (kv_Terms E hI.1) rfl hl.1 rfl (Nat.le_of_ble_eq_true rfl) d_Fam_rule_232 (fun v26 α24 ad H locs cells slots e25 h hRm hI => ?_)
              refine lv_istore (lv' := [(5, .int v26), (6, .int x6_210), (0, .ref (kad g 9))]) hx hb d_Fam_rule_235 hl (by decide) rfl (fun ls hl => ?_)
              refine lv_iinc (v := (x6_210 + (-1))) (lv' := [(6, .int (x6_210 + (-1))), (5, .int v26), (0, .ref (kad g 9))]) hx hb d_Fam_rule_237 hl (k := 1) rfl rfl (by decide) rfl (fun ls hl => ?_)
              refine lv_goto (tgt := 210) hx hb d_Fam_rule_240 (by decide) ?_
              exact ih210 (x6_210 + (-1)) v26 _ _ _ _ _ _ _ h hI (lv_sub hl [0, 1, 2] rfl)
        exact L210 N ((α20.1 26) - 1) v22 _ _ _ _ _ _ _ h hI (lv_sub hl [0, 1, 5] rfl)
      · replace h := Eq.trans (if_neg c13).symm h
        refine lv_aload_n hx hb d_Fam_rule_86 rfl (lv_at hl 5 rfl) ?_
        refine kf_Fam_terms S E hI.1 vt_149 d_Fam_rule_87 ?_
        refine lv_aload_n hx hb d_Fam_rule_90 rfl (lv_at hl 5 rfl) ?_
        refine kf_Fam_domains S E hI.1 vt_156 d_Fam_rule_91 ?_
        refine lv_iload hx hb d_Fam_rule_94 (lv_at hl 0 rfl) ?_
        refine kg_p (As := [.int x6]) (rest := [.ref (kad g 2)]) (k_Row_at (l := l) (g := g) (α := β) (r := 16) (by decide) x6) S E hI.1 kw_Fam_192 ⟨Nat.le_of_ble_eq_true rfl, Nat.le_of_ble_eq_true rfl⟩ hI.room (kv_Row (r := 16) (by decide) E hI.1) rfl hl.1 rfl (Nat.le_of_ble_eq_true rfl) d_Fam_rule_96 rfl ?_
        refine lv_iconst (v := 3) hx hb d_Fam_rule_99 (by decide) ?_
        refine lv_aload_n hx hb d_Fam_rule_100 rfl (lv_at hl 5 rfl) ?_
        refine kf_Fam_family S E hI.1 vt_974 d_Fam_rule_101 ?_
        refine kg_cI (As := [.int (fR_at β 16 x6), .int 3, .int (β.1 25)]) (rest := []) h (k_Terms_has (l := l) (g := g) (α := β) hfl N (fR_at β 16 x6) 3 (β.1 25)) S hlocks hno E hI kw_Fam_171 ⟨Nat.le_of_ble_eq_true rfl, Nat.le_of_ble_eq_true rfl⟩ (kv_Terms E hI.1) rfl hl.1 rfl (Nat.le_of_ble_eq_true rfl) d_Fam_rule_104 (fun v29 α27 ad H locs cells slots e28 h hRm hI => ?_)
        refine lv_if_eq (tgt := 159) hx hb d_Fam_rule_107 (by decide) (fun c30 => ?_) (fun c30 => ?_)
        · replace h := Eq.trans (if_pos c30).symm h
          refine lv_iinc (v := (x6 + 1)) (lv' := [(6, .int (x6 + 1)), (5, .int x5), (4, .int x4), (3, .int x3), (2, .int x2), (0, .ref (kad g 9))]) hx hb d_Fam_rule_159 hl (k := 0) rfl rfl (by decide) rfl (fun ls hl => ?_)
          refine lv_goto (tgt := 80) hx hb d_Fam_rule_162 (by decide) ?_
          exact ih80 (x6 + 1) x5 x4 x3 x2 _ _ _ _ _ _ _ h hI (lv_sub hl [0, 1, 2, 3, 4, 5] rfl)
        · replace h := Eq.trans (if_neg c30).symm h
          refine lv_aload_n hx hb d_Fam_rule_110 rfl (lv_at hl 5 rfl) ?_
          refine kf_Fam_terms S E hI.1 vt_149 d_Fam_rule_111 ?_
          refine lv_iconst (v := 3) hx hb d_Fam_rule_114 (by decide) ?_
          refine lv_aload_n hx hb d_Fam_rule_115 rfl (lv_at hl 5 rfl) ?_
          refine kf_Fam_domains S E hI.1 vt_156 d_Fam_rule_116 ?_
          refine lv_iload hx hb d_Fam_rule_119 (lv_at hl 0 rfl) ?_
          refine kg_p (As := [.int x6]) (rest := [.int 3, .ref (kad g 2)]) (k_Row_at (l := l) (g := g) (α := α27) (r := 16) (by decide) x6) S E hI.1 kw_Fam_192 ⟨Nat.le_of_ble_eq_true rfl, Nat.le_of_ble_eq_true rfl⟩ hI.room (kv_Row (r := 16) (by decide) E hI.1) rfl hl.1 rfl (Nat.le_of_ble_eq_true rfl) d_Fam_rule_121 rfl ?_
          refine lv_iload_n hx hb d_Fam_rule_124 rfl (lv_at hl 3 rfl) ?_
          refine lv_iload hx hb d_Fam_rule_125 (lv_at hl 0 rfl) ?_
          refine lv_isub hx hb d_Fam_rule_127 ?_
          refine kg_cI (As := [.int 3, .int (fR_at α27 16 x6), .int (x3 - x6)]) (rest := []) h (k_Terms_rewrite (l := l) (g := g) (α := α27) hfl N 3 (fR_at α27 16 x6) (x3 - x6)) S hlocks hno E hI kw_Fam_135 ⟨Nat.le_of_ble_eq_true rfl, Nat.le_of_ble_eq_true rfl⟩ (kv_Terms E hI.1) rfl hl.1 rfl (Nat.le_of_ble_eq_true rfl) d_Fam_rule_128 (fun v33 α31 ad H locs cells slots e32 h hRm hI => ?_)
          refine lv_istore (lv' := [(7, .int v33), (6, .int x6), (5, .int x5), (4, .int x4), (3, .int x3), (2, .int x2), (0, .ref (kad g 9))]) hx hb d_Fam_rule_131 hl (by decide) rfl (fun ls hl => ?_)
          refine lv_aload_n hx hb d_Fam_rule_133 rfl (lv_at hl 6 rfl) ?_
          refine kf_Fam_terms S E hI.1 vt_149 d_Fam_rule_134 ?_
          refine lv_iconst (v := 5) hx hb d_Fam_rule_137 (by decide) ?_
          refine lv_iload hx hb d_Fam_rule_138 (lv_at hl 2 rfl) ?_
          refine lv_aload_n hx hb d_Fam_rule_140 rfl (lv_at hl 6 rfl) ?_
          refine lv_bipush (v := 7) hx hb d_Fam_rule_141 (by decide) ?_
          refine lv_iload hx hb d_Fam_rule_143 (lv_at hl 0 rfl) ?_
          refine lv_iload_n hx hb d_Fam_rule_145 rfl (lv_at hl 5 rfl) ?_
          refine lv_iload hx hb d_Fam_rule_146 (lv_at hl 1 rfl) ?_
          refine lv_iadd hx hb d_Fam_rule_148 ?_
          refine lv_iload hx hb d_Fam_rule_149 (lv_at hl 3 rfl) ?_
          refine kg_cI (As := [.int 7, .int v33, .int (x2 + x6), .int x4]) (rest := [.int x5, .int 5, .ref (kad g 2)]) h (k_Fam_hypothesis (l := l) (g := g) (α := α31) hfl N 7 v33 (x2 + x6) x4) S hlocks hno E hI kw_Fam_244 ⟨Nat.le_of_ble_eq_true rfl, Nat.le_of_ble_eq_true rfl⟩ (kv_Fam E hI.1) rfl hl.1 rfl (Nat.le_of_ble_eq_true rfl) d_Fam_rule_151 (fun v36 α34 ad H locs cells slots e35 h hRm hI => ?_)
          refine kg_cI (As := [.int 5, .int x5, .int v36]) (rest := []) h (k_Terms_make (l := l) (g := g) (α := α34) hfl N 5 x5 v36) S hlocks hno E hI kw_Fam_180 ⟨Nat.le_of_ble_eq_true rfl, Nat.le_of_ble_eq_true rfl⟩ (kv_Terms E hI.1) rfl hl.1 rfl (Nat.le_of_ble_eq_true rfl) d_Fam_rule_154 (fun v39 α37 ad H locs cells slots e38 h hRm hI => ?_)
          refine lv_istore (lv' := [(5, .int v39), (7, .int v33), (6, .int x6), (4, .int x4), (3, .int x3), (2, .int x2), (0, .ref (kad g 9))]) hx hb d_Fam_rule_157 hl (by decide) rfl (fun ls hl => ?_)
          refine lv_iinc (v := (x6 + 1)) (lv' := [(6, .int (x6 + 1)), (5, .int v39), (7, .int v33), (4, .int x4), (3, .int x3), (2, .int x2), (0, .ref (kad g 9))]) hx hb d_Fam_rule_159 hl (k := 2) rfl rfl (by decide) rfl (fun ls hl => ?_)
          refine lv_goto (tgt := 80) hx hb d_Fam_rule_162 (by decide) ?_
          exact ih80 (x6 + 1) v39 x4 x3 x2 _ _ _ _ _ _ _ h hI (lv_sub hl [0, 1, 3, 4, 5, 6] rfl)
  exact L80 N 0 v12 ((((α.1 26) + 1) + (α.1 28)) + (fR_size α4 16)) (fR_size α4 16) (((α.1 26) + 1) + (α.1 28)) _ _ _ _ _ _ _ h hI (lv_sub hl [0, 1, 2, 3, 4, 5] rfl)
theorem kw_Fam_197 : kWv "FamilyKernel$Families" 197 "FamilyKernel$Families" y_Fam_payOpenings b_Fam_payOpenings 4 none 0 := ⟨vt_1048, vt_1049, vt_1050, vt_68, vt_1051, by decide, by decide, by decide +kernel⟩
theorem kw_Fam_200 : kWv "FamilyKernel$Families" 200 "FamilyKernel$Parser" y_Par_nodes b_Par_nodes 1 (some .int) 0 := ⟨vt_1052, vt_1053, vt_1054, vt_40, vt_1055, by decide, by decide, by decide +kernel⟩
theorem kw_Fam_203 : kWv "FamilyKernel$Families" 203 "FamilyKernel$Terms" y_Terms_release b_Terms_release 3 none 1 := ⟨vt_1056, vt_222, vt_223, vt_19, vt_224, by decide, by decide, by decide +kernel⟩
theorem kw_Fam_206 : kWv "FamilyKernel$Families" 206 "FamilyKernel$Families" y_Fam_buildMotive b_Fam_buildMotive 4 none 0 := ⟨vt_1057, vt_1058, vt_1059, vt_68, vt_1060, by decide, by decide, by decide +kernel⟩
theorem kw_Fam_212 : kWv "FamilyKernel$Families" 212 "FamilyKernel$Environment" y_Env_sizes b_Env_sizes 1 (some .int) 0 := ⟨vt_1065, vt_1066, vt_1067, vt_26, vt_1068, by decide, by decide, by decide +kernel⟩
theorem kw_Fam_217 : kWv "FamilyKernel$Families" 217 "FamilyKernel$Families" y_Fam_recursorType b_Fam_recursorType 7 (some .int) 0 := ⟨vt_1070, vt_1071, vt_1072, vt_68, vt_1073, by decide, by decide, by decide +kernel⟩
theorem kw_Fam_223 : kWv "FamilyKernel$Families" 223 "FamilyKernel$Environment" y_Env_addSizes b_Env_addSizes 2 none 1 := ⟨vt_1078, vt_1079, vt_1080, vt_26, vt_1081, by decide, by decide, by decide +kernel⟩
theorem kw_Fam_220 : kWv "FamilyKernel$Families" 220 "FamilyKernel$Families" y_Fam_rule b_Fam_rule 8 (some .int) 1 := ⟨vt_1074, vt_1075, vt_1076, vt_68, vt_1077, by decide, by decide, by decide +kernel⟩
theorem kw_Fam_209 : kWv "FamilyKernel$Families" 209 "FamilyKernel$Families" y_Fam_minor b_Fam_minor 8 (some .int) 1 := ⟨vt_1061, vt_1062, vt_1063, vt_68, vt_1064, by decide, by decide, by decide +kernel⟩
def f_Fam_build_j244 (N : Nat)  (y1 : Int32) (γ : kS) : Option (kO × kS) := some (some none, (f_Env_addSizes (y1 - (f_Env_sizes γ)) γ))
def f_Fam_build_j185 (N : Nat)  (k118 : Int32 → Int32 → kS → Option (kO × kS)) (y1 : Int32) (y5 : Int32) (y4 : Int32) (y3 : Int32) (γ : kS) : Option (kO × kS) := k118 (y3 + 1) y1 (f_Env_fix ((((f_Env_fix (((γ.1 25) + 1) + y3) 1 y5 γ).1 25) + 1) + y3) 10 y4 (f_Env_fix (((γ.1 25) + 1) + y3) 1 y5 γ))
def f_Fam_build_118 (N : Nat)  : Nat → Int32 → Int32 → kS → Option (kO × kS)
  | 0, _, _, _ => none
  | n + 1, x3_118, x1_118, β118 => if (β118.1 28) ≤ x3_118 then (if x1_118 ≤ 30000 then (f_Fam_build_j244 N x1_118 β118) else (kBv (f_Meter_fail N 10 β118) fun α13 => (f_Fam_build_j244 N x1_118 α13))) else (kBi (f_Fam_rule N x3_118 β118) fun v17 α15 => (kBi (f_Par_overParameters N (f_Fam_memberTerm x3_118 α15) α15) fun v20 α18 => (if (x1_118 + ((f_Terms_size v17 α18) + (f_Terms_size v20 α18))) ≤ 30000 then (f_Fam_build_j185 N (f_Fam_build_118 N n) (x1_118 + ((f_Terms_size v17 α18) + (f_Terms_size v20 α18))) v20 v17 x3_118 α18) else (kBv (f_Meter_fail N 10 α18) fun α22 => (f_Fam_build_j185 N (f_Fam_build_118 N n) (x1_118 + ((f_Terms_size v17 α18) + (f_Terms_size v20 α18))) v20 v17 x3_118 α22)))))
def f_Fam_build_32 (N : Nat)  : Nat → Int32 → kS → Option (kO × kS)
  | 0, _, _ => none
  | n + 1, x1, β => if (β.1 28) ≤ x1 then (kBi (f_Fam_recursorType N β) fun v10 α8 => (f_Fam_build_118 N N 0 (((f_Env_sizes β) + (f_Terms_size (f_Env_fact (β.1 25) 1 β) β)) + (f_Terms_size v10 α8)) (f_Env_fix (α8.1 25) 10 v10 α8))) else (kBi (f_Fam_minor N x1 β) fun v26 α24 => (kBv (fR_push α24 19 v26) fun α27 => (f_Fam_build_32 N n (x1 + 1) α27)))
def f_Fam_build (N : Nat)  (α : kS) : Option (kO × kS) := kBv (f_Fam_payOpenings N α) fun α1 => (kBv (f_Terms_release N (f_Par_nodes α1) α1) fun α3 => (kBv (f_Fam_buildMotive N α3) fun α5 => (f_Fam_build_32 N N 0 (fR_cut α5 19 0))))
set_option maxHeartbeats 4000000 in
set_option maxRecDepth 100000 in
theorem k_Fam_build {l : Launch} {g : kG} {α : kS} (hfl : kFl l) (N : Nat)   : ∀ x, f_Fam_build N α = some x → kC l g y_Fam_build b_Fam_build 6 none 34 1002 [.ref (kad g 9)] α (kQr x) := by
  intro x h
  unfold f_Fam_build at h
  refine kc_ofW (by decide) (fun A ad0 p e s m args below meth c S hr hlocks hno hadm hargs E hI => ?_)
  have hx := S.1
  have hb := S.2.1
  have hown := S.2.2.2.1
  have hT := S.2.2.2.2
  subst hargs
  have hl := lv_entry ([.ref (kad g 9)]) (n := 6) (Nat.le_of_ble_eq_true rfl)
  rw [lg_entry_eq]
  generalize (lg_sl ([.ref (kad g 9)]) ++ List.replicate (6 - (lg_sl ([.ref (kad g 9)])).length) Slot.unset).toArray = ls at hl ⊢
  have hl : lv_has ls 6 [(0, .ref (kad g 9))] := hl
  refine lv_aload_n hx hb d_Fam_build_0 rfl (lv_at hl 0 rfl) ?_
  refine kg_cV (As := []) (rest := []) h (k_Fam_payOpenings (l := l) (g := g) (α := α) hfl N) S hlocks hno E hI kw_Fam_197 ⟨Nat.le_of_ble_eq_true rfl, Nat.le_of_ble_eq_true rfl⟩ (kv_Fam E hI.1) rfl hl.1 rfl (Nat.le_of_ble_eq_true rfl) d_Fam_build_1 (fun α1 ad H locs cells slots e2 h hRm hI => ?_)
  refine lv_aload_n hx hb d_Fam_build_4 rfl (lv_at hl 0 rfl) ?_
  refine kf_Fam_terms S E hI.1 vt_149 d_Fam_build_5 ?_
  refine lv_aload_n hx hb d_Fam_build_8 rfl (lv_at hl 0 rfl) ?_
  refine kf_Fam_parser S E hI.1 vt_151 d_Fam_build_9 ?_
  refine kg_p (As := []) (rest := [.ref (kad g 2)]) (k_Par_nodes (l := l) (g := g) (α := α1) ) S E hI.1 kw_Fam_200 ⟨Nat.le_of_ble_eq_true rfl, Nat.le_of_ble_eq_true rfl⟩ hI.room (kv_Par E hI.1) rfl hl.1 rfl (Nat.le_of_ble_eq_true rfl) d_Fam_build_12 rfl ?_
  refine kg_cV (As := [.int (f_Par_nodes α1)]) (rest := []) h (k_Terms_release (l := l) (g := g) (α := α1) hfl N (f_Par_nodes α1)) S hlocks hno E hI kw_Fam_203 ⟨Nat.le_of_ble_eq_true rfl, Nat.le_of_ble_eq_true rfl⟩ (kv_Terms E hI.1) rfl hl.1 rfl (Nat.le_of_ble_eq_true rfl) d_Fam_build_15 (fun α3 ad H locs cells slots e4 h hRm hI => ?_)
  refine lv_aload_n hx hb d_Fam_build_18 rfl (lv_at hl 0 rfl) ?_
  refine kg_cV (As := []) (rest := []) h (k_Fam_buildMotive (l := l) (g := g) (α := α3) hfl N) S hlocks hno E hI kw_Fam_206 ⟨Nat.le_of_ble_eq_true rfl, Nat.le_of_ble_eq_true rfl⟩ (kv_Fam E hI.1) rfl hl.1 rfl (Nat.le_of_ble_eq_true rfl) d_Fam_build_19 (fun α5 ad H locs cells slots e6 h hRm hI => ?_)
  refine lv_aload_n hx hb d_Fam_build_22 rfl (lv_at hl 0 rfl) ?_
  refine kf_Fam_minors S E hI.1 vt_159 d_Fam_build_23 ?_
  refine lv_iconst (v := 0) hx hb d_Fam_build_26 (by decide) ?_
  refine kg_tV (As := [.int 0]) (rest := []) (k_Row_cut (l := l) (g := g) (α := α5) (r := 19) (by decide) 0) S hlocks hno E hI kw_Fam_142 ⟨Nat.le_of_ble_eq_true rfl, Nat.le_of_ble_eq_true rfl⟩ (kv_Row (r := 19) (by decide) E hI.1) rfl hl.1 rfl (Nat.le_of_ble_eq_true rfl) d_Fam_build_27 (fun ad H locs cells slots hRm hI => ?_)
  refine lv_iconst (v := 0) hx hb d_Fam_build_30 (by decide) ?_
  refine lv_istore_n (lv' := [(1, .int 0), (0, .ref (kad g 9))]) hx hb d_Fam_build_31 rfl hl (by decide) rfl (fun ls hl => ?_)
  have L32 : ∀ (n32 : Nat) (x1 : Int32) (β : kS) (ad : Nat → Nat) (H : Heap) (locs : List Loc) (cells slots : Nat) (ls : Array Slot), f_Fam_build_32 N n32 x1 β = some x → kI g A s α ad0 β ad H locs cells slots → lv_has ls 6 [(1, .int x1), (0, .ref (kad g 9))] → W p l e (kR 34 1002 α) s m ([.ref (kad g 9)]).toArray below meth c H locs cells slots (vEQ below (kQ g A α ad0 (kQr x)) ([.ref (kad g 9)]).toArray s A) (F0 m 32 ls []) := by
    intro n32
    induction n32 with
    | zero => intro x1 β ad H locs cells slots ls h hI hl; rw [f_Fam_build_32] at h; cases h
    | succ n32 ih32 =>
      intro x1 β ad H locs cells slots ls h hI hl
      rw [f_Fam_build_32] at h
      refine lv_iload_n hx hb d_Fam_build_32 rfl (lv_at hl 0 rfl) ?_
      refine lv_aload_n hx hb d_Fam_build_33 rfl (lv_at hl 1 rfl) ?_
      refine kf_Fam_members S E hI.1 vt_981 d_Fam_build_34 ?_
      refine lv_icmp_ge (tgt := 58) hx hb d_Fam_build_37 (by decide) (fun c7 => ?_) (fun c7 => ?_)
      · replace h := Eq.trans (if_pos c7).symm h
        refine lv_aload_n hx hb d_Fam_build_58 rfl (lv_at hl 1 rfl) ?_
        refine kf_Fam_environment S E hI.1 vt_150 d_Fam_build_59 ?_
        refine kg_p (As := []) (rest := []) (k_Env_sizes (l := l) (g := g) (α := β) ) S E hI.1 kw_Fam_212 ⟨Nat.le_of_ble_eq_true rfl, Nat.le_of_ble_eq_true rfl⟩ hI.room (kv_Env E hI.1) rfl hl.1 rfl (Nat.le_of_ble_eq_true rfl) d_Fam_build_62 rfl ?_
        refine lv_aload_n hx hb d_Fam_build_65 rfl (lv_at hl 1 rfl) ?_
        refine kf_Fam_terms S E hI.1 vt_149 d_Fam_build_66 ?_
        refine lv_aload_n hx hb d_Fam_build_69 rfl (lv_at hl 1 rfl) ?_
        refine kf_Fam_environment S E hI.1 vt_150 d_Fam_build_70 ?_
        refine lv_aload_n hx hb d_Fam_build_73 rfl (lv_at hl 1 rfl) ?_
        refine kf_Fam_family S E hI.1 vt_974 d_Fam_build_74 ?_
        refine lv_iconst (v := 1) hx hb d_Fam_build_77 (by decide) ?_
        refine kg_p (As := [.int (β.1 25), .int 1]) (rest := [.ref (kad g 2), .int (f_Env_sizes β)]) (k_Env_fact (l := l) (g := g) (α := β) (β.1 25) 1) S E hI.1 kw_Fam_110 ⟨Nat.le_of_ble_eq_true rfl, Nat.le_of_ble_eq_true rfl⟩ hI.room (kv_Env E hI.1) rfl hl.1 rfl (Nat.le_of_ble_eq_true rfl) d_Fam_build_78 rfl ?_
        refine kg_p (As := [.int (f_Env_fact (β.1 25) 1 β)]) (rest := [.int (f_Env_sizes β)]) (k_Terms_size (l := l) (g := g) (α := β) (f_Env_fact (β.1 25) 1 β)) S E hI.1 kw_Fam_215 ⟨Nat.le_of_ble_eq_true rfl, Nat.le_of_ble_eq_true rfl⟩ hI.room (kv_Terms E hI.1) rfl hl.1 rfl (Nat.le_of_ble_eq_true rfl) d_Fam_build_81 rfl ?_
        refine lv_iadd hx hb d_Fam_build_84 ?_
        refine lv_istore_n (lv' := [(1, .int ((f_Env_sizes β) + (f_Terms_size (f_Env_fact (β.1 25) 1 β) β))), (0, .ref (kad g 9))]) hx hb d_Fam_build_85 rfl hl (by decide) rfl (fun ls hl => ?_)
        refine lv_aload_n hx hb d_Fam_build_86 rfl (lv_at hl 1 rfl) ?_
        refine kg_cI (As := []) (rest := []) h (k_Fam_recursorType (l := l) (g := g) (α := β) hfl N) S hlocks hno E hI kw_Fam_217 ⟨Nat.le_of_ble_eq_true rfl, Nat.le_of_ble_eq_true rfl⟩ (kv_Fam E hI.1) rfl hl.1 rfl (Nat.le_of_ble_eq_true rfl) d_Fam_build_87 (fun v10 α8 ad H locs cells slots e9 h hRm hI => ?_)
        refine lv_istore_n (lv' := [(2, .int v10), (1, .int ((f_Env_sizes β) + (f_Terms_size (f_Env_fact (β.1 25) 1 β) β))), (0, .ref (kad g 9))]) hx hb d_Fam_build_90 rfl hl (by decide) rfl (fun ls hl => ?_)
        refine lv_iload_n hx hb d_Fam_build_91 rfl (lv_at hl 1 rfl) ?_
        refine lv_aload_n hx hb d_Fam_build_92 rfl (lv_at hl 2 rfl) ?_
        refine kf_Fam_terms S E hI.1 vt_149 d_Fam_build_93 ?_
        refine lv_iload_n hx hb d_Fam_build_96 rfl (lv_at hl 0 rfl) ?_
        refine kg_p (As := [.int v10]) (rest := [.int ((f_Env_sizes β) + (f_Terms_size (f_Env_fact (β.1 25) 1 β) β))]) (k_Terms_size (l := l) (g := g) (α := α8) v10) S E hI.1 kw_Fam_215 ⟨Nat.le_of_ble_eq_true rfl, Nat.le_of_ble_eq_true rfl⟩ hI.room (kv_Terms E hI.1) rfl hl.1 rfl (Nat.le_of_ble_eq_true rfl) d_Fam_build_97 rfl ?_
        refine lv_iadd hx hb d_Fam_build_100 ?_
        refine lv_istore_n (lv' := [(1, .int (((f_Env_sizes β) + (f_Terms_size (f_Env_fact (β.1 25) 1 β) β)) + (f_Terms_size v10 α8))), (2, .int v10), (0, .ref (kad g 9))]) hx hb d_Fam_build_101 rfl hl (by decide) rfl (fun ls hl => ?_)
        refine lv_aload_n hx hb d_Fam_build_102 rfl (lv_at hl 2 rfl) ?_
        refine kf_Fam_environment S E hI.1 vt_150 d_Fam_build_103 ?_
        refine lv_aload_n hx hb d_Fam_build_106 rfl (lv_at hl 2 rfl) ?_
        refine kf_Fam_family S E hI.1 vt_974 d_Fam_build_107 ?_
        refine lv_bipush (v := 10) hx hb d_Fam_build_110 (by decide) ?_
        refine lv_iload_n hx hb d_Fam_build_112 rfl (lv_at hl 1 rfl) ?_
        refine kg_tV (As := [.int (α8.1 25), .int 10, .int v10]) (rest := []) (k_Env_fix (l := l) (g := g) (α := α8) (α8.1 25) 10 v10) S hlocks hno E hI kw_Fam_106 ⟨Nat.le_of_ble_eq_true rfl, Nat.le_of_ble_eq_true rfl⟩ (kv_Env E hI.1) rfl hl.1 rfl (Nat.le_of_ble_eq_true rfl) d_Fam_build_113 (fun ad H locs cells slots hRm hI => ?_)
        refine lv_iconst (v := 0) hx hb d_Fam_build_116 (by decide) ?_
        refine lv_istore_n (lv' := [(3, .int 0), (1, .int (((f_Env_sizes β) + (f_Terms_size (f_Env_fact (β.1 25) 1 β) β)) + (f_Terms_size v10 α8))), (2, .int v10), (0, .ref (kad g 9))]) hx hb d_Fam_build_117 rfl hl (by decide) rfl (fun ls hl => ?_)
        have L118 : ∀ (n118 : Nat) (x3_118 : Int32) (x1_118 : Int32) (β118 : kS) (ad : Nat → Nat) (H : Heap) (locs : List Loc) (cells slots : Nat) (ls : Array Slot), f_Fam_build_118 N n118 x3_118 x1_118 β118 = some x → kI g A s α ad0 β118 ad H locs cells slots → lv_has ls 6 [(3, .int x3_118), (1, .int x1_118), (0, .ref (kad g 9))] → W p l e (kR 34 1002 α) s m ([.ref (kad g 9)]).toArray below meth c H locs cells slots (vEQ below (kQ g A α ad0 (kQr x)) ([.ref (kad g 9)]).toArray s A) (F0 m 118 ls []) := by
          intro n118
          induction n118 with
          | zero => intro x3_118 x1_118 β118 ad H locs cells slots ls h hI hl; rw [f_Fam_build_118] at h; cases h
          | succ n118 ih118 =>
            intro x3_118 x1_118 β118 ad H locs cells slots ls h hI hl
            rw [f_Fam_build_118] at h
            have J244 : ∀ (y1 : Int32) (γ : kS) (ad : Nat → Nat) (H : Heap) (locs : List Loc) (cells slots : Nat) (ls : Array Slot), f_Fam_build_j244 N y1 γ = some x → kI g A s α ad0 γ ad H locs cells slots → lv_has ls 6 [(1, .int y1), (0, .ref (kad g 9))] → W p l e (kR 34 1002 α) s m ([.ref (kad g 9)]).toArray below meth c H locs cells slots (vEQ below (kQ g A α ad0 (kQr x)) ([.ref (kad g 9)]).toArray s A) (F0 m 244 ls []) := by
              intro y1 γ ad H locs cells slots ls h hI hl
              unfold f_Fam_build_j244 at h
              refine lv_aload_n hx hb d_Fam_build_244 rfl (lv_at hl 1 rfl) ?_
              refine kf_Fam_environment S E hI.1 vt_150 d_Fam_build_245 ?_
              refine lv_iload_n hx hb d_Fam_build_248 rfl (lv_at hl 0 rfl) ?_
              refine lv_aload_n hx hb d_Fam_build_249 rfl (lv_at hl 1 rfl) ?_
              refine kf_Fam_environment S E hI.1 vt_150 d_Fam_build_250 ?_
              refine kg_p (As := []) (rest := [.int y1, .ref (kad g 3)]) (k_Env_sizes (l := l) (g := g) (α := γ) ) S E hI.1 kw_Fam_212 ⟨Nat.le_of_ble_eq_true rfl, Nat.le_of_ble_eq_true rfl⟩ hI.room (kv_Env E hI.1) rfl hl.1 rfl (Nat.le_of_ble_eq_true rfl) d_Fam_build_253 rfl ?_
              refine lv_isub hx hb d_Fam_build_256 ?_
              refine kg_tV (As := [.int (y1 - (f_Env_sizes γ))]) (rest := []) (k_Env_addSizes (l := l) (g := g) (α := γ) (y1 - (f_Env_sizes γ))) S hlocks hno E hI kw_Fam_223 ⟨Nat.le_of_ble_eq_true rfl, Nat.le_of_ble_eq_true rfl⟩ (kv_Env E hI.1) rfl hl.1 rfl (Nat.le_of_ble_eq_true rfl) d_Fam_build_257 (fun ad H locs cells slots hRm hI => ?_)
              exact kc_vret hx hb hr hlocks E hI h d_Fam_build_260
            have J185 : ∀ (y1 : Int32) (y5 : Int32) (y4 : Int32) (y3 : Int32) (γ : kS) (ad : Nat → Nat) (H : Heap) (locs : List Loc) (cells slots : Nat) (ls : Array Slot), f_Fam_build_j185 N (f_Fam_build_118 N n118) y1 y5 y4 y3 γ = some x → kI g A s α ad0 γ ad H locs cells slots → lv_has ls 6 [(1, .int y1), (5, .int y5), (4, .int y4), (3, .int y3), (0, .ref (kad g 9))] → W p l e (kR 34 1002 α) s m ([.ref (kad g 9)]).toArray below meth c H locs cells slots (vEQ below (kQ g A α ad0 (kQr x)) ([.ref (kad g 9)]).toArray s A) (F0 m 185 ls []) := by
              intro y1 y5 y4 y3 γ ad H locs cells slots ls h hI hl
              unfold f_Fam_build_j185 at h
              refine lv_aload_n hx hb d_Fam_build_185 rfl (lv_at hl 4 rfl) ?_
              refine kf_Fam_environment S E hI.1 vt_150 d_Fam_build_186 ?_
              refine lv_aload_n hx hb d_Fam_build_189 rfl (lv_at hl 4 rfl) ?_
              refine kf_Fam_family S E hI.1 vt_974 d_Fam_build_190 ?_
              refine lv_iconst (v := 1) hx hb d_Fam_build_193 (by decide) ?_
              refine lv_iadd hx hb d_Fam_build_194 ?_
              refine lv_iload_n hx hb d_Fam_build_195 rfl (lv_at hl 3 rfl) ?_
              refine lv_iadd hx hb d_Fam_build_196 ?_
              refine lv_iconst (v := 1) hx hb d_Fam_build_197 (by decide) ?_
              refine lv_iload hx hb d_Fam_build_198 (lv_at hl 1 rfl) ?_
              refine kg_tV (As := [.int (((γ.1 25) + 1) + y3), .int 1, .int y5]) (rest := []) (k_Env_fix (l := l) (g := g) (α := γ) (((γ.1 25) + 1) + y3) 1 y5) S hlocks hno E hI kw_Fam_106 ⟨Nat.le_of_ble_eq_true rfl, Nat.le_of_ble_eq_true rfl⟩ (kv_Env E hI.1) rfl hl.1 rfl (Nat.le_of_ble_eq_true rfl) d_Fam_build_200 (fun ad H locs cells slots hRm hI => ?_)
              refine lv_aload_n hx hb d_Fam_build_203 rfl (lv_at hl 4 rfl) ?_
              refine kf_Fam_environment S E hI.1 vt_150 d_Fam_build_204 ?_
              refine lv_aload_n hx hb d_Fam_build_207 rfl (lv_at hl 4 rfl) ?_
              refine kf_Fam_family S E hI.1 vt_974 d_Fam_build_208 ?_
              refine lv_iconst (v := 1) hx hb d_Fam_build_211 (by decide) ?_
              refine lv_iadd hx hb d_Fam_build_212 ?_
              refine lv_iload_n hx hb d_Fam_build_213 rfl (lv_at hl 3 rfl) ?_
              refine lv_iadd hx hb d_Fam_build_214 ?_
              refine lv_bipush (v := 10) hx hb d_Fam_build_215 (by decide) ?_
              refine lv_iload hx hb d_Fam_build_217 (lv_at hl 2 rfl) ?_
              refine kg_tV (As := [.int ((((f_Env_fix (((γ.1 25) + 1) + y3) 1 y5 γ).1 25) + 1) + y3), .int 10, .int y4]) (rest := []) (k_Env_fix (l := l) (g := g) (α := (f_Env_fix (((γ.1 25) + 1) + y3) 1 y5 γ)) ((((f_Env_fix (((γ.1 25) + 1) + y3) 1 y5 γ).1 25) + 1) + y3) 10 y4) S hlocks hno E hI kw_Fam_106 ⟨Nat.le_of_ble_eq_true rfl, Nat.le_of_ble_eq_true rfl⟩ (kv_Env E hI.1) rfl hl.1 rfl (Nat.le_of_ble_eq_true rfl) d_Fam_build_219 (fun ad H locs cells slots hRm hI => ?_)
              refine lv_iinc (v := (y3 + 1)) (lv' := [(3, .int (y3 + 1)), (1, .int y1), (5, .int y5), (4, .int y4), (0, .ref (kad g 9))]) hx hb d_Fam_build_222 hl (k := 3) rfl rfl (by decide) rfl (fun ls hl => ?_)
              refine lv_goto (tgt := 118) hx hb d_Fam_build_225 (by decide) ?_
              exact ih118 (y3 + 1) y1 _ _ _ _ _ _ _ h hI (lv_sub hl [0, 1, 4] rfl)
            refine lv_iload_n hx hb d_Fam_build_118 rfl (lv_at hl 0 rfl) ?_
            refine lv_aload_n hx hb d_Fam_build_119 rfl (lv_at hl 2 rfl) ?_
            refine kf_Fam_members S E hI.1 vt_981 d_Fam_build_120 ?_
            refine lv_icmp_ge (tgt := 228) hx hb d_Fam_build_123 (by decide) (fun c11 => ?_) (fun c11 => ?_)
            · replace h := Eq.trans (if_pos c11).symm h
              refine lv_iload_n hx hb d_Fam_build_228 rfl (lv_at hl 1 rfl) ?_
              refine lv_sipush (v := 30000) hx hb d_Fam_build_229 (by decide) ?_
              refine lv_icmp_le (tgt := 244) hx hb d_Fam_build_232 (by decide) (fun c12 => ?_) (fun c12 => ?_)
              · replace h := Eq.trans (if_pos c12).symm h
                exact J244 x1_118 _ _ _ _ _ _ _ h hI (lv_sub hl [1, 2] rfl)
              · replace h := Eq.trans (if_neg c12).symm h
                refine lv_aload_n hx hb d_Fam_build_235 rfl (lv_at hl 2 rfl) ?_
                refine kf_Fam_meter S E hI.1 vt_148 d_Fam_build_236 ?_
                refine lv_bipush (v := 10) hx hb d_Fam_build_239 (by decide) ?_
                refine kg_cV (As := [.int 10]) (rest := []) h (k_Meter_fail (l := l) (g := g) (α := β118) hfl N 10) S hlocks hno E hI kw_Fam_94 ⟨Nat.le_of_ble_eq_true rfl, Nat.le_of_ble_eq_true rfl⟩ (kv_Meter E hI.1) rfl hl.1 rfl (Nat.le_of_ble_eq_true rfl) d_Fam_build_241 (fun α13 ad H locs cells slots e14 h hRm hI => ?_)
                exact J244 x1_118 _ _ _ _ _ _ _ h hI (lv_sub hl [1, 2] rfl)
            · replace h := Eq.trans (if_neg c11).symm h
              refine lv_aload_n hx hb d_Fam_build_126 rfl (lv_at hl 2 rfl) ?_
              refine lv_iload_n hx hb d_Fam_build_127 rfl (lv_at hl 0 rfl) ?_
              refine kg_cI (As := [.int x3_118]) (rest := []) h (k_Fam_rule (l := l) (g := g) (α := β118) hfl N x3_118) S hlocks hno E hI kw_Fam_220 ⟨Nat.le_of_ble_eq_true rfl, Nat.le_of_ble_eq_true rfl⟩ (kv_Fam E hI.1) rfl hl.1 rfl (Nat.le_of_ble_eq_true rfl) d_Fam_build_128 (fun v17 α15 ad H locs cells slots e16 h hRm hI => ?_)
              refine lv_istore (lv' := [(4, .int v17), (3, .int x3_118), (1, .int x1_118), (0, .ref (kad g 9))]) hx hb d_Fam_build_131 hl (by decide) rfl (fun ls hl => ?_)
              refine lv_aload_n hx hb d_Fam_build_133 rfl (lv_at hl 3 rfl) ?_
              refine kf_Fam_parser S E hI.1 vt_151 d_Fam_build_134 ?_
              refine lv_aload_n hx hb d_Fam_build_137 rfl (lv_at hl 3 rfl) ?_
              refine lv_iload_n hx hb d_Fam_build_138 rfl (lv_at hl 1 rfl) ?_
              refine kg_p (As := [.int x3_118]) (rest := [.ref (kad g 5)]) (k_Fam_memberTerm (l := l) (g := g) (α := α15) x3_118) S E hI.1 kw_Fam_145 ⟨Nat.le_of_ble_eq_true rfl, Nat.le_of_ble_eq_true rfl⟩ hI.room (kv_Fam E hI.1) rfl hl.1 rfl (Nat.le_of_ble_eq_true rfl) d_Fam_build_139 rfl ?_
              refine kg_cI (As := [.int (f_Fam_memberTerm x3_118 α15)]) (rest := []) h (k_Par_overParameters (l := l) (g := g) (α := α15) hfl N (f_Fam_memberTerm x3_118 α15)) S hlocks hno E hI kw_Fam_165 ⟨Nat.le_of_ble_eq_true rfl, Nat.le_of_ble_eq_true rfl⟩ (kv_Par E hI.1) rfl hl.1 rfl (Nat.le_of_ble_eq_true rfl) d_Fam_build_142 (fun v20 α18 ad H locs cells slots e19 h hRm hI => ?_)
              refine lv_istore (lv' := [(5, .int v20), (4, .int v17), (3, .int x3_118), (1, .int x1_118), (0, .ref (kad g 9))]) hx hb d_Fam_build_145 hl (by decide) rfl (fun ls hl => ?_)
              refine lv_iload_n hx hb d_Fam_build_147 rfl (lv_at hl 3 rfl) ?_
              refine lv_aload_n hx hb d_Fam_build_148 rfl (lv_at hl 4 rfl) ?_
              refine kf_Fam_terms S E hI.1 vt_149 d_Fam_build_149 ?_
              refine lv_iload hx hb d_Fam_build_152 (lv_at hl 1 rfl) ?_
              refine kg_p (As := [.int v17]) (rest := [.int x1_118]) (k_Terms_size (l := l) (g := g) (α := α18) v17) S E hI.1 kw_Fam_215 ⟨Nat.le_of_ble_eq_true rfl, Nat.le_of_ble_eq_true rfl⟩ hI.room (kv_Terms E hI.1) rfl hl.1 rfl (Nat.le_of_ble_eq_true rfl) d_Fam_build_154 rfl ?_
              refine lv_aload_n hx hb d_Fam_build_157 rfl (lv_at hl 4 rfl) ?_
              refine kf_Fam_terms S E hI.1 vt_149 d_Fam_build_158 ?_
              refine lv_iload hx hb d_Fam_build_161 (lv_at hl 0 rfl) ?_
              refine kg_p (As := [.int v20]) (rest := [.int (f_Terms_size v17 α18), .int x1_118]) (k_Terms_size (l := l) (g := g) (α := α18) v20) S E hI.1 kw_Fam_215 ⟨Nat.le_of_ble_eq_true rfl, Nat.le_of_ble_eq_true rfl⟩ hI.room (kv_Terms E hI.1) rfl hl.1 rfl (Nat.le_of_ble_eq_true rfl) d_Fam_build_163 rfl ?_
              refine lv_iadd hx hb d_Fam_build_166 ?_
              refine lv_iadd hx hb d_Fam_build_167 ?_
              refine lv_istore_n (lv' := [(1, .int (x1_118 + ((f_Terms_size v17 α18) + (f_Terms_size v20 α18)))), (5, .int v20), (4, .int v17), (3, .int x3_118), (0, .ref (kad g 9))]) hx hb d_Fam_build_168 rfl hl (by decide) rfl (fun ls hl => ?_)
              refine lv_iload_n hx hb d_Fam_build_169 rfl (lv_at hl 0 rfl) ?_
              refine lv_sipush (v := 30000) hx hb d_Fam_build_170 (by decide) ?_
              refine lv_icmp_le (tgt := 185) hx hb d_Fam_build_173 (by decide) (fun c21 => ?_) (fun c21 => ?_)
              · replace h := Eq.trans (if_pos c21).symm h
                exact J185 (x1_118 + ((f_Terms_size v17 α18) + (f_Terms_size v20 α18))) v20 v17 x3_118 _ _ _ _ _ _ _ h hI (lv_sub hl [0, 1, 2, 3, 4] rfl)
              · replace h := Eq.trans (if_neg c21).symm h
                refine lv_aload_n hx hb d_Fam_build_176 rfl (lv_at hl 4 rfl) ?_
                refine kf_Fam_meter S E hI.1 vt_148 d_Fam_build_177 ?_
                refine lv_bipush (v := 10) hx hb d_Fam_build_180 (by decide) ?_
                refine kg_cV (As := [.int 10]) (rest := []) h (k_Meter_fail (l := l) (g := g) (α := α18) hfl N 10) S hlocks hno E hI kw_Fam_94 ⟨Nat.le_of_ble_eq_true rfl, Nat.le_of_ble_eq_true rfl⟩ (kv_Meter E hI.1) rfl hl.1 rfl (Nat.le_of_ble_eq_true rfl) d_Fam_build_182 (fun α22 ad H locs cells slots e23 h hRm hI => ?_)
                exact J185 (x1_118 + ((f_Terms_size v17 α18) + (f_Terms_size v20 α18))) v20 v17 x3_118 _ _ _ _ _ _ _ h hI (lv_sub hl [0, 1, 2, 3, 4] rfl)
        exact L118 N 0 (((f_Env_sizes β) + (f_Terms_size (f_Env_fact (β.1 25) 1 β) β)) + (f_Terms_size v10 α8)) _ _ _ _ _ _ _ h hI (lv_sub hl [0, 1, 3] rfl)
      · replace h := Eq.trans (if_neg c7).symm h
        refine lv_aload_n hx hb d_Fam_build_40 rfl (lv_at hl 1 rfl) ?_
        refine kf_Fam_minors S E hI.1 vt_159 d_Fam_build_41 ?_
        refine lv_aload_n hx hb d_Fam_build_44 rfl (lv_at hl 1 rfl) ?_
        refine lv_iload_n hx hb d_Fam_build_45 rfl (lv_at hl 0 rfl) ?_
        refine kg_cI (As := [.int x1]) (rest := [.ref (kad g (11 + 19))]) h (k_Fam_minor (l := l) (g := g) (α := β) hfl N x1) S hlocks hno E hI kw_Fam_209 ⟨Nat.le_of_ble_eq_true rfl, Nat.le_of_ble_eq_true rfl⟩ (kv_Fam E hI.1) rfl hl.1 rfl (Nat.le_of_ble_eq_true rfl) d_Fam_build_46 (fun v26 α24 ad H locs cells slots e25 h hRm hI => ?_)
        refine kg_cV (As := [.int v26]) (rest := []) h (k_Row_push (l := l) (g := g) (α := α24) (r := 19) (by decide) v26) S hlocks hno E hI kw_Fam_178 ⟨Nat.le_of_ble_eq_true rfl, Nat.le_of_ble_eq_true rfl⟩ (kv_Row (r := 19) (by decide) E hI.1) rfl hl.1 rfl (Nat.le_of_ble_eq_true rfl) d_Fam_build_49 (fun α27 ad H locs cells slots e28 h hRm hI => ?_)
        refine lv_iinc (v := (x1 + 1)) (lv' := [(1, .int (x1 + 1)), (0, .ref (kad g 9))]) hx hb d_Fam_build_52 hl (k := 0) rfl rfl (by decide) rfl (fun ls hl => ?_)
        refine lv_goto (tgt := 32) hx hb d_Fam_build_55 (by decide) ?_
        exact ih32 (x1 + 1) _ _ _ _ _ _ _ h hI (lv_sub hl [0, 1] rfl)
  exact L32 N 0 _ _ _ _ _ _ _ h hI (lv_sub hl [0, 1] rfl)
