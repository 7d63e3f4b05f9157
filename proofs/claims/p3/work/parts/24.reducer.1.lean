theorem kw_Red_58 : kWv "FamilyKernel$Reducer" 58 "FamilyKernel$Terms" y_Terms_right b_Terms_right 2 (some .int) 1 := ⟨vt_839, vt_626, vt_627, vt_19, vt_628, by decide, by decide, by decide +kernel⟩
theorem kw_Red_107 : kWv "FamilyKernel$Reducer" 107 "FamilyKernel$Row" y_Row_push b_Row_push 2 none 1 := ⟨vt_868, vt_252, vt_253, vt_4, vt_254, by decide, by decide, by decide +kernel⟩
theorem kw_Red_68 : kWv "FamilyKernel$Reducer" 68 "FamilyKernel$Terms" y_Terms_left b_Terms_left 2 (some .int) 1 := ⟨vt_845, vt_633, vt_634, vt_19, vt_635, by decide, by decide, by decide +kernel⟩
def f_Red_giveLast_5 (N : Nat)  : Nat → Int32 → Int32 → Int32 → kS → Option (kO × kS)
  | 0, _, _, _, _ => none
  | n + 1, x4, x3, x2, β => if x2 ≤ x4 then (some (some (some x3), β)) else (kBv (fR_push β 14 (f_Terms_right x3 β)) fun α2 => (f_Red_giveLast_5 N n (x4 + 1) (f_Terms_left x3 α2) x2 α2))
def f_Red_giveLast (N : Nat) (a1 : Int32) (a2 : Int32) (α : kS) : Option (kO × kS) := f_Red_giveLast_5 N N 0 a1 a2 α
set_option maxHeartbeats 4000000 in
set_option maxRecDepth 100000 in
theorem k_Red_giveLast {l : Launch} {g : kG} {α : kS} (hfl : kFl l) (N : Nat) (a1 : Int32) (a2 : Int32)  : ∀ x, f_Red_giveLast N a1 a2 α = some x → kC l g y_Red_giveLast b_Red_giveLast 5 (some .int) 31 921 [.ref (kad g 7), .int a1, .int a2] α (kQr x) := by
  intro x h
  unfold f_Red_giveLast at h
  refine kc_ofW (by decide) (fun A ad0 p e s m args below meth c S hr hlocks hno hadm hargs E hI => ?_)
  have hx := S.1
  have hb := S.2.1
  have hown := S.2.2.2.1
  have hT := S.2.2.2.2
  subst hargs
  have hl := lv_entry ([.ref (kad g 7), .int a1, .int a2]) (n := 5) (Nat.le_of_ble_eq_true rfl)
  rw [lg_entry_eq]
  generalize (lg_sl ([.ref (kad g 7), .int a1, .int a2]) ++ List.replicate (5 - (lg_sl ([.ref (kad g 7), .int a1, .int a2])).length) Slot.unset).toArray = ls at hl ⊢
  have hl : lv_has ls 5 [(0, .ref (kad g 7)), (1, .int a1), (2, .int a2)] := hl
  refine lv_iload_n hx hb d_Red_giveLast_0 rfl (lv_at hl 1 rfl) ?_
  refine lv_istore_n (lv' := [(3, .int a1), (0, .ref (kad g 7)), (1, .int a1), (2, .int a2)]) hx hb d_Red_giveLast_1 rfl hl (by decide) rfl (fun ls hl => ?_)
  refine lv_iconst (v := 0) hx hb d_Red_giveLast_2 (by decide) ?_
  refine lv_istore (lv' := [(4, .int 0), (3, .int a1), (0, .ref (kad g 7)), (1, .int a1), (2, .int a2)]) hx hb d_Red_giveLast_3 hl (by decide) rfl (fun ls hl => ?_)
  have L5 : ∀ (n5 : Nat) (x4 : Int32) (x3 : Int32) (x2 : Int32) (β : kS) (ad : Nat → Nat) (H : Heap) (locs : List Loc) (cells slots : Nat) (ls : Array Slot), f_Red_giveLast_5 N n5 x4 x3 x2 β = some x → kI g A s α ad0 β ad H locs cells slots → lv_has ls 5 [(4, .int x4), (3, .int x3), (0, .ref (kad g 7)), (2, .int x2)] → W p l e (kR 31 921 α) s m ([.ref (kad g 7), .int a1, .int a2]).toArray below meth c H locs cells slots (vEQ below (kQ g A α ad0 (kQr x)) ([.ref (kad g 7), .int a1, .int a2]).toArray s A) (F0 m 5 ls []) := by
    intro n5
    induction n5 with
    | zero => intro x4 x3 x2 β ad H locs cells slots ls h hI hl; rw [f_Red_giveLast_5] at h; cases h
    | succ n5 ih5 =>
      intro x4 x3 x2 β ad H locs cells slots ls h hI hl
      rw [f_Red_giveLast_5] at h
      refine lv_iload hx hb d_Red_giveLast_5 (lv_at hl 0 rfl) ?_
      refine lv_iload_n hx hb d_Red_giveLast_7 rfl (lv_at hl 3 rfl) ?_
      refine lv_icmp_ge (tgt := 41) hx hb d_Red_giveLast_8 (by decide) (fun c1 => ?_) (fun c1 => ?_)
      · replace h := Eq.trans (if_pos c1).symm h
        refine lv_iload_n hx hb d_Red_giveLast_41 rfl (lv_at hl 1 rfl) ?_
        exact kc_iret (w := x3) hx hb hr rfl hlocks E hI h d_Red_giveLast_42
      · replace h := Eq.trans (if_neg c1).symm h
        refine lv_aload_n hx hb d_Red_giveLast_11 rfl (lv_at hl 2 rfl) ?_
        refine kf_Red_given S E hI.1 vt_140 d_Red_giveLast_12 ?_
        refine lv_aload_n hx hb d_Red_giveLast_15 rfl (lv_at hl 2 rfl) ?_
        refine kf_Red_terms S E hI.1 vt_135 d_Red_giveLast_16 ?_
        refine lv_iload_n hx hb d_Red_giveLast_19 rfl (lv_at hl 1 rfl) ?_
        refine kg_p (As := [.int x3]) (rest := [.ref (kad g (11 + 14))]) (k_Terms_right (l := l) (g := g) (α := β) x3) S E hI.1 kw_Red_58 ⟨Nat.le_of_ble_eq_true rfl, Nat.le_of_ble_eq_true rfl⟩ hI.room (kv_Terms E hI.1) rfl hl.1 rfl (Nat.le_of_ble_eq_true rfl) d_Red_giveLast_20 rfl ?_
        refine kg_cV (As := [.int (f_Terms_right x3 β)]) (rest := []) h (k_Row_push (l := l) (g := g) (α := β) (r := 14) (by decide) (f_Terms_right x3 β)) S hlocks hno E hI kw_Red_107 ⟨Nat.le_of_ble_eq_true rfl, Nat.le_of_ble_eq_true rfl⟩ (kv_Row (r := 14) (by decide) E hI.1) rfl hl.1 rfl (Nat.le_of_ble_eq_true rfl) d_Red_giveLast_23 (fun α2 ad H locs cells slots e3 h hRm hI => ?_)
        refine lv_aload_n hx hb d_Red_giveLast_26 rfl (lv_at hl 2 rfl) ?_
        refine kf_Red_terms S E hI.1 vt_135 d_Red_giveLast_27 ?_
        refine lv_iload_n hx hb d_Red_giveLast_30 rfl (lv_at hl 1 rfl) ?_
        refine kg_p (As := [.int x3]) (rest := []) (k_Terms_left (l := l) (g := g) (α := α2) x3) S E hI.1 kw_Red_68 ⟨Nat.le_of_ble_eq_true rfl, Nat.le_of_ble_eq_true rfl⟩ hI.room (kv_Terms E hI.1) rfl hl.1 rfl (Nat.le_of_ble_eq_true rfl) d_Red_giveLast_31 rfl ?_
        refine lv_istore_n (lv' := [(3, .int (f_Terms_left x3 α2)), (4, .int x4), (0, .ref (kad g 7)), (2, .int x2)]) hx hb d_Red_giveLast_34 rfl hl (by decide) rfl (fun ls hl => ?_)
        refine lv_iinc (v := (x4 + 1)) (lv' := [(4, .int (x4 + 1)), (3, .int (f_Terms_left x3 α2)), (0, .ref (kad g 7)), (2, .int x2)]) hx hb d_Red_giveLast_35 hl (k := 1) rfl rfl (by decide) rfl (fun ls hl => ?_)
        refine lv_goto (tgt := 5) hx hb d_Red_giveLast_38 (by decide) ?_
        exact ih5 (x4 + 1) (f_Terms_left x3 α2) x2 _ _ _ _ _ _ _ h hI (lv_sub hl [0, 1, 2, 3] rfl)
  exact L5 N 0 a1 a2 _ _ _ _ _ _ _ h hI (lv_sub hl [0, 1, 2, 4] rfl)
theorem kw_Red_109 : kWv "FamilyKernel$Reducer" 109 "FamilyKernel$Row" y_Row_size b_Row_size 1 (some .int) 0 := ⟨vt_869, vt_270, vt_271, vt_4, vt_272, by decide, by decide, by decide +kernel⟩
theorem kw_Red_119 : kWv "FamilyKernel$Reducer" 119 "FamilyKernel$Terms" y_Terms_size b_Terms_size 2 (some .int) 1 := ⟨vt_872, vt_545, vt_546, vt_19, vt_547, by decide, by decide, by decide +kernel⟩
theorem kw_Red_121 : kWv "FamilyKernel$Reducer" 121 "FamilyKernel$Meter" y_Meter_charge b_Meter_charge 2 none 1 := ⟨vt_873, vt_637, vt_638, vt_13, vt_639, by decide, by decide, by decide +kernel⟩
theorem kw_Red_91 : kWv "FamilyKernel$Reducer" 91 "FamilyKernel$Frames" y_Fra_set b_Fra_set 3 none 2 := ⟨vt_874, vt_875, vt_876, vt_47, vt_877, by decide, by decide, by decide +kernel⟩
theorem kw_Red_113 : kWv "FamilyKernel$Reducer" 113 "FamilyKernel$Row" y_Row_pop b_Row_pop 1 (some .int) 0 := ⟨vt_870, vt_599, vt_600, vt_4, vt_601, by decide, by decide, by decide +kernel⟩
theorem kw_Red_116 : kWv "FamilyKernel$Reducer" 116 "FamilyKernel$Terms" y_Terms_make b_Terms_make 10 (some .int) 3 := ⟨vt_871, vt_518, vt_519, vt_19, vt_520, by decide, by decide, by decide +kernel⟩
def f_Red_applyGiven_2 (N : Nat)  : Nat → Int32 → kS → Option (kO × kS)
  | 0, _, _ => none
  | n + 1, x2, β => if (fR_size β 14) ≤ 0 then (kBv (f_Meter_charge N (f_Terms_size x2 β) β) fun α2 => (some (some none, (f_Fra_set 1 x2 α2)))) else (kBi (f_Terms_make N 5 x2 (fR_pop β 14).1 (fR_pop β 14).2) fun v6 α4 => (f_Red_applyGiven_2 N n v6 α4))
def f_Red_applyGiven (N : Nat) (a1 : Int32) (α : kS) : Option (kO × kS) := f_Red_applyGiven_2 N N a1 α
set_option maxHeartbeats 4000000 in
set_option maxRecDepth 100000 in
theorem k_Red_applyGiven {l : Launch} {g : kG} {α : kS} (hfl : kFl l) (N : Nat) (a1 : Int32)  : ∀ x, f_Red_applyGiven N a1 α = some x → kC l g y_Red_applyGiven b_Red_applyGiven 3 none 23 692 [.ref (kad g 7), .int a1] α (kQr x) := by
  intro x h
  unfold f_Red_applyGiven at h
  refine kc_ofW (by decide) (fun A ad0 p e s m args below meth c S hr hlocks hno hadm hargs E hI => ?_)
  have hx := S.1
  have hb := S.2.1
  have hown := S.2.2.2.1
  have hT := S.2.2.2.2
  subst hargs
  have hl := lv_entry ([.ref (kad g 7), .int a1]) (n := 3) (Nat.le_of_ble_eq_true rfl)
  rw [lg_entry_eq]
  generalize (lg_sl ([.ref (kad g 7), .int a1]) ++ List.replicate (3 - (lg_sl ([.ref (kad g 7), .int a1])).length) Slot.unset).toArray = ls at hl ⊢
  have hl : lv_has ls 3 [(0, .ref (kad g 7)), (1, .int a1)] := hl
  refine lv_iload_n hx hb d_Red_applyGiven_0 rfl (lv_at hl 1 rfl) ?_
  refine lv_istore_n (lv' := [(2, .int a1), (0, .ref (kad g 7)), (1, .int a1)]) hx hb d_Red_applyGiven_1 rfl hl (by decide) rfl (fun ls hl => ?_)
  have L2 : ∀ (n2 : Nat) (x2 : Int32) (β : kS) (ad : Nat → Nat) (H : Heap) (locs : List Loc) (cells slots : Nat) (ls : Array Slot), f_Red_applyGiven_2 N n2 x2 β = some x → kI g A s α ad0 β ad H locs cells slots → lv_has ls 3 [(2, .int x2), (0, .ref (kad g 7))] → W p l e (kR 23 692 α) s m ([.ref (kad g 7), .int a1]).toArray below meth c H locs cells slots (vEQ below (kQ g A α ad0 (kQr x)) ([.ref (kad g 7), .int a1]).toArray s A) (F0 m 2 ls []) := by
    intro n2
    induction n2 with
    | zero => intro x2 β ad H locs cells slots ls h hI hl; rw [f_Red_applyGiven_2] at h; cases h
    | succ n2 ih2 =>
      intro x2 β ad H locs cells slots ls h hI hl
      rw [f_Red_applyGiven_2] at h
      refine lv_aload_n hx hb d_Red_applyGiven_2 rfl (lv_at hl 1 rfl) ?_
      refine kf_Red_given S E hI.1 vt_140 d_Red_applyGiven_3 ?_
      refine kg_p (As := []) (rest := []) (k_Row_size (l := l) (g := g) (α := β) (r := 14) (by decide)) S E hI.1 kw_Red_109 ⟨Nat.le_of_ble_eq_true rfl, Nat.le_of_ble_eq_true rfl⟩ hI.room (kv_Row (r := 14) (by decide) E hI.1) rfl hl.1 rfl (Nat.le_of_ble_eq_true rfl) d_Red_applyGiven_6 rfl ?_
      refine lv_if_le (tgt := 32) hx hb d_Red_applyGiven_9 (by decide) (fun c1 => ?_) (fun c1 => ?_)
      · replace h := Eq.trans (if_pos c1).symm h
        refine lv_aload_n hx hb d_Red_applyGiven_32 rfl (lv_at hl 1 rfl) ?_
        refine kf_Red_meter S E hI.1 vt_134 d_Red_applyGiven_33 ?_
        refine lv_aload_n hx hb d_Red_applyGiven_36 rfl (lv_at hl 1 rfl) ?_
        refine kf_Red_terms S E hI.1 vt_135 d_Red_applyGiven_37 ?_
        refine lv_iload_n hx hb d_Red_applyGiven_40 rfl (lv_at hl 0 rfl) ?_
        refine kg_p (As := [.int x2]) (rest := [.ref (kad g 1)]) (k_Terms_size (l := l) (g := g) (α := β) x2) S E hI.1 kw_Red_119 ⟨Nat.le_of_ble_eq_true rfl, Nat.le_of_ble_eq_true rfl⟩ hI.room (kv_Terms E hI.1) rfl hl.1 rfl (Nat.le_of_ble_eq_true rfl) d_Red_applyGiven_41 rfl ?_
        refine kg_cV (As := [.int (f_Terms_size x2 β)]) (rest := []) h (k_Meter_charge (l := l) (g := g) (α := β) hfl N (f_Terms_size x2 β)) S hlocks hno E hI kw_Red_121 ⟨Nat.le_of_ble_eq_true rfl, Nat.le_of_ble_eq_true rfl⟩ (kv_Meter E hI.1) rfl hl.1 rfl (Nat.le_of_ble_eq_true rfl) d_Red_applyGiven_44 (fun α2 ad H locs cells slots e3 h hRm hI => ?_)
        refine lv_aload_n hx hb d_Red_applyGiven_47 rfl (lv_at hl 1 rfl) ?_
        refine kf_Red_frames S E hI.1 vt_133 d_Red_applyGiven_48 ?_
        refine lv_iconst (v := 1) hx hb d_Red_applyGiven_51 (by decide) ?_
        refine lv_iload_n hx hb d_Red_applyGiven_52 rfl (lv_at hl 0 rfl) ?_
        refine kg_tV (As := [.int 1, .int x2]) (rest := []) (k_Fra_set (l := l) (g := g) (α := α2) 1 x2) S hlocks hno E hI kw_Red_91 ⟨Nat.le_of_ble_eq_true rfl, Nat.le_of_ble_eq_true rfl⟩ (kv_Fra E hI.1) rfl hl.1 rfl (Nat.le_of_ble_eq_true rfl) d_Red_applyGiven_53 (fun ad H locs cells slots hRm hI => ?_)
        exact kc_vret hx hb hr hlocks E hI h d_Red_applyGiven_56
      · replace h := Eq.trans (if_neg c1).symm h
        refine lv_aload_n hx hb d_Red_applyGiven_12 rfl (lv_at hl 1 rfl) ?_
        refine kf_Red_terms S E hI.1 vt_135 d_Red_applyGiven_13 ?_
        refine lv_iconst (v := 5) hx hb d_Red_applyGiven_16 (by decide) ?_
        refine lv_iload_n hx hb d_Red_applyGiven_17 rfl (lv_at hl 0 rfl) ?_
        refine lv_aload_n hx hb d_Red_applyGiven_18 rfl (lv_at hl 1 rfl) ?_
        refine kf_Red_given S E hI.1 vt_140 d_Red_applyGiven_19 ?_
        refine kg_tI (As := []) (rest := [.int x2, .int 5, .ref (kad g 2)]) (k_Row_pop (l := l) (g := g) (α := β) (r := 14) (by decide)) S hlocks hno E hI kw_Red_113 ⟨Nat.le_of_ble_eq_true rfl, Nat.le_of_ble_eq_true rfl⟩ (kv_Row (r := 14) (by decide) E hI.1) rfl hl.1 rfl (Nat.le_of_ble_eq_true rfl) d_Red_applyGiven_22 (fun ad H locs cells slots hRm hI => ?_)
        refine kg_cI (As := [.int 5, .int x2, .int (fR_pop β 14).1]) (rest := []) h (k_Terms_make (l := l) (g := g) (α := (fR_pop β 14).2) hfl N 5 x2 (fR_pop β 14).1) S hlocks hno E hI kw_Red_116 ⟨Nat.le_of_ble_eq_true rfl, Nat.le_of_ble_eq_true rfl⟩ (kv_Terms E hI.1) rfl hl.1 rfl (Nat.le_of_ble_eq_true rfl) d_Red_applyGiven_25 (fun v6 α4 ad H locs cells slots e5 h hRm hI => ?_)
        refine lv_istore_n (lv' := [(2, .int v6), (0, .ref (kad g 7))]) hx hb d_Red_applyGiven_28 rfl hl (by decide) rfl (fun ls hl => ?_)
        refine lv_goto (tgt := 2) hx hb d_Red_applyGiven_29 (by decide) ?_
        exact ih2 v6 _ _ _ _ _ _ _ h hI (lv_sub hl [0, 1] rfl)
  exact L2 N a1 _ _ _ _ _ _ _ h hI (lv_sub hl [0, 1] rfl)
theorem kw_Red_98 : kWv "FamilyKernel$Reducer" 98 "FamilyKernel$Row" y_Row_cut b_Row_cut 2 none 1 := ⟨vt_859, vt_232, vt_233, vt_4, vt_234, by decide, by decide, by decide +kernel⟩
theorem kw_Red_39 : kWv "FamilyKernel$Reducer" 39 "FamilyKernel$Frames" y_Fra_top b_Fra_top 2 (some .int) 1 := ⟨vt_825, vt_665, vt_666, vt_47, vt_667, by decide, by decide, by decide +kernel⟩
theorem kw_Red_101 : kWv "FamilyKernel$Reducer" 101 "FamilyKernel$Reducer" y_Red_giveLast b_Red_giveLast 5 (some .int) 2 := ⟨vt_860, vt_861, vt_862, vt_54, vt_863, by decide, by decide, by decide +kernel⟩
theorem kw_Red_104 : kWv "FamilyKernel$Reducer" 104 "FamilyKernel$Reducer" y_Red_applyGiven b_Red_applyGiven 3 none 1 := ⟨vt_864, vt_865, vt_866, vt_54, vt_867, by decide, by decide, by decide +kernel⟩
def f_Red_step (N : Nat) (a1 : Int32) (a2 : Int32) (α : kS) : Option (kO × kS) := kBi (f_Red_giveLast N (f_Fra_top 1 (fR_cut α 14 0)) a2 (fR_cut α 14 0)) fun v3 α1 => (kBv (f_Red_applyGiven N a1 α1) fun α4 => (some (some none, α4)))
set_option maxHeartbeats 4000000 in
set_option maxRecDepth 100000 in
theorem k_Red_step {l : Launch} {g : kG} {α : kS} (hfl : kFl l) (N : Nat) (a1 : Int32) (a2 : Int32)  : ∀ x, f_Red_step N a1 a2 α = some x → kC l g y_Red_step b_Red_step 3 none 32 945 [.ref (kad g 7), .int a1, .int a2] α (kQr x) := by
  intro x h
  unfold f_Red_step at h
  refine kc_ofW (by decide) (fun A ad0 p e s m args below meth c S hr hlocks hno hadm hargs E hI => ?_)
  have hx := S.1
  have hb := S.2.1
  have hown := S.2.2.2.1
  have hT := S.2.2.2.2
  subst hargs
  have hl := lv_entry ([.ref (kad g 7), .int a1, .int a2]) (n := 3) (Nat.le_of_ble_eq_true rfl)
  rw [lg_entry_eq]
  generalize (lg_sl ([.ref (kad g 7), .int a1, .int a2]) ++ List.replicate (3 - (lg_sl ([.ref (kad g 7), .int a1, .int a2])).length) Slot.unset).toArray = ls at hl ⊢
  have hl : lv_has ls 3 [(0, .ref (kad g 7)), (1, .int a1), (2, .int a2)] := hl
  refine lv_aload_n hx hb d_Red_step_0 rfl (lv_at hl 0 rfl) ?_
  refine kf_Red_given S E hI.1 vt_140 d_Red_step_1 ?_
  refine lv_iconst (v := 0) hx hb d_Red_step_4 (by decide) ?_
  refine kg_tV (As := [.int 0]) (rest := []) (k_Row_cut (l := l) (g := g) (α := α) (r := 14) (by decide) 0) S hlocks hno E hI kw_Red_98 ⟨Nat.le_of_ble_eq_true rfl, Nat.le_of_ble_eq_true rfl⟩ (kv_Row (r := 14) (by decide) E hI.1) rfl hl.1 rfl (Nat.le_of_ble_eq_true rfl) d_Red_step_5 (fun ad H locs cells slots hRm hI => ?_)
  refine lv_aload_n hx hb d_Red_step_8 rfl (lv_at hl 0 rfl) ?_
  refine lv_aload_n hx hb d_Red_step_9 rfl (lv_at hl 0 rfl) ?_
  refine kf_Red_frames S E hI.1 vt_133 d_Red_step_10 ?_
  refine lv_iconst (v := 1) hx hb d_Red_step_13 (by decide) ?_
  refine kg_p (As := [.int 1]) (rest := [.ref (kad g 7)]) (k_Fra_top (l := l) (g := g) (α := (fR_cut α 14 0)) 1) S E hI.1 kw_Red_39 ⟨Nat.le_of_ble_eq_true rfl, Nat.le_of_ble_eq_true rfl⟩ hI.room (kv_Fra E hI.1) rfl hl.1 rfl (Nat.le_of_ble_eq_true rfl) d_Red_step_14 rfl ?_
  refine lv_iload_n hx hb d_Red_step_17 rfl (lv_at hl 2 rfl) ?_
  refine kg_cI (As := [.int (f_Fra_top 1 (fR_cut α 14 0)), .int a2]) (rest := []) h (k_Red_giveLast (l := l) (g := g) (α := (fR_cut α 14 0)) hfl N (f_Fra_top 1 (fR_cut α 14 0)) a2) S hlocks hno E hI kw_Red_101 ⟨Nat.le_of_ble_eq_true rfl, Nat.le_of_ble_eq_true rfl⟩ (kv_Red E hI.1) rfl hl.1 rfl (Nat.le_of_ble_eq_true rfl) d_Red_step_18 (fun v3 α1 ad H locs cells slots e2 h hRm hI => ?_)
  refine lv_pop hx hb d_Red_step_21 rfl ?_
  refine lv_aload_n hx hb d_Red_step_22 rfl (lv_at hl 0 rfl) ?_
  refine lv_iload_n hx hb d_Red_step_23 rfl (lv_at hl 1 rfl) ?_
  refine kg_cV (As := [.int a1]) (rest := []) h (k_Red_applyGiven (l := l) (g := g) (α := α1) hfl N a1) S hlocks hno E hI kw_Red_104 ⟨Nat.le_of_ble_eq_true rfl, Nat.le_of_ble_eq_true rfl⟩ (kv_Red E hI.1) rfl hl.1 rfl (Nat.le_of_ble_eq_true rfl) d_Red_step_24 (fun α4 ad H locs cells slots e5 h hRm hI => ?_)
  exact kc_vret hx hb hr hlocks E hI h d_Red_step_27
theorem kw_Red_71 : kWv "FamilyKernel$Reducer" 71 "FamilyKernel$Environment" y_Env_fact b_Env_fact 3 (some .int) 2 := ⟨vt_846, vt_459, vt_460, vt_26, vt_461, by decide, by decide, by decide +kernel⟩
def f_Red_majorPlace (a1 : Int32) (α : kS) : Int32 := ((((f_Env_fact a1 3 α) + 1) + (f_Env_fact a1 5 α)) + (f_Env_fact a1 4 α))
set_option maxHeartbeats 4000000 in
set_option maxRecDepth 100000 in
theorem k_Red_majorPlace {l : Launch} {g : kG} {α : kS} (a1 : Int32)  : kV l g y_Red_majorPlace b_Red_majorPlace 2 (some .int) 12 343 [.ref (kad g 7), .int a1] α (f_Red_majorPlace a1 α) := by
  generalize h : f_Red_majorPlace a1 α = x
  unfold f_Red_majorPlace at h
  refine kv_ofW (by decide) (fun A ad p e s m args below meth c S hr hlocks hargs E hJ => ?_)
  have hx := S.1
  have hb := S.2.1
  have hown := S.2.2.2.1
  have hT := S.2.2.2.2
  subst hargs
  have hl := lv_entry ([.ref (kad g 7), .int a1]) (n := 2) (Nat.le_of_ble_eq_true rfl)
  rw [lg_entry_eq]
  generalize (lg_sl ([.ref (kad g 7), .int a1]) ++ List.replicate (2 - (lg_sl ([.ref (kad g 7), .int a1])).length) Slot.unset).toArray = ls at hl ⊢
  have hl : lv_has ls 2 [(0, .ref (kad g 7)), (1, .int a1)] := hl
  refine lv_aload_n hx hb d_Red_majorPlace_0 rfl (lv_at hl 0 rfl) ?_
  refine kf_Red_environment S E hJ vt_136 d_Red_majorPlace_1 ?_
  refine lv_iload_n hx hb d_Red_majorPlace_4 rfl (lv_at hl 1 rfl) ?_
  refine lv_iconst (v := 3) hx hb d_Red_majorPlace_5 (by decide) ?_
  refine kg_p (As := [.int a1, .int 3]) (rest := []) (k_Env_fact (l := l) (g := g) (α := α) a1 3) S E hJ kw_Red_71 ⟨Nat.le_of_ble_eq_true rfl, Nat.le_of_ble_eq_true rfl⟩ ⟨Nat.le_refl _, Nat.le_refl _⟩ (kv_Env E hJ) rfl hl.1 rfl (Nat.le_of_ble_eq_true rfl) d_Red_majorPlace_6 rfl ?_
  refine lv_iconst (v := 1) hx hb d_Red_majorPlace_9 (by decide) ?_
  refine lv_iadd hx hb d_Red_majorPlace_10 ?_
  refine lv_aload_n hx hb d_Red_majorPlace_11 rfl (lv_at hl 0 rfl) ?_
  refine kf_Red_environment S E hJ vt_136 d_Red_majorPlace_12 ?_
  refine lv_iload_n hx hb d_Red_majorPlace_15 rfl (lv_at hl 1 rfl) ?_
  refine lv_iconst (v := 5) hx hb d_Red_majorPlace_16 (by decide) ?_
  refine kg_p (As := [.int a1, .int 5]) (rest := [.int ((f_Env_fact a1 3 α) + 1)]) (k_Env_fact (l := l) (g := g) (α := α) a1 5) S E hJ kw_Red_71 ⟨Nat.le_of_ble_eq_true rfl, Nat.le_of_ble_eq_true rfl⟩ ⟨Nat.le_refl _, Nat.le_refl _⟩ (kv_Env E hJ) rfl hl.1 rfl (Nat.le_of_ble_eq_true rfl) d_Red_majorPlace_17 rfl ?_
  refine lv_iadd hx hb d_Red_majorPlace_20 ?_
  refine lv_aload_n hx hb d_Red_majorPlace_21 rfl (lv_at hl 0 rfl) ?_
  refine kf_Red_environment S E hJ vt_136 d_Red_majorPlace_22 ?_
  refine lv_iload_n hx hb d_Red_majorPlace_25 rfl (lv_at hl 1 rfl) ?_
  refine lv_iconst (v := 4) hx hb d_Red_majorPlace_26 (by decide) ?_
  refine kg_p (As := [.int a1, .int 4]) (rest := [.int (((f_Env_fact a1 3 α) + 1) + (f_Env_fact a1 5 α))]) (k_Env_fact (l := l) (g := g) (α := α) a1 4) S E hJ kw_Red_71 ⟨Nat.le_of_ble_eq_true rfl, Nat.le_of_ble_eq_true rfl⟩ ⟨Nat.le_refl _, Nat.le_refl _⟩ (kv_Env E hJ) rfl hl.1 rfl (Nat.le_of_ble_eq_true rfl) d_Red_majorPlace_27 rfl ?_
  refine lv_iadd hx hb d_Red_majorPlace_30 ?_
  exact kv_iret (w := ((((f_Env_fact a1 3 α) + 1) + (f_Env_fact a1 5 α)) + (f_Env_fact a1 4 α))) hx hb hr rfl hlocks h d_Red_majorPlace_31
theorem kw_Red_54 : kWv "FamilyKernel$Reducer" 54 "FamilyKernel$Terms" y_Terms_fromLast b_Terms_fromLast 5 (some .int) 2 := ⟨vt_835, vt_836, vt_837, vt_19, vt_838, by decide, by decide, by decide +kernel⟩
theorem kw_Red_94 : kWv "FamilyKernel$Reducer" 94 "FamilyKernel$Frames" y_Fra_push b_Fra_push 5 none 4 := ⟨vt_880, vt_819, vt_820, vt_47, vt_821, by decide, by decide, by decide +kernel⟩
theorem kw_Red_86 : kWv "FamilyKernel$Reducer" 86 "FamilyKernel$Meter" y_Meter_fail b_Meter_fail 2 none 1 := ⟨vt_879, vt_406, vt_407, vt_13, vt_408, by decide, by decide, by decide +kernel⟩
def f_Red_askMajor_j26 (N : Nat)  (y3 : Int32) (y1 : Int32) (y2 : Int32) (γ : kS) : Option (kO × kS) := ((f_Terms_fromLast N y1 y2 (f_Fra_set 0 2 γ))).bind fun v2 => (kBv (f_Fra_push N 1 v2 0 y3 (f_Fra_set 0 2 γ)) fun α4 => (some (some none, α4)))
def f_Red_askMajor (N : Nat) (a1 : Int32) (a2 : Int32) (α : kS) : Option (kO × kS) := if ((f_Fra_top 4 α) + 1) ≤ 60 then (f_Red_askMajor_j26 N ((f_Fra_top 4 α) + 1) a1 a2 α) else (kBv (f_Meter_fail N 10 α) fun α6 => (f_Red_askMajor_j26 N ((f_Fra_top 4 α) + 1) a1 a2 α6))
set_option maxHeartbeats 4000000 in
set_option maxRecDepth 100000 in
theorem k_Red_askMajor {l : Launch} {g : kG} {α : kS} (hfl : kFl l) (N : Nat) (a1 : Int32) (a2 : Int32)  : ∀ x, f_Red_askMajor N a1 a2 α = some x → kC l g y_Red_askMajor b_Red_askMajor 4 none 32 945 [.ref (kad g 7), .int a1, .int a2] α (kQr x) := by
  intro x h
  unfold f_Red_askMajor at h
  refine kc_ofW (by decide) (fun A ad0 p e s m args below meth c S hr hlocks hno hadm hargs E hI => ?_)
  have hx := S.1
  have hb := S.2.1
  have hown := S.2.2.2.1
  have hT := S.2.2.2.2
  subst hargs
  have hl := lv_entry ([.ref (kad g 7), .int a1, .int a2]) (n := 4) (Nat.le_of_ble_eq_true rfl)
  rw [lg_entry_eq]
  generalize (lg_sl ([.ref (kad g 7), .int a1, .int a2]) ++ List.replicate (4 - (lg_sl ([.ref (kad g 7), .int a1, .int a2])).length) Slot.unset).toArray = ls at hl ⊢
  have hl : lv_has ls 4 [(0, .ref (kad g 7)), (1, .int a1), (2, .int a2)] := hl
  have J26 : ∀ (y3 : Int32) (y1 : Int32) (y2 : Int32) (γ : kS) (ad : Nat → Nat) (H : Heap) (locs : List Loc) (cells slots : Nat) (ls : Array Slot), f_Red_askMajor_j26 N y3 y1 y2 γ = some x → kI g A s α ad0 γ ad H locs cells slots → lv_has ls 4 [(3, .int y3), (0, .ref (kad g 7)), (1, .int y1), (2, .int y2)] → W p l e (kR 32 945 α) s m ([.ref (kad g 7), .int a1, .int a2]).toArray below meth c H locs cells slots (vEQ below (kQ g A α ad0 (kQr x)) ([.ref (kad g 7), .int a1, .int a2]).toArray s A) (F0 m 26 ls []) := by
    intro y3 y1 y2 γ ad H locs cells slots ls h hI hl
    unfold f_Red_askMajor_j26 at h
    refine lv_aload_n hx hb d_Red_askMajor_26 rfl (lv_at hl 1 rfl) ?_
    refine kf_Red_frames S E hI.1 vt_133 d_Red_askMajor_27 ?_
    refine lv_iconst (v := 0) hx hb d_Red_askMajor_30 (by decide) ?_
    refine lv_iconst (v := 2) hx hb d_Red_askMajor_31 (by decide) ?_
    refine kg_tV (As := [.int 0, .int 2]) (rest := []) (k_Fra_set (l := l) (g := g) (α := γ) 0 2) S hlocks hno E hI kw_Red_91 ⟨Nat.le_of_ble_eq_true rfl, Nat.le_of_ble_eq_true rfl⟩ (kv_Fra E hI.1) rfl hl.1 rfl (Nat.le_of_ble_eq_true rfl) d_Red_askMajor_32 (fun ad H locs cells slots hRm hI => ?_)
    refine lv_aload_n hx hb d_Red_askMajor_35 rfl (lv_at hl 1 rfl) ?_
    refine kf_Red_frames S E hI.1 vt_133 d_Red_askMajor_36 ?_
    refine lv_iconst (v := 1) hx hb d_Red_askMajor_39 (by decide) ?_
    refine lv_aload_n hx hb d_Red_askMajor_40 rfl (lv_at hl 1 rfl) ?_
    refine kf_Red_terms S E hI.1 vt_135 d_Red_askMajor_41 ?_
    refine lv_iload_n hx hb d_Red_askMajor_44 rfl (lv_at hl 2 rfl) ?_
    refine lv_iload_n hx hb d_Red_askMajor_45 rfl (lv_at hl 3 rfl) ?_
    obtain ⟨v2, e3, h⟩ := Option.bind_eq_some_iff.mp h
    refine kg_p (As := [.int y1, .int y2]) (rest := [.int 1, .ref (kad g 6)]) ((k_Terms_fromLast (l := l) (g := g) (α := (f_Fra_set 0 2 γ)) N y1 y2) _ e3) S E hI.1 kw_Red_54 ⟨Nat.le_of_ble_eq_true rfl, Nat.le_of_ble_eq_true rfl⟩ hI.room (kv_Terms E hI.1) rfl hl.1 rfl (Nat.le_of_ble_eq_true rfl) d_Red_askMajor_46 rfl ?_
    refine lv_iconst (v := 0) hx hb d_Red_askMajor_49 (by decide) ?_
    refine lv_iload_n hx hb d_Red_askMajor_50 rfl (lv_at hl 0 rfl) ?_
    refine kg_cV (As := [.int 1, .int v2, .int 0, .int y3]) (rest := []) h (k_Fra_push (l := l) (g := g) (α := (f_Fra_set 0 2 γ)) hfl N 1 v2 0 y3) S hlocks hno E hI kw_Red_94 ⟨Nat.le_of_ble_eq_true rfl, Nat.le_of_ble_eq_true rfl⟩ (kv_Fra E hI.1) rfl hl.1 rfl (Nat.le_of_ble_eq_true rfl) d_Red_askMajor_51 (fun α4 ad H locs cells slots e5 h hRm hI => ?_)
    exact kc_vret hx hb hr hlocks E hI h d_Red_askMajor_54
  refine lv_aload_n hx hb d_Red_askMajor_0 rfl (lv_at hl 0 rfl) ?_
  refine kf_Red_frames S E hI.1 vt_133 d_Red_askMajor_1 ?_
  refine lv_iconst (v := 4) hx hb d_Red_askMajor_4 (by decide) ?_
  refine kg_p (As := [.int 4]) (rest := []) (k_Fra_top (l := l) (g := g) (α := α) 4) S E hI.1 kw_Red_39 ⟨Nat.le_of_ble_eq_true rfl, Nat.le_of_ble_eq_true rfl⟩ hI.room (kv_Fra E hI.1) rfl hl.1 rfl (Nat.le_of_ble_eq_true rfl) d_Red_askMajor_5 rfl ?_
  refine lv_iconst (v := 1) hx hb d_Red_askMajor_8 (by decide) ?_
  refine lv_iadd hx hb d_Red_askMajor_9 ?_
  refine lv_istore_n (lv' := [(3, .int ((f_Fra_top 4 α) + 1)), (0, .ref (kad g 7)), (1, .int a1), (2, .int a2)]) hx hb d_Red_askMajor_10 rfl hl (by decide) rfl (fun ls hl => ?_)
  refine lv_iload_n hx hb d_Red_askMajor_11 rfl (lv_at hl 0 rfl) ?_
  refine lv_bipush (v := 60) hx hb d_Red_askMajor_12 (by decide) ?_
  refine lv_icmp_le (tgt := 26) hx hb d_Red_askMajor_14 (by decide) (fun c1 => ?_) (fun c1 => ?_)
  · replace h := Eq.trans (if_pos c1).symm h
    exact J26 ((f_Fra_top 4 α) + 1) a1 a2 _ _ _ _ _ _ _ h hI (lv_sub hl [0, 1, 2, 3] rfl)
  · replace h := Eq.trans (if_neg c1).symm h
    refine lv_aload_n hx hb d_Red_askMajor_17 rfl (lv_at hl 1 rfl) ?_
    refine kf_Red_meter S E hI.1 vt_134 d_Red_askMajor_18 ?_
    refine lv_bipush (v := 10) hx hb d_Red_askMajor_21 (by decide) ?_
    refine kg_cV (As := [.int 10]) (rest := []) h (k_Meter_fail (l := l) (g := g) (α := α) hfl N 10) S hlocks hno E hI kw_Red_86 ⟨Nat.le_of_ble_eq_true rfl, Nat.le_of_ble_eq_true rfl⟩ (kv_Meter E hI.1) rfl hl.1 rfl (Nat.le_of_ble_eq_true rfl) d_Red_askMajor_23 (fun α6 ad H locs cells slots e7 h hRm hI => ?_)
    exact J26 ((f_Fra_top 4 α) + 1) a1 a2 _ _ _ _ _ _ _ h hI (lv_sub hl [0, 1, 2, 3] rfl)
theorem kw_Red_43 : kWv "FamilyKernel$Reducer" 43 "FamilyKernel$Terms" y_Terms_head b_Terms_head 4 (some .int) 1 := ⟨vt_826, vt_827, vt_828, vt_19, vt_829, by decide, by decide, by decide +kernel⟩
theorem kw_Red_48 : kWv "FamilyKernel$Reducer" 48 "FamilyKernel$Terms" y_Terms_behind b_Terms_behind 4 (some .int) 1 := ⟨vt_830, vt_831, vt_832, vt_19, vt_833, by decide, by decide, by decide +kernel⟩
theorem kw_Red_51 : kWv "FamilyKernel$Reducer" 51 "FamilyKernel$Terms" y_Terms_kind b_Terms_kind 2 (some .int) 1 := ⟨vt_834, vt_541, vt_542, vt_19, vt_543, by decide, by decide, by decide +kernel⟩
theorem kw_Red_82 : kWv "FamilyKernel$Reducer" 82 "FamilyKernel$Frames" y_Fra_give b_Fra_give 2 none 1 := ⟨vt_855, vt_856, vt_857, vt_47, vt_858, by decide, by decide, by decide +kernel⟩
theorem kw_Red_76 : kWv "FamilyKernel$Reducer" 76 "FamilyKernel$Reducer" y_Red_majorPlace b_Red_majorPlace 2 (some .int) 1 := ⟨vt_847, vt_848, vt_849, vt_54, vt_850, by decide, by decide, by decide +kernel⟩
theorem kw_Red_79 : kWv "FamilyKernel$Reducer" 79 "FamilyKernel$Reducer" y_Red_askMajor b_Red_askMajor 4 none 2 := ⟨vt_851, vt_852, vt_853, vt_54, vt_854, by decide, by decide, by decide +kernel⟩
theorem kw_Red_65 : kWv "FamilyKernel$Reducer" 65 "FamilyKernel$Reducer" y_Red_step b_Red_step 3 none 2 := ⟨vt_841, vt_842, vt_843, vt_54, vt_844, by decide, by decide, by decide +kernel⟩
theorem kw_Red_61 : kWv "FamilyKernel$Reducer" 61 "FamilyKernel$Terms" y_Terms_rewrite b_Terms_rewrite 9 (some .int) 3 := ⟨vt_840, vt_604, vt_605, vt_19, vt_606, by decide, by decide, by decide +kernel⟩
def f_Red_whnf_j190 (N : Nat)  (y4 : Int32) (y3 : Int32) (y2 : Int32) (y1 : Int32) (γ : kS) : Option (kO × kS) := if y4 = 4 then (if y3 ≤ (f_Red_majorPlace (f_Terms_left y2 γ) γ) then (some (some none, (f_Fra_give y1 γ))) else (kBv (f_Red_askMajor N y1 ((y3 - 1) - (f_Red_majorPlace (f_Terms_left y2 γ) γ)) γ) fun α10 => (some (some none, α10)))) else (some (some none, (f_Fra_give y1 γ)))
def f_Red_whnf_j89 (N : Nat)  (y4 : Int32) (y3 : Int32) (y2 : Int32) (y1 : Int32) (γ : kS) : Option (kO × kS) := if y4 = 8 then (kBi (f_Terms_rewrite N 1 (f_Terms_right (f_Terms_right y2 γ) γ) (f_Terms_left (f_Terms_right y2 γ) γ) γ) fun v17 α15 => (kBv (f_Red_step N v17 y3 α15) fun α18 => (some (some none, α18)))) else (if y4 = 3 then (if (f_Env_fact (f_Terms_left y2 γ) 0 γ) = 1 then (kBv (f_Red_step N (f_Env_fact (f_Terms_left y2 γ) 2 γ) y3 γ) fun α13 => (some (some none, α13))) else (f_Red_whnf_j190 N y4 y3 y2 y1 γ)) else (f_Red_whnf_j190 N y4 y3 y2 y1 γ))
def f_Red_whnf (N : Nat)  (α : kS) : Option (kO × kS) := ((f_Terms_head N (f_Fra_top 1 α) α)).bind fun v1 => (((f_Terms_behind N (f_Fra_top 1 α) α)).bind fun v3 => (if (f_Terms_kind v1 α) = 7 then (if v3 ≤ 0 then (f_Red_whnf_j89 N (f_Terms_kind v1 α) v3 v1 (f_Fra_top 1 α) α) else (((f_Terms_fromLast N (f_Fra_top 1 α) (v3 - 1) α)).bind fun v21 => (kBi (f_Terms_rewrite N 1 (f_Terms_right v1 α) v21 α) fun v25 α23 => (kBv (f_Red_step N v25 (v3 - 1) α23) fun α26 => (some (some none, α26)))))) else (f_Red_whnf_j89 N (f_Terms_kind v1 α) v3 v1 (f_Fra_top 1 α) α)))
set_option maxHeartbeats 4000000 in
set_option maxRecDepth 100000 in
theorem k_Red_whnf {l : Launch} {g : kG} {α : kS} (hfl : kFl l) (N : Nat)   : ∀ x, f_Red_whnf N α = some x → kC l g y_Red_whnf b_Red_whnf 6 none 33 968 [.ref (kad g 7)] α (kQr x) := by
  intro x h
  unfold f_Red_whnf at h
  refine kc_ofW (by decide) (fun A ad0 p e s m args below meth c S hr hlocks hno hadm hargs E hI => ?_)
  have hx := S.1
  have hb := S.2.1
  have hown := S.2.2.2.1
  have hT := S.2.2.2.2
  subst hargs
  have hl := lv_entry ([.ref (kad g 7)]) (n := 6) (Nat.le_of_ble_eq_true rfl)
  rw [lg_entry_eq]
  generalize (lg_sl ([.ref (kad g 7)]) ++ List.replicate (6 - (lg_sl ([.ref (kad g 7)])).length) Slot.unset).toArray = ls at hl ⊢
  have hl : lv_has ls 6 [(0, .ref (kad g 7))] := hl
  have J190 : ∀ (y4 : Int32) (y3 : Int32) (y2 : Int32) (y1 : Int32) (γ : kS) (ad : Nat → Nat) (H : Heap) (locs : List Loc) (cells slots : Nat) (ls : Array Slot), f_Red_whnf_j190 N y4 y3 y2 y1 γ = some x → kI g A s α ad0 γ ad H locs cells slots → lv_has ls 6 [(4, .int y4), (3, .int y3), (2, .int y2), (1, .int y1), (0, .ref (kad g 7))] → W p l e (kR 33 968 α) s m ([.ref (kad g 7)]).toArray below meth c H locs cells slots (vEQ below (kQ g A α ad0 (kQr x)) ([.ref (kad g 7)]).toArray s A) (F0 m 190 ls []) := by
    intro y4 y3 y2 y1 γ ad H locs cells slots ls h hI hl
    unfold f_Red_whnf_j190 at h
    refine lv_iload hx hb d_Red_whnf_190 (lv_at hl 0 rfl) ?_
    refine lv_iconst (v := 4) hx hb d_Red_whnf_192 (by decide) ?_
    refine lv_icmp_ne (tgt := 236) hx hb d_Red_whnf_193 (by decide) (fun c8 => ?_) (fun c8 => ?_)
    · replace h := Eq.trans (if_neg c8).symm h
      refine lv_aload_n hx hb d_Red_whnf_236 rfl (lv_at hl 4 rfl) ?_
      refine kf_Red_frames S E hI.1 vt_133 d_Red_whnf_237 ?_
      refine lv_iload_n hx hb d_Red_whnf_240 rfl (lv_at hl 3 rfl) ?_
      refine kg_tV (As := [.int y1]) (rest := []) (k_Fra_give (l := l) (g := g) (α := γ) y1) S hlocks hno E hI kw_Red_82 ⟨Nat.le_of_ble_eq_true rfl, Nat.le_of_ble_eq_true rfl⟩ (kv_Fra E hI.1) rfl hl.1 rfl (Nat.le_of_ble_eq_true rfl) d_Red_whnf_241 (fun ad H locs cells slots hRm hI => ?_)
      exact kc_vret hx hb hr hlocks E hI h d_Red_whnf_244
    · replace h := Eq.trans (if_pos c8).symm h
      refine lv_iload_n hx hb d_Red_whnf_196 rfl (lv_at hl 1 rfl) ?_
      refine lv_aload_n hx hb d_Red_whnf_197 rfl (lv_at hl 4 rfl) ?_
      refine lv_aload_n hx hb d_Red_whnf_198 rfl (lv_at hl 4 rfl) ?_
      refine kf_Red_terms S E hI.1 vt_135 d_Red_whnf_199 ?_
      refine lv_iload_n hx hb d_Red_whnf_202 rfl (lv_at hl 2 rfl) ?_
      refine kg_p (As := [.int y2]) (rest := [.ref (kad g 7), .int y3]) (k_Terms_left (l := l) (g := g) (α := γ) y2) S E hI.1 kw_Red_68 ⟨Nat.le_of_ble_eq_true rfl, Nat.le_of_ble_eq_true rfl⟩ hI.room (kv_Terms E hI.1) rfl hl.1 rfl (Nat.le_of_ble_eq_true rfl) d_Red_whnf_203 rfl ?_
      refine kg_p (As := [.int (f_Terms_left y2 γ)]) (rest := [.int y3]) (k_Red_majorPlace (l := l) (g := g) (α := γ) (f_Terms_left y2 γ)) S E hI.1 kw_Red_76 ⟨Nat.le_of_ble_eq_true rfl, Nat.le_of_ble_eq_true rfl⟩ hI.room (kv_Red E hI.1) rfl hl.1 rfl (Nat.le_of_ble_eq_true rfl) d_Red_whnf_206 rfl ?_
      refine lv_icmp_le (tgt := 236) hx hb d_Red_whnf_209 (by decide) (fun c9 => ?_) (fun c9 => ?_)
      · replace h := Eq.trans (if_pos c9).symm h
        refine lv_aload_n hx hb d_Red_whnf_236 rfl (lv_at hl 4 rfl) ?_
        refine kf_Red_frames S E hI.1 vt_133 d_Red_whnf_237 ?_
        refine lv_iload_n hx hb d_Red_whnf_240 rfl (lv_at hl 3 rfl) ?_
        refine kg_tV (As := [.int y1]) (rest := []) (k_Fra_give (l := l) (g := g) (α := γ) y1) S hlocks hno E hI kw_Red_82 ⟨Nat.le_of_ble_eq_true rfl, Nat.le_of_ble_eq_true rfl⟩ (kv_Fra E hI.1) rfl hl.1 rfl (Nat.le_of_ble_eq_true rfl) d_Red_whnf_241 (fun ad H locs cells slots hRm hI => ?_)
        exact kc_vret hx hb hr hlocks E hI h d_Red_whnf_244
      · replace h := Eq.trans (if_neg c9).symm h
        refine lv_aload_n hx hb d_Red_whnf_212 rfl (lv_at hl 4 rfl) ?_
        refine lv_iload_n hx hb d_Red_whnf_213 rfl (lv_at hl 3 rfl) ?_
        refine lv_iload_n hx hb d_Red_whnf_214 rfl (lv_at hl 1 rfl) ?_
        refine lv_iconst (v := 1) hx hb d_Red_whnf_215 (by decide) ?_
        refine lv_isub hx hb d_Red_whnf_216 ?_
        refine lv_aload_n hx hb d_Red_whnf_217 rfl (lv_at hl 4 rfl) ?_
        refine lv_aload_n hx hb d_Red_whnf_218 rfl (lv_at hl 4 rfl) ?_
        refine kf_Red_terms S E hI.1 vt_135 d_Red_whnf_219 ?_
        refine lv_iload_n hx hb d_Red_whnf_222 rfl (lv_at hl 2 rfl) ?_
        refine kg_p (As := [.int y2]) (rest := [.ref (kad g 7), .int (y3 - 1), .int y1, .ref (kad g 7)]) (k_Terms_left (l := l) (g := g) (α := γ) y2) S E hI.1 kw_Red_68 ⟨Nat.le_of_ble_eq_true rfl, Nat.le_of_ble_eq_true rfl⟩ hI.room (kv_Terms E hI.1) rfl hl.1 rfl (Nat.le_of_ble_eq_true rfl) d_Red_whnf_223 rfl ?_
        refine kg_p (As := [.int (f_Terms_left y2 γ)]) (rest := [.int (y3 - 1), .int y1, .ref (kad g 7)]) (k_Red_majorPlace (l := l) (g := g) (α := γ) (f_Terms_left y2 γ)) S E hI.1 kw_Red_76 ⟨Nat.le_of_ble_eq_true rfl, Nat.le_of_ble_eq_true rfl⟩ hI.room (kv_Red E hI.1) rfl hl.1 rfl (Nat.le_of_ble_eq_true rfl) d_Red_whnf_226 rfl ?_
        refine lv_isub hx hb d_Red_whnf_229 ?_
        refine kg_cV (As := [.int y1, .int ((y3 - 1) - (f_Red_majorPlace (f_Terms_left y2 γ) γ))]) (rest := []) h (k_Red_askMajor (l := l) (g := g) (α := γ) hfl N y1 ((y3 - 1) - (f_Red_majorPlace (f_Terms_left y2 γ) γ))) S hlocks hno E hI kw_Red_79 ⟨Nat.le_of_ble_eq_true rfl, Nat.le_of_ble_eq_true rfl⟩ (kv_Red E hI.1) rfl hl.1 rfl (Nat.le_of_ble_eq_true rfl) d_Red_whnf_230 (fun α10 ad H locs cells slots e11 h hRm hI => ?_)
        refine lv_goto (tgt := 244) hx hb d_Red_whnf_233 (by decide) ?_
        exact kc_vret hx hb hr hlocks E hI h d_Red_whnf_244
  have J89 : ∀ (y4 : Int32) (y3 : Int32) (y2 : Int32) (y1 : Int32) (γ : kS) (ad : Nat → Nat) (H : Heap) (locs : List Loc) (cells slots : Nat) (ls : Array Slot), f_Red_whnf_j89 N y4 y3 y2 y1 γ = some x → kI g A s α ad0 γ ad H locs cells slots → lv_has ls 6 [(4, .int y4), (3, .int y3), (2, .int y2), (1, .int y1), (0, .ref (kad g 7))] → W p l e (kR 33 968 α) s m ([.ref (kad g 7)]).toArray below meth c H locs cells slots (vEQ below (kQ g A α ad0 (kQr x)) ([.ref (kad g 7)]).toArray s A) (F0 m 89 ls []) := by
    intro y4 y3 y2 y1 γ ad H locs cells slots ls h hI hl
    unfold f_Red_whnf_j89 at h
    refine lv_iload hx hb d_Red_whnf_89 (lv_at hl 0 rfl) ?_
    refine lv_bipush (v := 8) hx hb d_Red_whnf_91 (by decide) ?_
    refine lv_icmp_ne (tgt := 140) hx hb d_Red_whnf_93 (by decide) (fun c6 => ?_) (fun c6 => ?_)
    · replace h := Eq.trans (if_neg c6).symm h
      refine lv_iload hx hb d_Red_whnf_140 (lv_at hl 0 rfl) ?_
      refine lv_iconst (v := 3) hx hb d_Red_whnf_142 (by decide) ?_
      refine lv_icmp_ne (tgt := 190) hx hb d_Red_whnf_143 (by decide) (fun c7 => ?_) (fun c7 => ?_)
      · replace h := Eq.trans (if_neg c7).symm h
        exact J190 y4 y3 y2 y1 _ _ _ _ _ _ _ h hI (lv_sub hl [0, 1, 2, 3, 4] rfl)
      · replace h := Eq.trans (if_pos c7).symm h
        refine lv_aload_n hx hb d_Red_whnf_146 rfl (lv_at hl 4 rfl) ?_
        refine kf_Red_environment S E hI.1 vt_136 d_Red_whnf_147 ?_
        refine lv_aload_n hx hb d_Red_whnf_150 rfl (lv_at hl 4 rfl) ?_
        refine kf_Red_terms S E hI.1 vt_135 d_Red_whnf_151 ?_
        refine lv_iload_n hx hb d_Red_whnf_154 rfl (lv_at hl 2 rfl) ?_
        refine kg_p (As := [.int y2]) (rest := [.ref (kad g 3)]) (k_Terms_left (l := l) (g := g) (α := γ) y2) S E hI.1 kw_Red_68 ⟨Nat.le_of_ble_eq_true rfl, Nat.le_of_ble_eq_true rfl⟩ hI.room (kv_Terms E hI.1) rfl hl.1 rfl (Nat.le_of_ble_eq_true rfl) d_Red_whnf_155 rfl ?_
        refine lv_iconst (v := 0) hx hb d_Red_whnf_158 (by decide) ?_
        refine kg_p (As := [.int (f_Terms_left y2 γ), .int 0]) (rest := []) (k_Env_fact (l := l) (g := g) (α := γ) (f_Terms_left y2 γ) 0) S E hI.1 kw_Red_71 ⟨Nat.le_of_ble_eq_true rfl, Nat.le_of_ble_eq_true rfl⟩ hI.room (kv_Env E hI.1) rfl hl.1 rfl (Nat.le_of_ble_eq_true rfl) d_Red_whnf_159 rfl ?_
        refine lv_iconst (v := 1) hx hb d_Red_whnf_162 (by decide) ?_
        refine lv_icmp_ne (tgt := 190) hx hb d_Red_whnf_163 (by decide) (fun c12 => ?_) (fun c12 => ?_)
        · replace h := Eq.trans (if_neg c12).symm h
          exact J190 y4 y3 y2 y1 _ _ _ _ _ _ _ h hI (lv_sub hl [0, 1, 2, 3, 4] rfl)
        · replace h := Eq.trans (if_pos c12).symm h
          refine lv_aload_n hx hb d_Red_whnf_166 rfl (lv_at hl 4 rfl) ?_
          refine lv_aload_n hx hb d_Red_whnf_167 rfl (lv_at hl 4 rfl) ?_
          refine kf_Red_environment S E hI.1 vt_136 d_Red_whnf_168 ?_
          refine lv_aload_n hx hb d_Red_whnf_171 rfl (lv_at hl 4 rfl) ?_
          refine kf_Red_terms S E hI.1 vt_135 d_Red_whnf_172 ?_
          refine lv_iload_n hx hb d_Red_whnf_175 rfl (lv_at hl 2 rfl) ?_
          refine kg_p (As := [.int y2]) (rest := [.ref (kad g 3), .ref (kad g 7)]) (k_Terms_left (l := l) (g := g) (α := γ) y2) S E hI.1 kw_Red_68 ⟨Nat.le_of_ble_eq_true rfl, Nat.le_of_ble_eq_true rfl⟩ hI.room (kv_Terms E hI.1) rfl hl.1 rfl (Nat.le_of_ble_eq_true rfl) d_Red_whnf_176 rfl ?_
          refine lv_iconst (v := 2) hx hb d_Red_whnf_179 (by decide) ?_
          refine kg_p (As := [.int (f_Terms_left y2 γ), .int 2]) (rest := [.ref (kad g 7)]) (k_Env_fact (l := l) (g := g) (α := γ) (f_Terms_left y2 γ) 2) S E hI.1 kw_Red_71 ⟨Nat.le_of_ble_eq_true rfl, Nat.le_of_ble_eq_true rfl⟩ hI.room (kv_Env E hI.1) rfl hl.1 rfl (Nat.le_of_ble_eq_true rfl) d_Red_whnf_180 rfl ?_
          refine lv_iload_n hx hb d_Red_whnf_183 rfl (lv_at hl 1 rfl) ?_
          refine kg_cV (As := [.int (f_Env_fact (f_Terms_left y2 γ) 2 γ), .int y3]) (rest := []) h (k_Red_step (l := l) (g := g) (α := γ) hfl N (f_Env_fact (f_Terms_left y2 γ) 2 γ) y3) S hlocks hno E hI kw_Red_65 ⟨Nat.le_of_ble_eq_true rfl, Nat.le_of_ble_eq_true rfl⟩ (kv_Red E hI.1) rfl hl.1 rfl (Nat.le_of_ble_eq_true rfl) d_Red_whnf_184 (fun α13 ad H locs cells slots e14 h hRm hI => ?_)
          refine lv_goto (tgt := 244) hx hb d_Red_whnf_187 (by decide) ?_
          exact kc_vret hx hb hr hlocks E hI h d_Red_whnf_244
    · replace h := Eq.trans (if_pos c6).symm h
      refine lv_aload_n hx hb d_Red_whnf_96 rfl (lv_at hl 4 rfl) ?_
      refine kf_Red_terms S E hI.1 vt_135 d_Red_whnf_97 ?_
      refine lv_iload_n hx hb d_Red_whnf_100 rfl (lv_at hl 2 rfl) ?_
      refine kg_p (As := [.int y2]) (rest := []) (k_Terms_right (l := l) (g := g) (α := γ) y2) S E hI.1 kw_Red_58 ⟨Nat.le_of_ble_eq_true rfl, Nat.le_of_ble_eq_true rfl⟩ hI.room (kv_Terms E hI.1) rfl hl.1 rfl (Nat.le_of_ble_eq_true rfl) d_Red_whnf_101 rfl ?_
      refine lv_istore (lv' := [(5, .int (f_Terms_right y2 γ)), (4, .int y4), (3, .int y3), (2, .int y2), (1, .int y1), (0, .ref (kad g 7))]) hx hb d_Red_whnf_104 hl (by decide) rfl (fun ls hl => ?_)
      refine lv_aload_n hx hb d_Red_whnf_106 rfl (lv_at hl 5 rfl) ?_
      refine lv_aload_n hx hb d_Red_whnf_107 rfl (lv_at hl 5 rfl) ?_
      refine kf_Red_terms S E hI.1 vt_135 d_Red_whnf_108 ?_
      refine lv_iconst (v := 1) hx hb d_Red_whnf_111 (by decide) ?_
      refine lv_aload_n hx hb d_Red_whnf_112 rfl (lv_at hl 5 rfl) ?_
      refine kf_Red_terms S E hI.1 vt_135 d_Red_whnf_113 ?_
      refine lv_iload hx hb d_Red_whnf_116 (lv_at hl 0 rfl) ?_
      refine kg_p (As := [.int (f_Terms_right y2 γ)]) (rest := [.int 1, .ref (kad g 2), .ref (kad g 7)]) (k_Terms_right (l := l) (g := g) (α := γ) (f_Terms_right y2 γ)) S E hI.1 kw_Red_58 ⟨Nat.le_of_ble_eq_true rfl, Nat.le_of_ble_eq_true rfl⟩ hI.room (kv_Terms E hI.1) rfl hl.1 rfl (Nat.le_of_ble_eq_true rfl) d_Red_whnf_118 rfl ?_
      refine lv_aload_n hx hb d_Red_whnf_121 rfl (lv_at hl 5 rfl) ?_
      refine kf_Red_terms S E hI.1 vt_135 d_Red_whnf_122 ?_
      refine lv_iload hx hb d_Red_whnf_125 (lv_at hl 0 rfl) ?_
      refine kg_p (As := [.int (f_Terms_right y2 γ)]) (rest := [.int (f_Terms_right (f_Terms_right y2 γ) γ), .int 1, .ref (kad g 2), .ref (kad g 7)]) (k_Terms_left (l := l) (g := g) (α := γ) (f_Terms_right y2 γ)) S E hI.1 kw_Red_68 ⟨Nat.le_of_ble_eq_true rfl, Nat.le_of_ble_eq_true rfl⟩ hI.room (kv_Terms E hI.1) rfl hl.1 rfl (Nat.le_of_ble_eq_true rfl) d_Red_whnf_127 rfl ?_
      refine kg_cI (As := [.int 1, .int (f_Terms_right (f_Terms_right y2 γ) γ), .int (f_Terms_left (f_Terms_right y2 γ) γ)]) (rest := [.ref (kad g 7)]) h (k_Terms_rewrite (l := l) (g := g) (α := γ) hfl N 1 (f_Terms_right (f_Terms_right y2 γ) γ) (f_Terms_left (f_Terms_right y2 γ) γ)) S hlocks hno E hI kw_Red_61 ⟨Nat.le_of_ble_eq_true rfl, Nat.le_of_ble_eq_true rfl⟩ (kv_Terms E hI.1) rfl hl.1 rfl (Nat.le_of_ble_eq_true rfl) d_Red_whnf_130 (fun v17 α15 ad H locs cells slots e16 h hRm hI => ?_)
      refine lv_iload_n hx hb d_Red_whnf_133 rfl (lv_at hl 2 rfl) ?_
      refine kg_cV (As := [.int v17, .int y3]) (rest := []) h (k_Red_step (l := l) (g := g) (α := α15) hfl N v17 y3) S hlocks hno E hI kw_Red_65 ⟨Nat.le_of_ble_eq_true rfl, Nat.le_of_ble_eq_true rfl⟩ (kv_Red E hI.1) rfl hl.1 rfl (Nat.le_of_ble_eq_true rfl) d_Red_whnf_134 (fun α18 ad H locs cells slots e19 h hRm hI => ?_)
      refine lv_goto (tgt := 244) hx hb d_Red_whnf_137 (by decide) ?_
      exact kc_vret hx hb hr hlocks E hI h d_Red_whnf_244
  refine lv_aload_n hx hb d_Red_whnf_0 rfl (lv_at hl 0 rfl) ?_
  refine kf_Red_frames S E hI.1 vt_133 d_Red_whnf_1 ?_
  refine lv_iconst (v := 1) hx hb d_Red_whnf_4 (by decide) ?_
  refine kg_p (As := [.int 1]) (rest := []) (k_Fra_top (l := l) (g := g) (α := α) 1) S E hI.1 kw_Red_39 ⟨Nat.le_of_ble_eq_true rfl, Nat.le_of_ble_eq_true rfl⟩ hI.room (kv_Fra E hI.1) rfl hl.1 rfl (Nat.le_of_ble_eq_true rfl) d_Red_whnf_5 rfl ?_
  refine lv_istore_n (lv' := [(1, .int (f_Fra_top 1 α)), (0, .ref (kad g 7))]) hx hb d_Red_whnf_8 rfl hl (by decide) rfl (fun ls hl => ?_)
  refine lv_aload_n hx hb d_Red_whnf_9 rfl (lv_at hl 1 rfl) ?_
  refine kf_Red_terms S E hI.1 vt_135 d_Red_whnf_10 ?_
  refine lv_iload_n hx hb d_Red_whnf_13 rfl (lv_at hl 0 rfl) ?_
  obtain ⟨v1, e2, h⟩ := Option.bind_eq_some_iff.mp h
  refine kg_p (As := [.int (f_Fra_top 1 α)]) (rest := []) ((k_Terms_head (l := l) (g := g) (α := α) N (f_Fra_top 1 α)) _ e2) S E hI.1 kw_Red_43 ⟨Nat.le_of_ble_eq_true rfl, Nat.le_of_ble_eq_true rfl⟩ hI.room (kv_Terms E hI.1) rfl hl.1 rfl (Nat.le_of_ble_eq_true rfl) d_Red_whnf_14 rfl ?_
  refine lv_istore_n (lv' := [(2, .int v1), (1, .int (f_Fra_top 1 α)), (0, .ref (kad g 7))]) hx hb d_Red_whnf_17 rfl hl (by decide) rfl (fun ls hl => ?_)
  refine lv_aload_n hx hb d_Red_whnf_18 rfl (lv_at hl 2 rfl) ?_
  refine kf_Red_terms S E hI.1 vt_135 d_Red_whnf_19 ?_
  refine lv_iload_n hx hb d_Red_whnf_22 rfl (lv_at hl 1 rfl) ?_
  obtain ⟨v3, e4, h⟩ := Option.bind_eq_some_iff.mp h
  refine kg_p (As := [.int (f_Fra_top 1 α)]) (rest := []) ((k_Terms_behind (l := l) (g := g) (α := α) N (f_Fra_top 1 α)) _ e4) S E hI.1 kw_Red_48 ⟨Nat.le_of_ble_eq_true rfl, Nat.le_of_ble_eq_true rfl⟩ hI.room (kv_Terms E hI.1) rfl hl.1 rfl (Nat.le_of_ble_eq_true rfl) d_Red_whnf_23 rfl ?_
  refine lv_istore_n (lv' := [(3, .int v3), (2, .int v1), (1, .int (f_Fra_top 1 α)), (0, .ref (kad g 7))]) hx hb d_Red_whnf_26 rfl hl (by decide) rfl (fun ls hl => ?_)
  refine lv_aload_n hx hb d_Red_whnf_27 rfl (lv_at hl 3 rfl) ?_
  refine kf_Red_terms S E hI.1 vt_135 d_Red_whnf_28 ?_
  refine lv_iload_n hx hb d_Red_whnf_31 rfl (lv_at hl 1 rfl) ?_
  refine kg_p (As := [.int v1]) (rest := []) (k_Terms_kind (l := l) (g := g) (α := α) v1) S E hI.1 kw_Red_51 ⟨Nat.le_of_ble_eq_true rfl, Nat.le_of_ble_eq_true rfl⟩ hI.room (kv_Terms E hI.1) rfl hl.1 rfl (Nat.le_of_ble_eq_true rfl) d_Red_whnf_32 rfl ?_
  refine lv_istore (lv' := [(4, .int (f_Terms_kind v1 α)), (3, .int v3), (2, .int v1), (1, .int (f_Fra_top 1 α)), (0, .ref (kad g 7))]) hx hb d_Red_whnf_35 hl (by decide) rfl (fun ls hl => ?_)
  refine lv_iload hx hb d_Red_whnf_37 (lv_at hl 0 rfl) ?_
  refine lv_bipush (v := 7) hx hb d_Red_whnf_39 (by decide) ?_
  refine lv_icmp_ne (tgt := 89) hx hb d_Red_whnf_41 (by decide) (fun c5 => ?_) (fun c5 => ?_)
  · replace h := Eq.trans (if_neg c5).symm h
    exact J89 (f_Terms_kind v1 α) v3 v1 (f_Fra_top 1 α) _ _ _ _ _ _ _ h hI (lv_sub hl [0, 1, 2, 3, 4] rfl)
  · replace h := Eq.trans (if_pos c5).symm h
    refine lv_iload_n hx hb d_Red_whnf_44 rfl (lv_at hl 1 rfl) ?_
    refine lv_if_le (tgt := 89) hx hb d_Red_whnf_45 (by decide) (fun c20 => ?_) (fun c20 => ?_)
    · replace h := Eq.trans (if_pos c20).symm h
      exact J89 (f_Terms_kind v1 α) v3 v1 (f_Fra_top 1 α) _ _ _ _ _ _ _ h hI (lv_sub hl [0, 1, 2, 3, 4] rfl)
    · replace h := Eq.trans (if_neg c20).symm h
      refine lv_aload_n hx hb d_Red_whnf_48 rfl (lv_at hl 4 rfl) ?_
      refine kf_Red_terms S E hI.1 vt_135 d_Red_whnf_49 ?_
      refine lv_iload_n hx hb d_Red_whnf_52 rfl (lv_at hl 3 rfl) ?_
      refine lv_iload_n hx hb d_Red_whnf_53 rfl (lv_at hl 1 rfl) ?_
      refine lv_iconst (v := 1) hx hb d_Red_whnf_54 (by decide) ?_
      refine lv_isub hx hb d_Red_whnf_55 ?_
      obtain ⟨v21, e22, h⟩ := Option.bind_eq_some_iff.mp h
      refine kg_p (As := [.int (f_Fra_top 1 α), .int (v3 - 1)]) (rest := []) ((k_Terms_fromLast (l := l) (g := g) (α := α) N (f_Fra_top 1 α) (v3 - 1)) _ e22) S E hI.1 kw_Red_54 ⟨Nat.le_of_ble_eq_true rfl, Nat.le_of_ble_eq_true rfl⟩ hI.room (kv_Terms E hI.1) rfl hl.1 rfl (Nat.le_of_ble_eq_true rfl) d_Red_whnf_56 rfl ?_
      refine lv_istore (lv' := [(5, .int v21), (4, .int (f_Terms_kind v1 α)), (3, .int v3), (2, .int v1), (1, .int (f_Fra_top 1 α)), (0, .ref (kad g 7))]) hx hb d_Red_whnf_59 hl (by decide) rfl (fun ls hl => ?_)
      refine lv_aload_n hx hb d_Red_whnf_61 rfl (lv_at hl 5 rfl) ?_
      refine lv_aload_n hx hb d_Red_whnf_62 rfl (lv_at hl 5 rfl) ?_
      refine kf_Red_terms S E hI.1 vt_135 d_Red_whnf_63 ?_
      refine lv_iconst (v := 1) hx hb d_Red_whnf_66 (by decide) ?_
      refine lv_aload_n hx hb d_Red_whnf_67 rfl (lv_at hl 5 rfl) ?_
      refine kf_Red_terms S E hI.1 vt_135 d_Red_whnf_68 ?_
      refine lv_iload_n hx hb d_Red_whnf_71 rfl (lv_at hl 3 rfl) ?_
      refine kg_p (As := [.int v1]) (rest := [.int 1, .ref (kad g 2), .ref (kad g 7)]) (k_Terms_right (l := l) (g := g) (α := α) v1) S E hI.1 kw_Red_58 ⟨Nat.le_of_ble_eq_true rfl, Nat.le_of_ble_eq_true rfl⟩ hI.room (kv_Terms E hI.1) rfl hl.1 rfl (Nat.le_of_ble_eq_true rfl) d_Red_whnf_72 rfl ?_
      refine lv_iload hx hb d_Red_whnf_75 (lv_at hl 0 rfl) ?_
      refine kg_cI (As := [.int 1, .int (f_Terms_right v1 α), .int v21]) (rest := [.ref (kad g 7)]) h (k_Terms_rewrite (l := l) (g := g) (α := α) hfl N 1 (f_Terms_right v1 α) v21) S hlocks hno E hI kw_Red_61 ⟨Nat.le_of_ble_eq_true rfl, Nat.le_of_ble_eq_true rfl⟩ (kv_Terms E hI.1) rfl hl.1 rfl (Nat.le_of_ble_eq_true rfl) d_Red_whnf_77 (fun v25 α23 ad H locs cells slots e24 h hRm hI => ?_)
      refine lv_iload_n hx hb d_Red_whnf_80 rfl (lv_at hl 2 rfl) ?_
      refine lv_iconst (v := 1) hx hb d_Red_whnf_81 (by decide) ?_
      refine lv_isub hx hb d_Red_whnf_82 ?_
      refine kg_cV (As := [.int v25, .int (v3 - 1)]) (rest := []) h (k_Red_step (l := l) (g := g) (α := α23) hfl N v25 (v3 - 1)) S hlocks hno E hI kw_Red_65 ⟨Nat.le_of_ble_eq_true rfl, Nat.le_of_ble_eq_true rfl⟩ (kv_Red E hI.1) rfl hl.1 rfl (Nat.le_of_ble_eq_true rfl) d_Red_whnf_83 (fun α26 ad H locs cells slots e27 h hRm hI => ?_)
      refine lv_goto (tgt := 244) hx hb d_Red_whnf_86 (by decide) ?_
      exact kc_vret hx hb hr hlocks E hI h d_Red_whnf_244
theorem kw_Red_124 : kWv "FamilyKernel$Reducer" 124 "FamilyKernel$Frames" y_Fra_result b_Fra_result 1 (some .int) 0 := ⟨vt_883, vt_884, vt_885, vt_47, vt_886, by decide, by decide, by decide +kernel⟩
def f_Red_whnfMajor_198 (N : Nat)  : Nat → Int32 → Int32 → Int32 → Int32 → Int32 → Int32 → kS → Option (kO × kS)
  | 0, _, _, _, _, _, _, _ => none
  | n + 1, x11, x10, x7, x6, x3, x2, β => if x11 < 0 then (kBi (f_Red_giveLast N x2 x7 β) fun v19 α17 => (((f_Terms_behind N x10 α17)).bind fun v20 => (kBi (f_Red_giveLast N x10 v20 α17) fun v24 α22 => (kBi (f_Terms_rewrite N 5 (f_Env_fact x6 10 (f_Fra_set 0 1 α22)) (f_Terms_right x3 (f_Fra_set 0 1 α22)) (f_Fra_set 0 1 α22)) fun v27 α25 => (kBv (f_Red_applyGiven N v27 α25) fun α28 => (some (some none, α28))))))) else (f_Red_whnfMajor_198 N n (x11 + (-1)) (f_Terms_left x10 β) x7 x6 x3 x2 β)
def f_Red_whnfMajor (N : Nat)  (α : kS) : Option (kO × kS) := ((f_Terms_head N (f_Fra_top 1 α) α)).bind fun v1 => (((f_Terms_head N (f_Fra_result α) α)).bind fun v3 => (if (f_Terms_kind v3 α) = 3 then (if (f_Env_fact (f_Terms_left v3 α) 0 α) = 4 then (if (f_Env_fact (f_Terms_left v3 α) 8 α) = (f_Terms_left v1 α) then (((f_Terms_behind N (f_Fra_result α) α)).bind fun v8 => (if v8 = ((f_Env_fact (f_Terms_left v1 α) 3 α) + (f_Env_fact (f_Terms_left v3 α) 6 α)) then (((f_Terms_behind N (f_Fra_top 1 α) α)).bind fun v11 => (kBi (f_Red_giveLast N (f_Fra_top 1 α) ((v11 - 1) - (f_Red_majorPlace (f_Terms_left v1 α) α)) (fR_cut α 14 0)) fun v15 α13 => (f_Red_whnfMajor_198 N N (f_Env_fact (f_Terms_left v1 α) 4 α13) v15 (f_Env_fact (f_Terms_left v3 α) 6 α) (f_Terms_left v3 α) v1 (f_Fra_result α) α13))) else (some (some none, (f_Fra_give (f_Fra_top 1 α) α))))) else (some (some none, (f_Fra_give (f_Fra_top 1 α) α)))) else (some (some none, (f_Fra_give (f_Fra_top 1 α) α)))) else (some (some none, (f_Fra_give (f_Fra_top 1 α) α)))))
set_option maxHeartbeats 4000000 in
set_option maxRecDepth 100000 in
theorem k_Red_whnfMajor {l : Launch} {g : kG} {α : kS} (hfl : kFl l) (N : Nat)   : ∀ x, f_Red_whnfMajor N α = some x → kC l g y_Red_whnfMajor b_Red_whnfMajor 12 none 32 949 [.ref (kad g 7)] α (kQr x) := by
  intro x h
  unfold f_Red_whnfMajor at h
  refine kc_ofW (by decide) (fun A ad0 p e s m args below meth c S hr hlocks hno hadm hargs E hI => ?_)
  have hx := S.1
  have hb := S.2.1
  have hown := S.2.2.2.1
  have hT := S.2.2.2.2
  subst hargs
  have hl := lv_entry ([.ref (kad g 7)]) (n := 12) (Nat.le_of_ble_eq_true rfl)
  rw [lg_entry_eq]
  generalize (lg_sl ([.ref (kad g 7)]) ++ List.replicate (12 - (lg_sl ([.ref (kad g 7)])).length) Slot.unset).toArray = ls at hl ⊢
  have hl : lv_has ls 12 [(0, .ref (kad g 7))] := hl
  refine lv_aload_n hx hb d_Red_whnfMajor_0 rfl (lv_at hl 0 rfl) ?_
  refine kf_Red_frames S E hI.1 vt_133 d_Red_whnfMajor_1 ?_
  refine lv_iconst (v := 1) hx hb d_Red_whnfMajor_4 (by decide) ?_
  refine kg_p (As := [.int 1]) (rest := []) (k_Fra_top (l := l) (g := g) (α := α) 1) S E hI.1 kw_Red_39 ⟨Nat.le_of_ble_eq_true rfl, Nat.le_of_ble_eq_true rfl⟩ hI.room (kv_Fra E hI.1) rfl hl.1 rfl (Nat.le_of_ble_eq_true rfl) d_Red_whnfMajor_5 rfl ?_
  refine lv_istore_n (lv' := [(1, .int (f_Fra_top 1 α)), (0, .ref (kad g 7))]) hx hb d_Red_whnfMajor_8 rfl hl (by decide) rfl (fun ls hl => ?_)
  refine lv_aload_n hx hb d_Red_whnfMajor_9 rfl (lv_at hl 1 rfl) ?_
  refine kf_Red_frames S E hI.1 vt_133 d_Red_whnfMajor_10 ?_
  refine kg_p (As := []) (rest := []) (k_Fra_result (l := l) (g := g) (α := α) ) S E hI.1 kw_Red_124 ⟨Nat.le_of_ble_eq_true rfl, Nat.le_of_ble_eq_true rfl⟩ hI.room (kv_Fra E hI.1) rfl hl.1 rfl (Nat.le_of_ble_eq_true rfl) d_Red_whnfMajor_13 rfl ?_
  refine lv_istore_n (lv' := [(2, .int (f_Fra_result α)), (1, .int (f_Fra_top 1 α)), (0, .ref (kad g 7))]) hx hb d_Red_whnfMajor_16 rfl hl (by decide) rfl (fun ls hl => ?_)
  refine lv_aload_n hx hb d_Red_whnfMajor_17 rfl (lv_at hl 2 rfl) ?_
  refine kf_Red_terms S E hI.1 vt_135 d_Red_whnfMajor_18 ?_
  refine lv_iload_n hx hb d_Red_whnfMajor_21 rfl (lv_at hl 1 rfl) ?_
  obtain ⟨v1, e2, h⟩ := Option.bind_eq_some_iff.mp h
  refine kg_p (As := [.int (f_Fra_top 1 α)]) (rest := []) ((k_Terms_head (l := l) (g := g) (α := α) N (f_Fra_top 1 α)) _ e2) S E hI.1 kw_Red_43 ⟨Nat.le_of_ble_eq_true rfl, Nat.le_of_ble_eq_true rfl⟩ hI.room (kv_Terms E hI.1) rfl hl.1 rfl (Nat.le_of_ble_eq_true rfl) d_Red_whnfMajor_22 rfl ?_
  refine lv_istore_n (lv' := [(3, .int v1), (2, .int (f_Fra_result α)), (1, .int (f_Fra_top 1 α)), (0, .ref (kad g 7))]) hx hb d_Red_whnfMajor_25 rfl hl (by decide) rfl (fun ls hl => ?_)
  refine lv_aload_n hx hb d_Red_whnfMajor_26 rfl (lv_at hl 3 rfl) ?_
  refine kf_Red_terms S E hI.1 vt_135 d_Red_whnfMajor_27 ?_
  refine lv_iload_n hx hb d_Red_whnfMajor_30 rfl (lv_at hl 0 rfl) ?_
  refine kg_p (As := [.int v1]) (rest := []) (k_Terms_left (l := l) (g := g) (α := α) v1) S E hI.1 kw_Red_68 ⟨Nat.le_of_ble_eq_true rfl, Nat.le_of_ble_eq_true rfl⟩ hI.room (kv_Terms E hI.1) rfl hl.1 rfl (Nat.le_of_ble_eq_true rfl) d_Red_whnfMajor_31 rfl ?_
  refine lv_istore (lv' := [(4, .int (f_Terms_left v1 α)), (3, .int v1), (2, .int (f_Fra_result α)), (1, .int (f_Fra_top 1 α)), (0, .ref (kad g 7))]) hx hb d_Red_whnfMajor_34 hl (by decide) rfl (fun ls hl => ?_)
  refine lv_aload_n hx hb d_Red_whnfMajor_36 rfl (lv_at hl 4 rfl) ?_
  refine kf_Red_terms S E hI.1 vt_135 d_Red_whnfMajor_37 ?_
  refine lv_iload_n hx hb d_Red_whnfMajor_40 rfl (lv_at hl 2 rfl) ?_
  obtain ⟨v3, e4, h⟩ := Option.bind_eq_some_iff.mp h
  refine kg_p (As := [.int (f_Fra_result α)]) (rest := []) ((k_Terms_head (l := l) (g := g) (α := α) N (f_Fra_result α)) _ e4) S E hI.1 kw_Red_43 ⟨Nat.le_of_ble_eq_true rfl, Nat.le_of_ble_eq_true rfl⟩ hI.room (kv_Terms E hI.1) rfl hl.1 rfl (Nat.le_of_ble_eq_true rfl) d_Red_whnfMajor_41 rfl ?_
  refine lv_istore (lv' := [(5, .int v3), (4, .int (f_Terms_left v1 α)), (3, .int v1), (2, .int (f_Fra_result α)), (1, .int (f_Fra_top 1 α)), (0, .ref (kad g 7))]) hx hb d_Red_whnfMajor_44 hl (by decide) rfl (fun ls hl => ?_)
  refine lv_aload_n hx hb d_Red_whnfMajor_46 rfl (lv_at hl 5 rfl) ?_
  refine kf_Red_terms S E hI.1 vt_135 d_Red_whnfMajor_47 ?_
  refine lv_iload hx hb d_Red_whnfMajor_50 (lv_at hl 0 rfl) ?_
  refine kg_p (As := [.int v3]) (rest := []) (k_Terms_left (l := l) (g := g) (α := α) v3) S E hI.1 kw_Red_68 ⟨Nat.le_of_ble_eq_true rfl, Nat.le_of_ble_eq_true rfl⟩ hI.room (kv_Terms E hI.1) rfl hl.1 rfl (Nat.le_of_ble_eq_true rfl) d_Red_whnfMajor_52 rfl ?_
  refine lv_istore (lv' := [(6, .int (f_Terms_left v3 α)), (5, .int v3), (4, .int (f_Terms_left v1 α)), (3, .int v1), (2, .int (f_Fra_result α)), (1, .int (f_Fra_top 1 α)), (0, .ref (kad g 7))]) hx hb d_Red_whnfMajor_55 hl (by decide) rfl (fun ls hl => ?_)
  refine lv_aload_n hx hb d_Red_whnfMajor_57 rfl (lv_at hl 6 rfl) ?_
  refine kf_Red_environment S E hI.1 vt_136 d_Red_whnfMajor_58 ?_
  refine lv_iload hx hb d_Red_whnfMajor_61 (lv_at hl 0 rfl) ?_
  refine lv_bipush (v := 6) hx hb d_Red_whnfMajor_63 (by decide) ?_
  refine kg_p (As := [.int (f_Terms_left v3 α), .int 6]) (rest := []) (k_Env_fact (l := l) (g := g) (α := α) (f_Terms_left v3 α) 6) S E hI.1 kw_Red_71 ⟨Nat.le_of_ble_eq_true rfl, Nat.le_of_ble_eq_true rfl⟩ hI.room (kv_Env E hI.1) rfl hl.1 rfl (Nat.le_of_ble_eq_true rfl) d_Red_whnfMajor_65 rfl ?_
  refine lv_istore (lv' := [(7, .int (f_Env_fact (f_Terms_left v3 α) 6 α)), (6, .int (f_Terms_left v3 α)), (5, .int v3), (4, .int (f_Terms_left v1 α)), (3, .int v1), (2, .int (f_Fra_result α)), (1, .int (f_Fra_top 1 α)), (0, .ref (kad g 7))]) hx hb d_Red_whnfMajor_68 hl (by decide) rfl (fun ls hl => ?_)
  refine lv_aload_n hx hb d_Red_whnfMajor_70 rfl (lv_at hl 7 rfl) ?_
  refine kf_Red_environment S E hI.1 vt_136 d_Red_whnfMajor_71 ?_
  refine lv_iload hx hb d_Red_whnfMajor_74 (lv_at hl 3 rfl) ?_
  refine lv_iconst (v := 3) hx hb d_Red_whnfMajor_76 (by decide) ?_
  refine kg_p (As := [.int (f_Terms_left v1 α), .int 3]) (rest := []) (k_Env_fact (l := l) (g := g) (α := α) (f_Terms_left v1 α) 3) S E hI.1 kw_Red_71 ⟨Nat.le_of_ble_eq_true rfl, Nat.le_of_ble_eq_true rfl⟩ hI.room (kv_Env E hI.1) rfl hl.1 rfl (Nat.le_of_ble_eq_true rfl) d_Red_whnfMajor_77 rfl ?_
  refine lv_istore (lv' := [(8, .int (f_Env_fact (f_Terms_left v1 α) 3 α)), (7, .int (f_Env_fact (f_Terms_left v3 α) 6 α)), (6, .int (f_Terms_left v3 α)), (5, .int v3), (4, .int (f_Terms_left v1 α)), (3, .int v1), (2, .int (f_Fra_result α)), (1, .int (f_Fra_top 1 α)), (0, .ref (kad g 7))]) hx hb d_Red_whnfMajor_80 hl (by decide) rfl (fun ls hl => ?_)
  refine lv_aload_n hx hb d_Red_whnfMajor_82 rfl (lv_at hl 8 rfl) ?_
  refine kf_Red_terms S E hI.1 vt_135 d_Red_whnfMajor_83 ?_
  refine lv_iload hx hb d_Red_whnfMajor_86 (lv_at hl 3 rfl) ?_
  refine kg_p (As := [.int v3]) (rest := []) (k_Terms_kind (l := l) (g := g) (α := α) v3) S E hI.1 kw_Red_51 ⟨Nat.le_of_ble_eq_true rfl, Nat.le_of_ble_eq_true rfl⟩ hI.room (kv_Terms E hI.1) rfl hl.1 rfl (Nat.le_of_ble_eq_true rfl) d_Red_whnfMajor_88 rfl ?_
  refine lv_iconst (v := 3) hx hb d_Red_whnfMajor_91 (by decide) ?_
  refine lv_icmp_ne (tgt := 141) hx hb d_Red_whnfMajor_92 (by decide) (fun c5 => ?_) (fun c5 => ?_)
  · replace h := Eq.trans (if_neg c5).symm h
    refine lv_aload_n hx hb d_Red_whnfMajor_141 rfl (lv_at hl 8 rfl) ?_
    refine kf_Red_frames S E hI.1 vt_133 d_Red_whnfMajor_142 ?_
    refine lv_iload_n hx hb d_Red_whnfMajor_145 rfl (lv_at hl 7 rfl) ?_
    refine kg_tV (As := [.int (f_Fra_top 1 α)]) (rest := []) (k_Fra_give (l := l) (g := g) (α := α) (f_Fra_top 1 α)) S hlocks hno E hI kw_Red_82 ⟨Nat.le_of_ble_eq_true rfl, Nat.le_of_ble_eq_true rfl⟩ (kv_Fra E hI.1) rfl hl.1 rfl (Nat.le_of_ble_eq_true rfl) d_Red_whnfMajor_146 (fun ad H locs cells slots hRm hI => ?_)
    exact kc_vret hx hb hr hlocks E hI h d_Red_whnfMajor_149
  · replace h := Eq.trans (if_pos c5).symm h
    refine lv_aload_n hx hb d_Red_whnfMajor_95 rfl (lv_at hl 8 rfl) ?_
    refine kf_Red_environment S E hI.1 vt_136 d_Red_whnfMajor_96 ?_
    refine lv_iload hx hb d_Red_whnfMajor_99 (lv_at hl 2 rfl) ?_
    refine lv_iconst (v := 0) hx hb d_Red_whnfMajor_101 (by decide) ?_
    refine kg_p (As := [.int (f_Terms_left v3 α), .int 0]) (rest := []) (k_Env_fact (l := l) (g := g) (α := α) (f_Terms_left v3 α) 0) S E hI.1 kw_Red_71 ⟨Nat.le_of_ble_eq_true rfl, Nat.le_of_ble_eq_true rfl⟩ hI.room (kv_Env E hI.1) rfl hl.1 rfl (Nat.le_of_ble_eq_true rfl) d_Red_whnfMajor_102 rfl ?_
    refine lv_iconst (v := 4) hx hb d_Red_whnfMajor_105 (by decide) ?_
    refine lv_icmp_ne (tgt := 141) hx hb d_Red_whnfMajor_106 (by decide) (fun c6 => ?_) (fun c6 => ?_)
    · replace h := Eq.trans (if_neg c6).symm h
      refine lv_aload_n hx hb d_Red_whnfMajor_141 rfl (lv_at hl 8 rfl) ?_
      refine kf_Red_frames S E hI.1 vt_133 d_Red_whnfMajor_142 ?_
      refine lv_iload_n hx hb d_Red_whnfMajor_145 rfl (lv_at hl 7 rfl) ?_
      refine kg_tV (As := [.int (f_Fra_top 1 α)]) (rest := []) (k_Fra_give (l := l) (g := g) (α := α) (f_Fra_top 1 α)) S hlocks hno E hI kw_Red_82 ⟨Nat.le_of_ble_eq_true rfl, Nat.le_of_ble_eq_true rfl⟩ (kv_Fra E hI.1) rfl hl.1 rfl (Nat.le_of_ble_eq_true rfl) d_Red_whnfMajor_146 (fun ad H locs cells slots hRm hI => ?_)
      exact kc_vret hx hb hr hlocks E hI h d_Red_whnfMajor_149
    · replace h := Eq.trans (if_pos c6).symm h
      refine lv_aload_n hx hb d_Red_whnfMajor_109 rfl (lv_at hl 8 rfl) ?_
      refine kf_Red_environment S E hI.1 vt_136 d_Red_whnfMajor_110 ?_
      refine lv_iload hx hb d_Red_whnfMajor_113 (lv_at hl 2 rfl) ?_
      refine lv_bipush (v := 8) hx hb d_Red_whnfMajor_115 (by decide) ?_
      refine kg_p (As := [.int (f_Terms_left v3 α), .int 8]) (rest := []) (k_Env_fact (l := l) (g := g) (α := α) (f_Terms_left v3 α) 8) S E hI.1 kw_Red_71 ⟨Nat.le_of_ble_eq_true rfl, Nat.le_of_ble_eq_true rfl⟩ hI.room (kv_Env E hI.1) rfl hl.1 rfl (Nat.le_of_ble_eq_true rfl) d_Red_whnfMajor_117 rfl ?_
      refine lv_iload hx hb d_Red_whnfMajor_120 (lv_at hl 4 rfl) ?_
      refine lv_icmp_ne (tgt := 141) hx hb d_Red_whnfMajor_122 (by decide) (fun c7 => ?_) (fun c7 => ?_)
      · replace h := Eq.trans (if_neg c7).symm h
        refine lv_aload_n hx hb d_Red_whnfMajor_141 rfl (lv_at hl 8 rfl) ?_
        refine kf_Red_frames S E hI.1 vt_133 d_Red_whnfMajor_142 ?_
        refine lv_iload_n hx hb d_Red_whnfMajor_145 rfl (lv_at hl 7 rfl) ?_
        refine kg_tV (As := [.int (f_Fra_top 1 α)]) (rest := []) (k_Fra_give (l := l) (g := g) (α := α) (f_Fra_top 1 α)) S hlocks hno E hI kw_Red_82 ⟨Nat.le_of_ble_eq_true rfl, Nat.le_of_ble_eq_true rfl⟩ (kv_Fra E hI.1) rfl hl.1 rfl (Nat.le_of_ble_eq_true rfl) d_Red_whnfMajor_146 (fun ad H locs cells slots hRm hI => ?_)
        exact kc_vret hx hb hr hlocks E hI h d_Red_whnfMajor_149
      · replace h := Eq.trans (if_pos c7).symm h
        refine lv_aload_n hx hb d_Red_whnfMajor_125 rfl (lv_at hl 8 rfl) ?_
        refine kf_Red_terms S E hI.1 vt_135 d_Red_whnfMajor_126 ?_
        refine lv_iload_n hx hb d_Red_whnfMajor_129 rfl (lv_at hl 6 rfl) ?_
        obtain ⟨v8, e9, h⟩ := Option.bind_eq_some_iff.mp h
        refine kg_p (As := [.int (f_Fra_result α)]) (rest := []) ((k_Terms_behind (l := l) (g := g) (α := α) N (f_Fra_result α)) _ e9) S E hI.1 kw_Red_48 ⟨Nat.le_of_ble_eq_true rfl, Nat.le_of_ble_eq_true rfl⟩ hI.room (kv_Terms E hI.1) rfl hl.1 rfl (Nat.le_of_ble_eq_true rfl) d_Red_whnfMajor_130 rfl ?_
        refine lv_iload hx hb d_Red_whnfMajor_133 (lv_at hl 0 rfl) ?_
        refine lv_iload hx hb d_Red_whnfMajor_135 (lv_at hl 1 rfl) ?_
        refine lv_iadd hx hb d_Red_whnfMajor_137 ?_
        refine lv_icmp_eq (tgt := 150) hx hb d_Red_whnfMajor_138 (by decide) (fun c10 => ?_) (fun c10 => ?_)
        · replace h := Eq.trans (if_pos c10).symm h
          refine lv_aload_n hx hb d_Red_whnfMajor_150 rfl (lv_at hl 8 rfl) ?_
          refine kf_Red_terms S E hI.1 vt_135 d_Red_whnfMajor_151 ?_
          refine lv_iload_n hx hb d_Red_whnfMajor_154 rfl (lv_at hl 7 rfl) ?_
          obtain ⟨v11, e12, h⟩ := Option.bind_eq_some_iff.mp h
          refine kg_p (As := [.int (f_Fra_top 1 α)]) (rest := []) ((k_Terms_behind (l := l) (g := g) (α := α) N (f_Fra_top 1 α)) _ e12) S E hI.1 kw_Red_48 ⟨Nat.le_of_ble_eq_true rfl, Nat.le_of_ble_eq_true rfl⟩ hI.room (kv_Terms E hI.1) rfl hl.1 rfl (Nat.le_of_ble_eq_true rfl) d_Red_whnfMajor_155 rfl ?_
          refine lv_iconst (v := 1) hx hb d_Red_whnfMajor_158 (by decide) ?_
          refine lv_isub hx hb d_Red_whnfMajor_159 ?_
          refine lv_aload_n hx hb d_Red_whnfMajor_160 rfl (lv_at hl 8 rfl) ?_
          refine lv_iload hx hb d_Red_whnfMajor_161 (lv_at hl 4 rfl) ?_
          refine kg_p (As := [.int (f_Terms_left v1 α)]) (rest := [.int (v11 - 1)]) (k_Red_majorPlace (l := l) (g := g) (α := α) (f_Terms_left v1 α)) S E hI.1 kw_Red_76 ⟨Nat.le_of_ble_eq_true rfl, Nat.le_of_ble_eq_true rfl⟩ hI.room (kv_Red E hI.1) rfl hl.1 rfl (Nat.le_of_ble_eq_true rfl) d_Red_whnfMajor_163 rfl ?_
          refine lv_isub hx hb d_Red_whnfMajor_166 ?_
          refine lv_istore (lv' := [(9, .int ((v11 - 1) - (f_Red_majorPlace (f_Terms_left v1 α) α))), (8, .int (f_Env_fact (f_Terms_left v1 α) 3 α)), (7, .int (f_Env_fact (f_Terms_left v3 α) 6 α)), (6, .int (f_Terms_left v3 α)), (5, .int v3), (4, .int (f_Terms_left v1 α)), (3, .int v1), (2, .int (f_Fra_result α)), (1, .int (f_Fra_top 1 α)), (0, .ref (kad g 7))]) hx hb d_Red_whnfMajor_167 hl (by decide) rfl (fun ls hl => ?_)
          refine lv_aload_n hx hb d_Red_whnfMajor_169 rfl (lv_at hl 9 rfl) ?_
          refine kf_Red_given S E hI.1 vt_140 d_Red_whnfMajor_170 ?_
          refine lv_iconst (v := 0) hx hb d_Red_whnfMajor_173 (by decide) ?_
          refine kg_tV (As := [.int 0]) (rest := []) (k_Row_cut (l := l) (g := g) (α := α) (r := 14) (by decide) 0) S hlocks hno E hI kw_Red_98 ⟨Nat.le_of_ble_eq_true rfl, Nat.le_of_ble_eq_true rfl⟩ (kv_Row (r := 14) (by decide) E hI.1) rfl hl.1 rfl (Nat.le_of_ble_eq_true rfl) d_Red_whnfMajor_174 (fun ad H locs cells slots hRm hI => ?_)
          refine lv_aload_n hx hb d_Red_whnfMajor_177 rfl (lv_at hl 9 rfl) ?_
          refine lv_iload_n hx hb d_Red_whnfMajor_178 rfl (lv_at hl 8 rfl) ?_
          refine lv_iload hx hb d_Red_whnfMajor_179 (lv_at hl 0 rfl) ?_
          refine kg_cI (As := [.int (f_Fra_top 1 α), .int ((v11 - 1) - (f_Red_majorPlace (f_Terms_left v1 α) α))]) (rest := []) h (k_Red_giveLast (l := l) (g := g) (α := (fR_cut α 14 0)) hfl N (f_Fra_top 1 α) ((v11 - 1) - (f_Red_majorPlace (f_Terms_left v1 α) α))) S hlocks hno E hI kw_Red_101 ⟨Nat.le_of_ble_eq_true rfl, Nat.le_of_ble_eq_true rfl⟩ (kv_Red E hI.1) rfl hl.1 rfl (Nat.le_of_ble_eq_true rfl) d_Red_whnfMajor_181 (fun v15 α13 ad H locs cells slots e14 h hRm hI => ?_)
          refine lv_istore (lv' := [(10, .int v15), (9, .int ((v11 - 1) - (f_Red_majorPlace (f_Terms_left v1 α) α))), (8, .int (f_Env_fact (f_Terms_left v1 α) 3 α)), (7, .int (f_Env_fact (f_Terms_left v3 α) 6 α)), (6, .int (f_Terms_left v3 α)), (5, .int v3), (4, .int (f_Terms_left v1 α)), (3, .int v1), (2, .int (f_Fra_result α)), (1, .int (f_Fra_top 1 α)), (0, .ref (kad g 7))]) hx hb d_Red_whnfMajor_184 hl (by decide) rfl (fun ls hl => ?_)
          refine lv_aload_n hx hb d_Red_whnfMajor_186 rfl (lv_at hl 10 rfl) ?_
          refine kf_Red_environment S E hI.1 vt_136 d_Red_whnfMajor_187 ?_
          refine lv_iload hx hb d_Red_whnfMajor_190 (lv_at hl 6 rfl) ?_
          refine lv_iconst (v := 4) hx hb d_Red_whnfMajor_192 (by decide) ?_
          refine kg_p (As := [.int (f_Terms_left v1 α), .int 4]) (rest := []) (k_Env_fact (l := l) (g := g) (α := α13) (f_Terms_left v1 α) 4) S E hI.1 kw_Red_71 ⟨Nat.le_of_ble_eq_true rfl, Nat.le_of_ble_eq_true rfl⟩ hI.room (kv_Env E hI.1) rfl hl.1 rfl (Nat.le_of_ble_eq_true rfl) d_Red_whnfMajor_193 rfl ?_
          refine lv_istore (lv' := [(11, .int (f_Env_fact (f_Terms_left v1 α) 4 α13)), (10, .int v15), (9, .int ((v11 - 1) - (f_Red_majorPlace (f_Terms_left v1 α) α))), (8, .int (f_Env_fact (f_Terms_left v1 α) 3 α)), (7, .int (f_Env_fact (f_Terms_left v3 α) 6 α)), (6, .int (f_Terms_left v3 α)), (5, .int v3), (4, .int (f_Terms_left v1 α)), (3, .int v1), (2, .int (f_Fra_result α)), (1, .int (f_Fra_top 1 α)), (0, .ref (kad g 7))]) hx hb d_Red_whnfMajor_196 hl (by decide) rfl (fun ls hl => ?_)
          have L198 : ∀ (n198 : Nat) (x11 : Int32) (x10 : Int32) (x7 : Int32) (x6 : Int32) (x3 : Int32) (x2 : Int32) (β : kS) (ad : Nat → Nat) (H : Heap) (locs : List Loc) (cells slots : Nat) (ls : Array Slot), f_Red_whnfMajor_198 N n198 x11 x10 x7 x6 x3 x2 β = some x → kI g A s α ad0 β ad H locs cells slots → lv_has ls 12 [(11, .int x11), (10, .int x10), (7, .int x7), (6, .int x6), (3, .int x3), (2, .int x2), (0, .ref (kad g 7))] → W p l e (kR 32 949 α) s m ([.ref (kad g 7)]).toArray below meth c H locs cells slots (vEQ below (kQ g A α ad0 (kQr x)) ([.ref (kad g 7)]).toArray s A) (F0 m 198 ls []) := by
            intro n198
            induction n198 with
            | zero => intro x11 x10 x7 x6 x3 x2 β ad H locs cells slots ls h hI hl; rw [f_Red_whnfMajor_198] at h; cases h
            | succ n198 ih198 =>
              intro x11 x10 x7 x6 x3 x2 β ad H locs cells slots ls h hI hl
              rw [f_Red_whnfMajor_198] at h
              refine lv_iload hx hb d_Red_whnfMajor_198 (lv_at hl 0 rfl) ?_
              refine lv_if_lt (tgt := 220) hx hb d_Red_whnfMajor_200 (by decide) (fun c16 => ?_) (fun c16 => ?_)
              · replace h := Eq.trans (if_pos c16).symm h
                refine lv_aload_n hx hb d_Red_whnfMajor_220 rfl (lv_at hl 6 rfl) ?_
                refine lv_iload_n hx hb d_Red_whnfMajor_221 rfl (lv_at hl 5 rfl) ?_
                refine lv_iload hx hb d_Red_whnfMajor_222 (lv_at hl 2 rfl) ?_
                refine kg_cI (As := [.int x2, .int x7]) (rest := []) h (k_Red_giveLast (l := l) (g := g) (α := β) hfl N x2 x7) S hlocks hno E hI kw_Red_101 ⟨Nat.le_of_ble_eq_true rfl, Nat.le_of_ble_eq_true rfl⟩ (kv_Red E hI.1) rfl hl.1 rfl (Nat.le_of_ble_eq_true rfl) d_Red_whnfMajor_224 (fun v19 α17 ad H locs cells slots e18 h hRm hI => ?_)
                refine lv_pop hx hb d_Red_whnfMajor_227 rfl ?_
                refine lv_aload_n hx hb d_Red_whnfMajor_228 rfl (lv_at hl 6 rfl) ?_
                refine lv_iload hx hb d_Red_whnfMajor_229 (lv_at hl 1 rfl) ?_
                refine lv_aload_n hx hb d_Red_whnfMajor_231 rfl (lv_at hl 6 rfl) ?_
                refine kf_Red_terms S E hI.1 vt_135 d_Red_whnfMajor_232 ?_
                refine lv_iload hx hb d_Red_whnfMajor_235 (lv_at hl 1 rfl) ?_
                obtain ⟨v20, e21, h⟩ := Option.bind_eq_some_iff.mp h
                refine kg_p (As := [.int x10]) (rest := [.int x10, .ref (kad g 7)]) ((k_Terms_behind (l := l) (g := g) (α := α17) N x10) _ e21) S E hI.1 kw_Red_48 ⟨Nat.le_of_ble_eq_true rfl, Nat.le_of_ble_eq_true rfl⟩ hI.room (kv_Terms E hI.1) rfl hl.1 rfl (Nat.le_of_ble_eq_true rfl) d_Red_whnfMajor_237 rfl ?_
                refine kg_cI (As := [.int x10, .int v20]) (rest := []) h (k_Red_giveLast (l := l) (g := g) (α := α17) hfl N x10 v20) S hlocks hno E hI kw_Red_101 ⟨Nat.le_of_ble_eq_true rfl, Nat.le_of_ble_eq_true rfl⟩ (kv_Red E hI.1) rfl hl.1 rfl (Nat.le_of_ble_eq_true rfl) d_Red_whnfMajor_240 (fun v24 α22 ad H locs cells slots e23 h hRm hI => ?_)
                refine lv_pop hx hb d_Red_whnfMajor_243 rfl ?_
                refine lv_aload_n hx hb d_Red_whnfMajor_244 rfl (lv_at hl 6 rfl) ?_
                refine kf_Red_frames S E hI.1 vt_133 d_Red_whnfMajor_245 ?_
                refine lv_iconst (v := 0) hx hb d_Red_whnfMajor_248 (by decide) ?_
                refine lv_iconst (v := 1) hx hb d_Red_whnfMajor_249 (by decide) ?_
                refine kg_tV (As := [.int 0, .int 1]) (rest := []) (k_Fra_set (l := l) (g := g) (α := α22) 0 1) S hlocks hno E hI kw_Red_91 ⟨Nat.le_of_ble_eq_true rfl, Nat.le_of_ble_eq_true rfl⟩ (kv_Fra E hI.1) rfl hl.1 rfl (Nat.le_of_ble_eq_true rfl) d_Red_whnfMajor_250 (fun ad H locs cells slots hRm hI => ?_)
                refine lv_aload_n hx hb d_Red_whnfMajor_253 rfl (lv_at hl 6 rfl) ?_
                refine kf_Red_environment S E hI.1 vt_136 d_Red_whnfMajor_254 ?_
                refine lv_iload hx hb d_Red_whnfMajor_257 (lv_at hl 3 rfl) ?_
                refine lv_bipush (v := 10) hx hb d_Red_whnfMajor_259 (by decide) ?_
                refine kg_p (As := [.int x6, .int 10]) (rest := []) (k_Env_fact (l := l) (g := g) (α := (f_Fra_set 0 1 α22)) x6 10) S E hI.1 kw_Red_71 ⟨Nat.le_of_ble_eq_true rfl, Nat.le_of_ble_eq_true rfl⟩ hI.room (kv_Env E hI.1) rfl hl.1 rfl (Nat.le_of_ble_eq_true rfl) d_Red_whnfMajor_261 rfl ?_
                refine lv_istore (lv' := [(11, .int (f_Env_fact x6 10 (f_Fra_set 0 1 α22))), (10, .int x10), (7, .int x7), (6, .int x6), (3, .int x3), (2, .int x2), (0, .ref (kad g 7))]) hx hb d_Red_whnfMajor_264 hl (by decide) rfl (fun ls hl => ?_)
                refine lv_aload_n hx hb d_Red_whnfMajor_266 rfl (lv_at hl 6 rfl) ?_
                refine lv_aload_n hx hb d_Red_whnfMajor_267 rfl (lv_at hl 6 rfl) ?_
                refine kf_Red_terms S E hI.1 vt_135 d_Red_whnfMajor_268 ?_
                refine lv_iconst (v := 5) hx hb d_Red_whnfMajor_271 (by decide) ?_
                refine lv_iload hx hb d_Red_whnfMajor_272 (lv_at hl 0 rfl) ?_
                refine lv_aload_n hx hb d_Red_whnfMajor_274 rfl (lv_at hl 6 rfl) ?_
                refine kf_Red_terms S E hI.1 vt_135 d_Red_whnfMajor_275 ?_
                refine lv_iload_n hx hb d_Red_whnfMajor_278 rfl (lv_at hl 4 rfl) ?_
                refine kg_p (As := [.int x3]) (rest := [.int (f_Env_fact x6 10 (f_Fra_set 0 1 α22)), .int 5, .ref (kad g 2), .ref (kad g 7)]) (k_Terms_right (l := l) (g := g) (α := (f_Fra_set 0 1 α22)) x3) S E hI.1 kw_Red_58 ⟨Nat.le_of_ble_eq_true rfl, Nat.le_of_ble_eq_true rfl⟩ hI.room (kv_Terms E hI.1) rfl hl.1 rfl (Nat.le_of_ble_eq_true rfl) d_Red_whnfMajor_279 rfl ?_
                refine kg_cI (As := [.int 5, .int (f_Env_fact x6 10 (f_Fra_set 0 1 α22)), .int (f_Terms_right x3 (f_Fra_set 0 1 α22))]) (rest := [.ref (kad g 7)]) h (k_Terms_rewrite (l := l) (g := g) (α := (f_Fra_set 0 1 α22)) hfl N 5 (f_Env_fact x6 10 (f_Fra_set 0 1 α22)) (f_Terms_right x3 (f_Fra_set 0 1 α22))) S hlocks hno E hI kw_Red_61 ⟨Nat.le_of_ble_eq_true rfl, Nat.le_of_ble_eq_true rfl⟩ (kv_Terms E hI.1) rfl hl.1 rfl (Nat.le_of_ble_eq_true rfl) d_Red_whnfMajor_282 (fun v27 α25 ad H locs cells slots e26 h hRm hI => ?_)
                refine kg_cV (As := [.int v27]) (rest := []) h (k_Red_applyGiven (l := l) (g := g) (α := α25) hfl N v27) S hlocks hno E hI kw_Red_104 ⟨Nat.le_of_ble_eq_true rfl, Nat.le_of_ble_eq_true rfl⟩ (kv_Red E hI.1) rfl hl.1 rfl (Nat.le_of_ble_eq_true rfl) d_Red_whnfMajor_285 (fun α28 ad H locs cells slots e29 h hRm hI => ?_)
                exact kc_vret hx hb hr hlocks E hI h d_Red_whnfMajor_288
              · replace h := Eq.trans (if_neg c16).symm h
                refine lv_aload_n hx hb d_Red_whnfMajor_203 rfl (lv_at hl 6 rfl) ?_
                refine kf_Red_terms S E hI.1 vt_135 d_Red_whnfMajor_204 ?_
                refine lv_iload hx hb d_Red_whnfMajor_207 (lv_at hl 1 rfl) ?_
                refine kg_p (As := [.int x10]) (rest := []) (k_Terms_left (l := l) (g := g) (α := β) x10) S E hI.1 kw_Red_68 ⟨Nat.le_of_ble_eq_true rfl, Nat.le_of_ble_eq_true rfl⟩ hI.room (kv_Terms E hI.1) rfl hl.1 rfl (Nat.le_of_ble_eq_true rfl) d_Red_whnfMajor_209 rfl ?_
                refine lv_istore (lv' := [(10, .int (f_Terms_left x10 β)), (11, .int x11), (7, .int x7), (6, .int x6), (3, .int x3), (2, .int x2), (0, .ref (kad g 7))]) hx hb d_Red_whnfMajor_212 hl (by decide) rfl (fun ls hl => ?_)
                refine lv_iinc (v := (x11 + (-1))) (lv' := [(11, .int (x11 + (-1))), (10, .int (f_Terms_left x10 β)), (7, .int x7), (6, .int x6), (3, .int x3), (2, .int x2), (0, .ref (kad g 7))]) hx hb d_Red_whnfMajor_214 hl (k := 1) rfl rfl (by decide) rfl (fun ls hl => ?_)
                refine lv_goto (tgt := 198) hx hb d_Red_whnfMajor_217 (by decide) ?_
                exact ih198 (x11 + (-1)) (f_Terms_left x10 β) x7 x6 x3 x2 _ _ _ _ _ _ _ h hI (lv_sub hl [0, 1, 2, 3, 4, 5, 6] rfl)
          exact L198 N (f_Env_fact (f_Terms_left v1 α) 4 α13) v15 (f_Env_fact (f_Terms_left v3 α) 6 α) (f_Terms_left v3 α) v1 (f_Fra_result α) _ _ _ _ _ _ _ h hI (lv_sub hl [0, 1, 4, 5, 8, 9, 11] rfl)
        · replace h := Eq.trans (if_neg c10).symm h
          refine lv_aload_n hx hb d_Red_whnfMajor_141 rfl (lv_at hl 8 rfl) ?_
          refine kf_Red_frames S E hI.1 vt_133 d_Red_whnfMajor_142 ?_
          refine lv_iload_n hx hb d_Red_whnfMajor_145 rfl (lv_at hl 7 rfl) ?_
          refine kg_tV (As := [.int (f_Fra_top 1 α)]) (rest := []) (k_Fra_give (l := l) (g := g) (α := α) (f_Fra_top 1 α)) S hlocks hno E hI kw_Red_82 ⟨Nat.le_of_ble_eq_true rfl, Nat.le_of_ble_eq_true rfl⟩ (kv_Fra E hI.1) rfl hl.1 rfl (Nat.le_of_ble_eq_true rfl) d_Red_whnfMajor_146 (fun ad H locs cells slots hRm hI => ?_)
          exact kc_vret hx hb hr hlocks E hI h d_Red_whnfMajor_149
theorem kw_Red_127 : kWv "FamilyKernel$Reducer" 127 "FamilyKernel$Frames" y_Fra_pop b_Fra_pop 1 none 0 := ⟨vt_887, vt_813, vt_814, vt_47, vt_815, by decide, by decide, by decide +kernel⟩
def f_Red_conv_j30 (N : Nat)  (γ : kS) : Option (kO × kS) := if (f_Fra_top 1 γ) = (f_Fra_top 2 γ) then (some (some none, (f_Fra_pop γ))) else (kBv (f_Fra_push N 1 (f_Fra_top 1 (f_Fra_set 0 4 γ)) 0 0 (f_Fra_set 0 4 γ)) fun α5 => (some (some none, α5)))
def f_Red_conv (N : Nat)  (α : kS) : Option (kO × kS) := kBv (f_Meter_charge N 1 α) fun α1 => (if (f_Fra_top 4 α1) ≤ 120 then (f_Red_conv_j30 N  α1) else (kBv (f_Meter_fail N 10 α1) fun α7 => (f_Red_conv_j30 N  α7)))
set_option maxHeartbeats 4000000 in
set_option maxRecDepth 100000 in
theorem k_Red_conv {l : Launch} {g : kG} {α : kS} (hfl : kFl l) (N : Nat)   : ∀ x, f_Red_conv N α = some x → kC l g y_Red_conv b_Red_conv 1 none 32 945 [.ref (kad g 7)] α (kQr x) := by
  intro x h
  unfold f_Red_conv at h
  refine kc_ofW (by decide) (fun A ad0 p e s m args below meth c S hr hlocks hno hadm hargs E hI => ?_)
  have hx := S.1
  have hb := S.2.1
  have hown := S.2.2.2.1
  have hT := S.2.2.2.2
  subst hargs
  have hl := lv_entry ([.ref (kad g 7)]) (n := 1) (Nat.le_of_ble_eq_true rfl)
  rw [lg_entry_eq]
  generalize (lg_sl ([.ref (kad g 7)]) ++ List.replicate (1 - (lg_sl ([.ref (kad g 7)])).length) Slot.unset).toArray = ls at hl ⊢
  have hl : lv_has ls 1 [(0, .ref (kad g 7))] := hl
  have J30 : ∀ (γ : kS) (ad : Nat → Nat) (H : Heap) (locs : List Loc) (cells slots : Nat) (ls : Array Slot), f_Red_conv_j30 N γ = some x → kI g A s α ad0 γ ad H locs cells slots → lv_has ls 1 [(0, .ref (kad g 7))] → W p l e (kR 32 945 α) s m ([.ref (kad g 7)]).toArray below meth c H locs cells slots (vEQ below (kQ g A α ad0 (kQr x)) ([.ref (kad g 7)]).toArray s A) (F0 m 30 ls []) := by
    intro  γ ad H locs cells slots ls h hI hl
    unfold f_Red_conv_j30 at h
    refine lv_aload_n hx hb d_Red_conv_30 rfl (lv_at hl 0 rfl) ?_
    refine kf_Red_frames S E hI.1 vt_133 d_Red_conv_31 ?_
    refine lv_iconst (v := 1) hx hb d_Red_conv_34 (by decide) ?_
    refine kg_p (As := [.int 1]) (rest := []) (k_Fra_top (l := l) (g := g) (α := γ) 1) S E hI.1 kw_Red_39 ⟨Nat.le_of_ble_eq_true rfl, Nat.le_of_ble_eq_true rfl⟩ hI.room (kv_Fra E hI.1) rfl hl.1 rfl (Nat.le_of_ble_eq_true rfl) d_Red_conv_35 rfl ?_
    refine lv_aload_n hx hb d_Red_conv_38 rfl (lv_at hl 0 rfl) ?_
    refine kf_Red_frames S E hI.1 vt_133 d_Red_conv_39 ?_
    refine lv_iconst (v := 2) hx hb d_Red_conv_42 (by decide) ?_
    refine kg_p (As := [.int 2]) (rest := [.int (f_Fra_top 1 γ)]) (k_Fra_top (l := l) (g := g) (α := γ) 2) S E hI.1 kw_Red_39 ⟨Nat.le_of_ble_eq_true rfl, Nat.le_of_ble_eq_true rfl⟩ hI.room (kv_Fra E hI.1) rfl hl.1 rfl (Nat.le_of_ble_eq_true rfl) d_Red_conv_43 rfl ?_
    refine lv_icmp_ne (tgt := 59) hx hb d_Red_conv_46 (by decide) (fun c4 => ?_) (fun c4 => ?_)
    · replace h := Eq.trans (if_neg c4).symm h
      refine lv_aload_n hx hb d_Red_conv_59 rfl (lv_at hl 0 rfl) ?_
      refine kf_Red_frames S E hI.1 vt_133 d_Red_conv_60 ?_
      refine lv_iconst (v := 0) hx hb d_Red_conv_63 (by decide) ?_
      refine lv_iconst (v := 4) hx hb d_Red_conv_64 (by decide) ?_
      refine kg_tV (As := [.int 0, .int 4]) (rest := []) (k_Fra_set (l := l) (g := g) (α := γ) 0 4) S hlocks hno E hI kw_Red_91 ⟨Nat.le_of_ble_eq_true rfl, Nat.le_of_ble_eq_true rfl⟩ (kv_Fra E hI.1) rfl hl.1 rfl (Nat.le_of_ble_eq_true rfl) d_Red_conv_65 (fun ad H locs cells slots hRm hI => ?_)
      refine lv_aload_n hx hb d_Red_conv_68 rfl (lv_at hl 0 rfl) ?_
      refine kf_Red_frames S E hI.1 vt_133 d_Red_conv_69 ?_
      refine lv_iconst (v := 1) hx hb d_Red_conv_72 (by decide) ?_
      refine lv_aload_n hx hb d_Red_conv_73 rfl (lv_at hl 0 rfl) ?_
      refine kf_Red_frames S E hI.1 vt_133 d_Red_conv_74 ?_
      refine lv_iconst (v := 1) hx hb d_Red_conv_77 (by decide) ?_
      refine kg_p (As := [.int 1]) (rest := [.int 1, .ref (kad g 6)]) (k_Fra_top (l := l) (g := g) (α := (f_Fra_set 0 4 γ)) 1) S E hI.1 kw_Red_39 ⟨Nat.le_of_ble_eq_true rfl, Nat.le_of_ble_eq_true rfl⟩ hI.room (kv_Fra E hI.1) rfl hl.1 rfl (Nat.le_of_ble_eq_true rfl) d_Red_conv_78 rfl ?_
      refine lv_iconst (v := 0) hx hb d_Red_conv_81 (by decide) ?_
      refine lv_iconst (v := 0) hx hb d_Red_conv_82 (by decide) ?_
      refine kg_cV (As := [.int 1, .int (f_Fra_top 1 (f_Fra_set 0 4 γ)), .int 0, .int 0]) (rest := []) h (k_Fra_push (l := l) (g := g) (α := (f_Fra_set 0 4 γ)) hfl N 1 (f_Fra_top 1 (f_Fra_set 0 4 γ)) 0 0) S hlocks hno E hI kw_Red_94 ⟨Nat.le_of_ble_eq_true rfl, Nat.le_of_ble_eq_true rfl⟩ (kv_Fra E hI.1) rfl hl.1 rfl (Nat.le_of_ble_eq_true rfl) d_Red_conv_83 (fun α5 ad H locs cells slots e6 h hRm hI => ?_)
      exact kc_vret hx hb hr hlocks E hI h d_Red_conv_86
    · replace h := Eq.trans (if_pos c4).symm h
      refine lv_aload_n hx hb d_Red_conv_49 rfl (lv_at hl 0 rfl) ?_
      refine kf_Red_frames S E hI.1 vt_133 d_Red_conv_50 ?_
      refine kg_tV (As := []) (rest := []) (k_Fra_pop (l := l) (g := g) (α := γ) ) S hlocks hno E hI kw_Red_127 ⟨Nat.le_of_ble_eq_true rfl, Nat.le_of_ble_eq_true rfl⟩ (kv_Fra E hI.1) rfl hl.1 rfl (Nat.le_of_ble_eq_true rfl) d_Red_conv_53 (fun ad H locs cells slots hRm hI => ?_)
      refine lv_goto (tgt := 86) hx hb d_Red_conv_56 (by decide) ?_
      exact kc_vret hx hb hr hlocks E hI h d_Red_conv_86
  refine lv_aload_n hx hb d_Red_conv_0 rfl (lv_at hl 0 rfl) ?_
  refine kf_Red_meter S E hI.1 vt_134 d_Red_conv_1 ?_
  refine lv_iconst (v := 1) hx hb d_Red_conv_4 (by decide) ?_
  refine kg_cV (As := [.int 1]) (rest := []) h (k_Meter_charge (l := l) (g := g) (α := α) hfl N 1) S hlocks hno E hI kw_Red_121 ⟨Nat.le_of_ble_eq_true rfl, Nat.le_of_ble_eq_true rfl⟩ (kv_Meter E hI.1) rfl hl.1 rfl (Nat.le_of_ble_eq_true rfl) d_Red_conv_5 (fun α1 ad H locs cells slots e2 h hRm hI => ?_)
  refine lv_aload_n hx hb d_Red_conv_8 rfl (lv_at hl 0 rfl) ?_
  refine kf_Red_frames S E hI.1 vt_133 d_Red_conv_9 ?_
  refine lv_iconst (v := 4) hx hb d_Red_conv_12 (by decide) ?_
  refine kg_p (As := [.int 4]) (rest := []) (k_Fra_top (l := l) (g := g) (α := α1) 4) S E hI.1 kw_Red_39 ⟨Nat.le_of_ble_eq_true rfl, Nat.le_of_ble_eq_true rfl⟩ hI.room (kv_Fra E hI.1) rfl hl.1 rfl (Nat.le_of_ble_eq_true rfl) d_Red_conv_13 rfl ?_
  refine lv_bipush (v := 120) hx hb d_Red_conv_16 (by decide) ?_
  refine lv_icmp_le (tgt := 30) hx hb d_Red_conv_18 (by decide) (fun c3 => ?_) (fun c3 => ?_)
  · replace h := Eq.trans (if_pos c3).symm h
    exact J30  _ _ _ _ _ _ _ h hI (lv_sub hl [0] rfl)
  · replace h := Eq.trans (if_neg c3).symm h
    refine lv_aload_n hx hb d_Red_conv_21 rfl (lv_at hl 0 rfl) ?_
    refine kf_Red_meter S E hI.1 vt_134 d_Red_conv_22 ?_
    refine lv_bipush (v := 10) hx hb d_Red_conv_25 (by decide) ?_
    refine kg_cV (As := [.int 10]) (rest := []) h (k_Meter_fail (l := l) (g := g) (α := α1) hfl N 10) S hlocks hno E hI kw_Red_86 ⟨Nat.le_of_ble_eq_true rfl, Nat.le_of_ble_eq_true rfl⟩ (kv_Meter E hI.1) rfl hl.1 rfl (Nat.le_of_ble_eq_true rfl) d_Red_conv_27 (fun α7 ad H locs cells slots e8 h hRm hI => ?_)
    exact J30  _ _ _ _ _ _ _ h hI (lv_sub hl [0] rfl)
def f_Red_convLeft (N : Nat)  (α : kS) : Option (kO × kS) := kBv (f_Fra_push N 1 (f_Fra_top 2 (f_Fra_set 0 5 (f_Fra_set 1 (f_Fra_result α) α))) 0 0 (f_Fra_set 0 5 (f_Fra_set 1 (f_Fra_result α) α))) fun α1 => (some (some none, α1))
set_option maxHeartbeats 4000000 in
set_option maxRecDepth 100000 in
theorem k_Red_convLeft {l : Launch} {g : kG} {α : kS} (hfl : kFl l) (N : Nat)   : ∀ x, f_Red_convLeft N α = some x → kC l g y_Red_convLeft b_Red_convLeft 1 none 32 945 [.ref (kad g 7)] α (kQr x) := by
  intro x h
  unfold f_Red_convLeft at h
  refine kc_ofW (by decide) (fun A ad0 p e s m args below meth c S hr hlocks hno hadm hargs E hI => ?_)
  have hx := S.1
  have hb := S.2.1
  have hown := S.2.2.2.1
  have hT := S.2.2.2.2
  subst hargs
  have hl := lv_entry ([.ref (kad g 7)]) (n := 1) (Nat.le_of_ble_eq_true rfl)
  rw [lg_entry_eq]
  generalize (lg_sl ([.ref (kad g 7)]) ++ List.replicate (1 - (lg_sl ([.ref (kad g 7)])).length) Slot.unset).toArray = ls at hl ⊢
  have hl : lv_has ls 1 [(0, .ref (kad g 7))] := hl
  refine lv_aload_n hx hb d_Red_convLeft_0 rfl (lv_at hl 0 rfl) ?_
  refine kf_Red_frames S E hI.1 vt_133 d_Red_convLeft_1 ?_
  refine lv_iconst (v := 1) hx hb d_Red_convLeft_4 (by decide) ?_
  refine lv_aload_n hx hb d_Red_convLeft_5 rfl (lv_at hl 0 rfl) ?_
  refine kf_Red_frames S E hI.1 vt_133 d_Red_convLeft_6 ?_
  refine kg_p (As := []) (rest := [.int 1, .ref (kad g 6)]) (k_Fra_result (l := l) (g := g) (α := α) ) S E hI.1 kw_Red_124 ⟨Nat.le_of_ble_eq_true rfl, Nat.le_of_ble_eq_true rfl⟩ hI.room (kv_Fra E hI.1) rfl hl.1 rfl (Nat.le_of_ble_eq_true rfl) d_Red_convLeft_9 rfl ?_
  refine kg_tV (As := [.int 1, .int (f_Fra_result α)]) (rest := []) (k_Fra_set (l := l) (g := g) (α := α) 1 (f_Fra_result α)) S hlocks hno E hI kw_Red_91 ⟨Nat.le_of_ble_eq_true rfl, Nat.le_of_ble_eq_true rfl⟩ (kv_Fra E hI.1) rfl hl.1 rfl (Nat.le_of_ble_eq_true rfl) d_Red_convLeft_12 (fun ad H locs cells slots hRm hI => ?_)
  refine lv_aload_n hx hb d_Red_convLeft_15 rfl (lv_at hl 0 rfl) ?_
  refine kf_Red_frames S E hI.1 vt_133 d_Red_convLeft_16 ?_
  refine lv_iconst (v := 0) hx hb d_Red_convLeft_19 (by decide) ?_
  refine lv_iconst (v := 5) hx hb d_Red_convLeft_20 (by decide) ?_
  refine kg_tV (As := [.int 0, .int 5]) (rest := []) (k_Fra_set (l := l) (g := g) (α := (f_Fra_set 1 (f_Fra_result α) α)) 0 5) S hlocks hno E hI kw_Red_91 ⟨Nat.le_of_ble_eq_true rfl, Nat.le_of_ble_eq_true rfl⟩ (kv_Fra E hI.1) rfl hl.1 rfl (Nat.le_of_ble_eq_true rfl) d_Red_convLeft_21 (fun ad H locs cells slots hRm hI => ?_)
  refine lv_aload_n hx hb d_Red_convLeft_24 rfl (lv_at hl 0 rfl) ?_
  refine kf_Red_frames S E hI.1 vt_133 d_Red_convLeft_25 ?_
  refine lv_iconst (v := 1) hx hb d_Red_convLeft_28 (by decide) ?_
  refine lv_aload_n hx hb d_Red_convLeft_29 rfl (lv_at hl 0 rfl) ?_
  refine kf_Red_frames S E hI.1 vt_133 d_Red_convLeft_30 ?_
  refine lv_iconst (v := 2) hx hb d_Red_convLeft_33 (by decide) ?_
  refine kg_p (As := [.int 2]) (rest := [.int 1, .ref (kad g 6)]) (k_Fra_top (l := l) (g := g) (α := (f_Fra_set 0 5 (f_Fra_set 1 (f_Fra_result α) α))) 2) S E hI.1 kw_Red_39 ⟨Nat.le_of_ble_eq_true rfl, Nat.le_of_ble_eq_true rfl⟩ hI.room (kv_Fra E hI.1) rfl hl.1 rfl (Nat.le_of_ble_eq_true rfl) d_Red_convLeft_34 rfl ?_
  refine lv_iconst (v := 0) hx hb d_Red_convLeft_37 (by decide) ?_
  refine lv_iconst (v := 0) hx hb d_Red_convLeft_38 (by decide) ?_
  refine kg_cV (As := [.int 1, .int (f_Fra_top 2 (f_Fra_set 0 5 (f_Fra_set 1 (f_Fra_result α) α))), .int 0, .int 0]) (rest := []) h (k_Fra_push (l := l) (g := g) (α := (f_Fra_set 0 5 (f_Fra_set 1 (f_Fra_result α) α))) hfl N 1 (f_Fra_top 2 (f_Fra_set 0 5 (f_Fra_set 1 (f_Fra_result α) α))) 0 0) S hlocks hno E hI kw_Red_94 ⟨Nat.le_of_ble_eq_true rfl, Nat.le_of_ble_eq_true rfl⟩ (kv_Fra E hI.1) rfl hl.1 rfl (Nat.le_of_ble_eq_true rfl) d_Red_convLeft_39 (fun α1 ad H locs cells slots e2 h hRm hI => ?_)
  exact kc_vret hx hb hr hlocks E hI h d_Red_convLeft_42
def f_Red_convWithin (N : Nat) (a1 : Int32) (a2 : Int32) (α : kS) : Option (kO × kS) := kBv (f_Fra_push N 3 a1 a2 ((f_Fra_top 4 α) + 1) α) fun α1 => (some (some none, α1))
set_option maxHeartbeats 4000000 in
set_option maxRecDepth 100000 in
theorem k_Red_convWithin {l : Launch} {g : kG} {α : kS} (hfl : kFl l) (N : Nat) (a1 : Int32) (a2 : Int32)  : ∀ x, f_Red_convWithin N a1 a2 α = some x → kC l g y_Red_convWithin b_Red_convWithin 3 none 32 945 [.ref (kad g 7), .int a1, .int a2] α (kQr x) := by
  intro x h
  unfold f_Red_convWithin at h
  refine kc_ofW (by decide) (fun A ad0 p e s m args below meth c S hr hlocks hno hadm hargs E hI => ?_)
  have hx := S.1
  have hb := S.2.1
  have hown := S.2.2.2.1
  have hT := S.2.2.2.2
  subst hargs
  have hl := lv_entry ([.ref (kad g 7), .int a1, .int a2]) (n := 3) (Nat.le_of_ble_eq_true rfl)
  rw [lg_entry_eq]
  generalize (lg_sl ([.ref (kad g 7), .int a1, .int a2]) ++ List.replicate (3 - (lg_sl ([.ref (kad g 7), .int a1, .int a2])).length) Slot.unset).toArray = ls at hl ⊢
  have hl : lv_has ls 3 [(0, .ref (kad g 7)), (1, .int a1), (2, .int a2)] := hl
  refine lv_aload_n hx hb d_Red_convWithin_0 rfl (lv_at hl 0 rfl) ?_
  refine kf_Red_frames S E hI.1 vt_133 d_Red_convWithin_1 ?_
  refine lv_iconst (v := 3) hx hb d_Red_convWithin_4 (by decide) ?_
  refine lv_iload_n hx hb d_Red_convWithin_5 rfl (lv_at hl 1 rfl) ?_
  refine lv_iload_n hx hb d_Red_convWithin_6 rfl (lv_at hl 2 rfl) ?_
  refine lv_aload_n hx hb d_Red_convWithin_7 rfl (lv_at hl 0 rfl) ?_
  refine kf_Red_frames S E hI.1 vt_133 d_Red_convWithin_8 ?_
  refine lv_iconst (v := 4) hx hb d_Red_convWithin_11 (by decide) ?_
  refine kg_p (As := [.int 4]) (rest := [.int a2, .int a1, .int 3, .ref (kad g 6)]) (k_Fra_top (l := l) (g := g) (α := α) 4) S E hI.1 kw_Red_39 ⟨Nat.le_of_ble_eq_true rfl, Nat.le_of_ble_eq_true rfl⟩ hI.room (kv_Fra E hI.1) rfl hl.1 rfl (Nat.le_of_ble_eq_true rfl) d_Red_convWithin_12 rfl ?_
  refine lv_iconst (v := 1) hx hb d_Red_convWithin_15 (by decide) ?_
  refine lv_iadd hx hb d_Red_convWithin_16 ?_
  refine kg_cV (As := [.int 3, .int a1, .int a2, .int ((f_Fra_top 4 α) + 1)]) (rest := []) h (k_Fra_push (l := l) (g := g) (α := α) hfl N 3 a1 a2 ((f_Fra_top 4 α) + 1)) S hlocks hno E hI kw_Red_94 ⟨Nat.le_of_ble_eq_true rfl, Nat.le_of_ble_eq_true rfl⟩ (kv_Fra E hI.1) rfl hl.1 rfl (Nat.le_of_ble_eq_true rfl) d_Red_convWithin_17 (fun α1 ad H locs cells slots e2 h hRm hI => ?_)
  exact kc_vret hx hb hr hlocks E hI h d_Red_convWithin_20
def f_Red_convHeads_j48 (N : Nat)  (y3 : Int32) (γ : kS) : Option (kO × kS) := some (some none, (f_Fra_set 3 y3 (f_Fra_set 0 8 γ)))
def f_Red_convHeads_j40 (N : Nat)  (y3 : Int32) (γ : kS) : Option (kO × kS) := kBv (f_Meter_fail N 4 γ) fun α8 => (f_Red_convHeads_j48 N y3 α8)
def f_Red_convHeads (N : Nat) (a1 : Int32) (a2 : Int32) (α : kS) : Option (kO × kS) := ((f_Terms_behind N a1 α)).bind fun v1 => (((f_Terms_head N a1 α)).bind fun v3 => (((f_Terms_head N a2 α)).bind fun v5 => (if v3 = v5 then (((f_Terms_behind N a2 α)).bind fun v10 => (if v1 = v10 then (f_Red_convHeads_j48 N v1 α) else (f_Red_convHeads_j40 N v1 α))) else (f_Red_convHeads_j40 N v1 α))))
set_option maxHeartbeats 4000000 in
set_option maxRecDepth 100000 in
theorem k_Red_convHeads {l : Launch} {g : kG} {α : kS} (hfl : kFl l) (N : Nat) (a1 : Int32) (a2 : Int32)  : ∀ x, f_Red_convHeads N a1 a2 α = some x → kC l g y_Red_convHeads b_Red_convHeads 4 none 12 344 [.ref (kad g 7), .int a1, .int a2] α (kQr x) := by
  intro x h
  unfold f_Red_convHeads at h
  refine kc_ofW (by decide) (fun A ad0 p e s m args below meth c S hr hlocks hno hadm hargs E hI => ?_)
  have hx := S.1
  have hb := S.2.1
  have hown := S.2.2.2.1
  have hT := S.2.2.2.2
  subst hargs
  have hl := lv_entry ([.ref (kad g 7), .int a1, .int a2]) (n := 4) (Nat.le_of_ble_eq_true rfl)
  rw [lg_entry_eq]
  generalize (lg_sl ([.ref (kad g 7), .int a1, .int a2]) ++ List.replicate (4 - (lg_sl ([.ref (kad g 7), .int a1, .int a2])).length) Slot.unset).toArray = ls at hl ⊢
  have hl : lv_has ls 4 [(0, .ref (kad g 7)), (1, .int a1), (2, .int a2)] := hl
  have J48 : ∀ (y3 : Int32) (γ : kS) (ad : Nat → Nat) (H : Heap) (locs : List Loc) (cells slots : Nat) (ls : Array Slot), f_Red_convHeads_j48 N y3 γ = some x → kI g A s α ad0 γ ad H locs cells slots → lv_has ls 4 [(3, .int y3), (0, .ref (kad g 7))] → W p l e (kR 12 344 α) s m ([.ref (kad g 7), .int a1, .int a2]).toArray below meth c H locs cells slots (vEQ below (kQ g A α ad0 (kQr x)) ([.ref (kad g 7), .int a1, .int a2]).toArray s A) (F0 m 48 ls []) := by
    intro y3 γ ad H locs cells slots ls h hI hl
    unfold f_Red_convHeads_j48 at h
    refine lv_aload_n hx hb d_Red_convHeads_48 rfl (lv_at hl 1 rfl) ?_
    refine kf_Red_frames S E hI.1 vt_133 d_Red_convHeads_49 ?_
    refine lv_iconst (v := 0) hx hb d_Red_convHeads_52 (by decide) ?_
    refine lv_bipush (v := 8) hx hb d_Red_convHeads_53 (by decide) ?_
    refine kg_tV (As := [.int 0, .int 8]) (rest := []) (k_Fra_set (l := l) (g := g) (α := γ) 0 8) S hlocks hno E hI kw_Red_91 ⟨Nat.le_of_ble_eq_true rfl, Nat.le_of_ble_eq_true rfl⟩ (kv_Fra E hI.1) rfl hl.1 rfl (Nat.le_of_ble_eq_true rfl) d_Red_convHeads_55 (fun ad H locs cells slots hRm hI => ?_)
    refine lv_aload_n hx hb d_Red_convHeads_58 rfl (lv_at hl 1 rfl) ?_
    refine kf_Red_frames S E hI.1 vt_133 d_Red_convHeads_59 ?_
    refine lv_iconst (v := 3) hx hb d_Red_convHeads_62 (by decide) ?_
    refine lv_iload_n hx hb d_Red_convHeads_63 rfl (lv_at hl 0 rfl) ?_
    refine kg_tV (As := [.int 3, .int y3]) (rest := []) (k_Fra_set (l := l) (g := g) (α := (f_Fra_set 0 8 γ)) 3 y3) S hlocks hno E hI kw_Red_91 ⟨Nat.le_of_ble_eq_true rfl, Nat.le_of_ble_eq_true rfl⟩ (kv_Fra E hI.1) rfl hl.1 rfl (Nat.le_of_ble_eq_true rfl) d_Red_convHeads_64 (fun ad H locs cells slots hRm hI => ?_)
    exact kc_vret hx hb hr hlocks E hI h d_Red_convHeads_67
  have J40 : ∀ (y3 : Int32) (γ : kS) (ad : Nat → Nat) (H : Heap) (locs : List Loc) (cells slots : Nat) (ls : Array Slot), f_Red_convHeads_j40 N y3 γ = some x → kI g A s α ad0 γ ad H locs cells slots → lv_has ls 4 [(3, .int y3), (0, .ref (kad g 7))] → W p l e (kR 12 344 α) s m ([.ref (kad g 7), .int a1, .int a2]).toArray below meth c H locs cells slots (vEQ below (kQ g A α ad0 (kQr x)) ([.ref (kad g 7), .int a1, .int a2]).toArray s A) (F0 m 40 ls []) := by
    intro y3 γ ad H locs cells slots ls h hI hl
    unfold f_Red_convHeads_j40 at h
    refine lv_aload_n hx hb d_Red_convHeads_40 rfl (lv_at hl 1 rfl) ?_
    refine kf_Red_meter S E hI.1 vt_134 d_Red_convHeads_41 ?_
    refine lv_iconst (v := 4) hx hb d_Red_convHeads_44 (by decide) ?_
    refine kg_cV (As := [.int 4]) (rest := []) h (k_Meter_fail (l := l) (g := g) (α := γ) hfl N 4) S hlocks hno E hI kw_Red_86 ⟨Nat.le_of_ble_eq_true rfl, Nat.le_of_ble_eq_true rfl⟩ (kv_Meter E hI.1) rfl hl.1 rfl (Nat.le_of_ble_eq_true rfl) d_Red_convHeads_45 (fun α8 ad H locs cells slots e9 h hRm hI => ?_)
    exact J48 y3 _ _ _ _ _ _ _ h hI (lv_sub hl [0, 1] rfl)
  refine lv_aload_n hx hb d_Red_convHeads_0 rfl (lv_at hl 0 rfl) ?_
  refine kf_Red_terms S E hI.1 vt_135 d_Red_convHeads_1 ?_
  refine lv_iload_n hx hb d_Red_convHeads_4 rfl (lv_at hl 1 rfl) ?_
  obtain ⟨v1, e2, h⟩ := Option.bind_eq_some_iff.mp h
  refine kg_p (As := [.int a1]) (rest := []) ((k_Terms_behind (l := l) (g := g) (α := α) N a1) _ e2) S E hI.1 kw_Red_48 ⟨Nat.le_of_ble_eq_true rfl, Nat.le_of_ble_eq_true rfl⟩ hI.room (kv_Terms E hI.1) rfl hl.1 rfl (Nat.le_of_ble_eq_true rfl) d_Red_convHeads_5 rfl ?_
  refine lv_istore_n (lv' := [(3, .int v1), (0, .ref (kad g 7)), (1, .int a1), (2, .int a2)]) hx hb d_Red_convHeads_8 rfl hl (by decide) rfl (fun ls hl => ?_)
  refine lv_aload_n hx hb d_Red_convHeads_9 rfl (lv_at hl 1 rfl) ?_
  refine kf_Red_terms S E hI.1 vt_135 d_Red_convHeads_10 ?_
  refine lv_iload_n hx hb d_Red_convHeads_13 rfl (lv_at hl 2 rfl) ?_
  obtain ⟨v3, e4, h⟩ := Option.bind_eq_some_iff.mp h
  refine kg_p (As := [.int a1]) (rest := []) ((k_Terms_head (l := l) (g := g) (α := α) N a1) _ e4) S E hI.1 kw_Red_43 ⟨Nat.le_of_ble_eq_true rfl, Nat.le_of_ble_eq_true rfl⟩ hI.room (kv_Terms E hI.1) rfl hl.1 rfl (Nat.le_of_ble_eq_true rfl) d_Red_convHeads_14 rfl ?_
  refine lv_aload_n hx hb d_Red_convHeads_17 rfl (lv_at hl 1 rfl) ?_
  refine kf_Red_terms S E hI.1 vt_135 d_Red_convHeads_18 ?_
  refine lv_iload_n hx hb d_Red_convHeads_21 rfl (lv_at hl 3 rfl) ?_
  obtain ⟨v5, e6, h⟩ := Option.bind_eq_some_iff.mp h
  refine kg_p (As := [.int a2]) (rest := [.int v3]) ((k_Terms_head (l := l) (g := g) (α := α) N a2) _ e6) S E hI.1 kw_Red_43 ⟨Nat.le_of_ble_eq_true rfl, Nat.le_of_ble_eq_true rfl⟩ hI.room (kv_Terms E hI.1) rfl hl.1 rfl (Nat.le_of_ble_eq_true rfl) d_Red_convHeads_22 rfl ?_
  refine lv_icmp_ne (tgt := 40) hx hb d_Red_convHeads_25 (by decide) (fun c7 => ?_) (fun c7 => ?_)
  · replace h := Eq.trans (if_neg c7).symm h
    exact J40 v1 _ _ _ _ _ _ _ h hI (lv_sub hl [0, 1] rfl)
  · replace h := Eq.trans (if_pos c7).symm h
    refine lv_iload_n hx hb d_Red_convHeads_28 rfl (lv_at hl 0 rfl) ?_
    refine lv_aload_n hx hb d_Red_convHeads_29 rfl (lv_at hl 1 rfl) ?_
    refine kf_Red_terms S E hI.1 vt_135 d_Red_convHeads_30 ?_
    refine lv_iload_n hx hb d_Red_convHeads_33 rfl (lv_at hl 3 rfl) ?_
    obtain ⟨v10, e11, h⟩ := Option.bind_eq_some_iff.mp h
    refine kg_p (As := [.int a2]) (rest := [.int v1]) ((k_Terms_behind (l := l) (g := g) (α := α) N a2) _ e11) S E hI.1 kw_Red_48 ⟨Nat.le_of_ble_eq_true rfl, Nat.le_of_ble_eq_true rfl⟩ hI.room (kv_Terms E hI.1) rfl hl.1 rfl (Nat.le_of_ble_eq_true rfl) d_Red_convHeads_34 rfl ?_
    refine lv_icmp_eq (tgt := 48) hx hb d_Red_convHeads_37 (by decide) (fun c12 => ?_) (fun c12 => ?_)
    · replace h := Eq.trans (if_pos c12).symm h
      exact J48 v1 _ _ _ _ _ _ _ h hI (lv_sub hl [0, 1] rfl)
    · replace h := Eq.trans (if_neg c12).symm h
      exact J40 v1 _ _ _ _ _ _ _ h hI (lv_sub hl [0, 1] rfl)
theorem kw_Red_135 : kWv "FamilyKernel$Reducer" 135 "FamilyKernel$Reducer" y_Red_convHeads b_Red_convHeads 4 none 2 := ⟨vt_896, vt_897, vt_898, vt_54, vt_899, by decide, by decide, by decide +kernel⟩
theorem kw_Red_132 : kWv "FamilyKernel$Reducer" 132 "FamilyKernel$Frames" y_Fra_newVariable b_Fra_newVariable 2 (some .int) 1 := ⟨vt_892, vt_893, vt_894, vt_47, vt_895, by decide, by decide, by decide +kernel⟩
theorem kw_Red_129 : kWv "FamilyKernel$Reducer" 129 "FamilyKernel$Reducer" y_Red_convWithin b_Red_convWithin 3 none 2 := ⟨vt_888, vt_889, vt_890, vt_54, vt_891, by decide, by decide, by decide +kernel⟩
def f_Red_convRight_j199 (N : Nat)  (y4 : Int32) (y3 : Int32) (y2 : Int32) (y1 : Int32) (γ : kS) : Option (kO × kS) := if y4 = 7 then (if y3 = 6 then (kBv (f_Red_convHeads N y1 y2 γ) fun α8 => (some (some none, α8))) else (if y3 = 2 then (kBv (f_Red_convHeads N y1 y2 γ) fun α11 => (some (some none, α11))) else (kBi (f_Fra_newVariable N (-1) γ) fun v15 α13 => (kBi (f_Terms_make N 1 v15 0 α13) fun v18 α16 => (kBi (f_Terms_rewrite N 0 (f_Terms_right y2 α16) v18 α16) fun v21 α19 => (kBi (f_Terms_make N 5 y1 v18 (f_Fra_set 0 7 α19)) fun v24 α22 => (kBv (f_Red_convWithin N v24 v21 α22) fun α25 => (some (some none, α25))))))))) else (kBv (f_Red_convHeads N y1 y2 γ) fun α5 => (some (some none, α5)))
def f_Red_convRight_j111 (N : Nat)  (y4 : Int32) (y3 : Int32) (y2 : Int32) (y1 : Int32) (γ : kS) : Option (kO × kS) := if y3 = 7 then (if y4 = 6 then (f_Red_convRight_j199 N y4 y3 y2 y1 γ) else (if y4 = 2 then (f_Red_convRight_j199 N y4 y3 y2 y1 γ) else (kBi (f_Fra_newVariable N (-1) γ) fun v31 α29 => (kBi (f_Terms_make N 1 v31 0 α29) fun v34 α32 => (kBi (f_Terms_rewrite N 0 (f_Terms_right y1 α32) v34 α32) fun v37 α35 => (kBi (f_Terms_make N 5 y2 v34 (f_Fra_set 0 7 α35)) fun v40 α38 => (kBv (f_Red_convWithin N v37 v40 α38) fun α41 => (some (some none, α41))))))))) else (f_Red_convRight_j199 N y4 y3 y2 y1 γ)
def f_Red_convRight_j78 (N : Nat)  (y2 : Int32) (y1 : Int32) (γ : kS) : Option (kO × kS) := kBv (f_Red_convWithin N (f_Terms_left y1 (f_Fra_set 0 6 γ)) (f_Terms_left y2 (f_Fra_set 0 6 γ)) (f_Fra_set 0 6 γ)) fun α44 => (some (some none, α44))
def f_Red_convRight (N : Nat)  (α : kS) : Option (kO × kS) := if (f_Fra_top 1 α) = (f_Fra_result α) then (some (some none, (f_Fra_pop (f_Fra_set 2 (f_Fra_result α) α)))) else (if (f_Terms_kind (f_Fra_top 1 α) α) = (f_Terms_kind (f_Fra_result α) α) then (if (f_Terms_kind (f_Fra_top 1 α) α) = 6 then (f_Red_convRight_j78 N (f_Fra_result α) (f_Fra_top 1 α) (f_Fra_set 2 (f_Fra_result α) α)) else (if (f_Terms_kind (f_Fra_top 1 α) α) = 7 then (f_Red_convRight_j78 N (f_Fra_result α) (f_Fra_top 1 α) (f_Fra_set 2 (f_Fra_result α) α)) else (f_Red_convRight_j111 N (f_Terms_kind (f_Fra_result α) α) (f_Terms_kind (f_Fra_top 1 α) α) (f_Fra_result α) (f_Fra_top 1 α) (f_Fra_set 2 (f_Fra_result α) α)))) else (f_Red_convRight_j111 N (f_Terms_kind (f_Fra_result α) α) (f_Terms_kind (f_Fra_top 1 α) α) (f_Fra_result α) (f_Fra_top 1 α) (f_Fra_set 2 (f_Fra_result α) α)))
set_option maxHeartbeats 4000000 in
set_option maxRecDepth 100000 in
theorem k_Red_convRight {l : Launch} {g : kG} {α : kS} (hfl : kFl l) (N : Nat)   : ∀ x, f_Red_convRight N α = some x → kC l g y_Red_convRight b_Red_convRight 7 none 33 967 [.ref (kad g 7)] α (kQr x) := by
  intro x h
  unfold f_Red_convRight at h
  refine kc_ofW (by decide) (fun A ad0 p e s m args below meth c S hr hlocks hno hadm hargs E hI => ?_)
  have hx := S.1
  have hb := S.2.1
  have hown := S.2.2.2.1
  have hT := S.2.2.2.2
  subst hargs
  have hl := lv_entry ([.ref (kad g 7)]) (n := 7) (Nat.le_of_ble_eq_true rfl)
  rw [lg_entry_eq]
  generalize (lg_sl ([.ref (kad g 7)]) ++ List.replicate (7 - (lg_sl ([.ref (kad g 7)])).length) Slot.unset).toArray = ls at hl ⊢
  have hl : lv_has ls 7 [(0, .ref (kad g 7))] := hl
  have J199 : ∀ (y4 : Int32) (y3 : Int32) (y2 : Int32) (y1 : Int32) (γ : kS) (ad : Nat → Nat) (H : Heap) (locs : List Loc) (cells slots : Nat) (ls : Array Slot), f_Red_convRight_j199 N y4 y3 y2 y1 γ = some x → kI g A s α ad0 γ ad H locs cells slots → lv_has ls 7 [(4, .int y4), (3, .int y3), (2, .int y2), (1, .int y1), (0, .ref (kad g 7))] → W p l e (kR 33 967 α) s m ([.ref (kad g 7)]).toArray below meth c H locs cells slots (vEQ below (kQ g A α ad0 (kQr x)) ([.ref (kad g 7)]).toArray s A) (F0 m 199 ls []) := by
    intro y4 y3 y2 y1 γ ad H locs cells slots ls h hI hl
    unfold f_Red_convRight_j199 at h
    refine lv_iload hx hb d_Red_convRight_199 (lv_at hl 0 rfl) ?_
    refine lv_bipush (v := 7) hx hb d_Red_convRight_201 (by decide) ?_
    refine lv_icmp_ne (tgt := 286) hx hb d_Red_convRight_203 (by decide) (fun c4 => ?_) (fun c4 => ?_)
    · replace h := Eq.trans (if_neg c4).symm h
      refine lv_aload_n hx hb d_Red_convRight_286 rfl (lv_at hl 4 rfl) ?_
      refine lv_iload_n hx hb d_Red_convRight_287 rfl (lv_at hl 3 rfl) ?_
      refine lv_iload_n hx hb d_Red_convRight_288 rfl (lv_at hl 2 rfl) ?_
      refine kg_cV (As := [.int y1, .int y2]) (rest := []) h (k_Red_convHeads (l := l) (g := g) (α := γ) hfl N y1 y2) S hlocks hno E hI kw_Red_135 ⟨Nat.le_of_ble_eq_true rfl, Nat.le_of_ble_eq_true rfl⟩ (kv_Red E hI.1) rfl hl.1 rfl (Nat.le_of_ble_eq_true rfl) d_Red_convRight_289 (fun α5 ad H locs cells slots e6 h hRm hI => ?_)
      exact kc_vret hx hb hr hlocks E hI h d_Red_convRight_292
    · replace h := Eq.trans (if_pos c4).symm h
      refine lv_iload_n hx hb d_Red_convRight_206 rfl (lv_at hl 1 rfl) ?_
      refine lv_bipush (v := 6) hx hb d_Red_convRight_207 (by decide) ?_
      refine lv_icmp_eq (tgt := 286) hx hb d_Red_convRight_209 (by decide) (fun c7 => ?_) (fun c7 => ?_)
      · replace h := Eq.trans (if_pos c7).symm h
        refine lv_aload_n hx hb d_Red_convRight_286 rfl (lv_at hl 4 rfl) ?_
        refine lv_iload_n hx hb d_Red_convRight_287 rfl (lv_at hl 3 rfl) ?_
        refine lv_iload_n hx hb d_Red_convRight_288 rfl (lv_at hl 2 rfl) ?_
        refine kg_cV (As := [.int y1, .int y2]) (rest := []) h (k_Red_convHeads (l := l) (g := g) (α := γ) hfl N y1 y2) S hlocks hno E hI kw_Red_135 ⟨Nat.le_of_ble_eq_true rfl, Nat.le_of_ble_eq_true rfl⟩ (kv_Red E hI.1) rfl hl.1 rfl (Nat.le_of_ble_eq_true rfl) d_Red_convRight_289 (fun α8 ad H locs cells slots e9 h hRm hI => ?_)
        exact kc_vret hx hb hr hlocks E hI h d_Red_convRight_292
      · replace h := Eq.trans (if_neg c7).symm h
        refine lv_iload_n hx hb d_Red_convRight_212 rfl (lv_at hl 1 rfl) ?_
        refine lv_iconst (v := 2) hx hb d_Red_convRight_213 (by decide) ?_
        refine lv_icmp_eq (tgt := 286) hx hb d_Red_convRight_214 (by decide) (fun c10 => ?_) (fun c10 => ?_)
        · replace h := Eq.trans (if_pos c10).symm h
          refine lv_aload_n hx hb d_Red_convRight_286 rfl (lv_at hl 4 rfl) ?_
          refine lv_iload_n hx hb d_Red_convRight_287 rfl (lv_at hl 3 rfl) ?_
          refine lv_iload_n hx hb d_Red_convRight_288 rfl (lv_at hl 2 rfl) ?_
          refine kg_cV (As := [.int y1, .int y2]) (rest := []) h (k_Red_convHeads (l := l) (g := g) (α := γ) hfl N y1 y2) S hlocks hno E hI kw_Red_135 ⟨Nat.le_of_ble_eq_true rfl, Nat.le_of_ble_eq_true rfl⟩ (kv_Red E hI.1) rfl hl.1 rfl (Nat.le_of_ble_eq_true rfl) d_Red_convRight_289 (fun α11 ad H locs cells slots e12 h hRm hI => ?_)
          exact kc_vret hx hb hr hlocks E hI h d_Red_convRight_292
        · replace h := Eq.trans (if_neg c10).symm h
          refine lv_aload_n hx hb d_Red_convRight_217 rfl (lv_at hl 4 rfl) ?_
          refine kf_Red_terms S E hI.1 vt_135 d_Red_convRight_218 ?_
          refine lv_iconst (v := 1) hx hb d_Red_convRight_221 (by decide) ?_
          refine lv_aload_n hx hb d_Red_convRight_222 rfl (lv_at hl 4 rfl) ?_
          refine kf_Red_frames S E hI.1 vt_133 d_Red_convRight_223 ?_
          refine lv_iconst (v := (-1)) hx hb d_Red_convRight_226 (by decide) ?_
          refine kg_cI (As := [.int (-1)]) (rest := [.int 1, .ref (kad g 2)]) h (k_Fra_newVariable (l := l) (g := g) (α := γ) hfl N (-1)) S hlocks hno E hI kw_Red_132 ⟨Nat.le_of_ble_eq_true rfl, Nat.le_of_ble_eq_true rfl⟩ (kv_Fra E hI.1) rfl hl.1 rfl (Nat.le_of_ble_eq_true rfl) d_Red_convRight_227 (fun v15 α13 ad H locs cells slots e14 h hRm hI => ?_)
          refine lv_iconst (v := 0) hx hb d_Red_convRight_230 (by decide) ?_
          refine kg_cI (As := [.int 1, .int v15, .int 0]) (rest := []) h (k_Terms_make (l := l) (g := g) (α := α13) hfl N 1 v15 0) S hlocks hno E hI kw_Red_116 ⟨Nat.le_of_ble_eq_true rfl, Nat.le_of_ble_eq_true rfl⟩ (kv_Terms E hI.1) rfl hl.1 rfl (Nat.le_of_ble_eq_true rfl) d_Red_convRight_231 (fun v18 α16 ad H locs cells slots e17 h hRm hI => ?_)
          refine lv_istore (lv' := [(5, .int v18), (4, .int y4), (3, .int y3), (2, .int y2), (1, .int y1), (0, .ref (kad g 7))]) hx hb d_Red_convRight_234 hl (by decide) rfl (fun ls hl => ?_)
          refine lv_aload_n hx hb d_Red_convRight_236 rfl (lv_at hl 5 rfl) ?_
          refine kf_Red_terms S E hI.1 vt_135 d_Red_convRight_237 ?_
          refine lv_iconst (v := 0) hx hb d_Red_convRight_240 (by decide) ?_
          refine lv_aload_n hx hb d_Red_convRight_241 rfl (lv_at hl 5 rfl) ?_
          refine kf_Red_terms S E hI.1 vt_135 d_Red_convRight_242 ?_
          refine lv_iload_n hx hb d_Red_convRight_245 rfl (lv_at hl 3 rfl) ?_
          refine kg_p (As := [.int y2]) (rest := [.int 0, .ref (kad g 2)]) (k_Terms_right (l := l) (g := g) (α := α16) y2) S E hI.1 kw_Red_58 ⟨Nat.le_of_ble_eq_true rfl, Nat.le_of_ble_eq_true rfl⟩ hI.room (kv_Terms E hI.1) rfl hl.1 rfl (Nat.le_of_ble_eq_true rfl) d_Red_convRight_246 rfl ?_
          refine lv_iload hx hb d_Red_convRight_249 (lv_at hl 0 rfl) ?_
          refine kg_cI (As := [.int 0, .int (f_Terms_right y2 α16), .int v18]) (rest := []) h (k_Terms_rewrite (l := l) (g := g) (α := α16) hfl N 0 (f_Terms_right y2 α16) v18) S hlocks hno E hI kw_Red_61 ⟨Nat.le_of_ble_eq_true rfl, Nat.le_of_ble_eq_true rfl⟩ (kv_Terms E hI.1) rfl hl.1 rfl (Nat.le_of_ble_eq_true rfl) d_Red_convRight_251 (fun v21 α19 ad H locs cells slots e20 h hRm hI => ?_)
          refine lv_istore (lv' := [(6, .int v21), (5, .int v18), (4, .int y4), (3, .int y3), (2, .int y2), (1, .int y1), (0, .ref (kad g 7))]) hx hb d_Red_convRight_254 hl (by decide) rfl (fun ls hl => ?_)
          refine lv_aload_n hx hb d_Red_convRight_256 rfl (lv_at hl 6 rfl) ?_
          refine kf_Red_frames S E hI.1 vt_133 d_Red_convRight_257 ?_
          refine lv_iconst (v := 0) hx hb d_Red_convRight_260 (by decide) ?_
          refine lv_bipush (v := 7) hx hb d_Red_convRight_261 (by decide) ?_
          refine kg_tV (As := [.int 0, .int 7]) (rest := []) (k_Fra_set (l := l) (g := g) (α := α19) 0 7) S hlocks hno E hI kw_Red_91 ⟨Nat.le_of_ble_eq_true rfl, Nat.le_of_ble_eq_true rfl⟩ (kv_Fra E hI.1) rfl hl.1 rfl (Nat.le_of_ble_eq_true rfl) d_Red_convRight_263 (fun ad H locs cells slots hRm hI => ?_)
          refine lv_aload_n hx hb d_Red_convRight_266 rfl (lv_at hl 6 rfl) ?_
          refine lv_aload_n hx hb d_Red_convRight_267 rfl (lv_at hl 6 rfl) ?_
          refine kf_Red_terms S E hI.1 vt_135 d_Red_convRight_268 ?_
          refine lv_iconst (v := 5) hx hb d_Red_convRight_271 (by decide) ?_
          refine lv_iload_n hx hb d_Red_convRight_272 rfl (lv_at hl 5 rfl) ?_
          refine lv_iload hx hb d_Red_convRight_273 (lv_at hl 1 rfl) ?_
          refine kg_cI (As := [.int 5, .int y1, .int v18]) (rest := [.ref (kad g 7)]) h (k_Terms_make (l := l) (g := g) (α := (f_Fra_set 0 7 α19)) hfl N 5 y1 v18) S hlocks hno E hI kw_Red_116 ⟨Nat.le_of_ble_eq_true rfl, Nat.le_of_ble_eq_true rfl⟩ (kv_Terms E hI.1) rfl hl.1 rfl (Nat.le_of_ble_eq_true rfl) d_Red_convRight_275 (fun v24 α22 ad H locs cells slots e23 h hRm hI => ?_)
          refine lv_iload hx hb d_Red_convRight_278 (lv_at hl 0 rfl) ?_
          refine kg_cV (As := [.int v24, .int v21]) (rest := []) h (k_Red_convWithin (l := l) (g := g) (α := α22) hfl N v24 v21) S hlocks hno E hI kw_Red_129 ⟨Nat.le_of_ble_eq_true rfl, Nat.le_of_ble_eq_true rfl⟩ (kv_Red E hI.1) rfl hl.1 rfl (Nat.le_of_ble_eq_true rfl) d_Red_convRight_280 (fun α25 ad H locs cells slots e26 h hRm hI => ?_)
          refine lv_goto (tgt := 292) hx hb d_Red_convRight_283 (by decide) ?_
          exact kc_vret hx hb hr hlocks E hI h d_Red_convRight_292
  have J111 : ∀ (y4 : Int32) (y3 : Int32) (y2 : Int32) (y1 : Int32) (γ : kS) (ad : Nat → Nat) (H : Heap) (locs : List Loc) (cells slots : Nat) (ls : Array Slot), f_Red_convRight_j111 N y4 y3 y2 y1 γ = some x → kI g A s α ad0 γ ad H locs cells slots → lv_has ls 7 [(4, .int y4), (3, .int y3), (2, .int y2), (1, .int y1), (0, .ref (kad g 7))] → W p l e (kR 33 967 α) s m ([.ref (kad g 7)]).toArray below meth c H locs cells slots (vEQ below (kQ g A α ad0 (kQr x)) ([.ref (kad g 7)]).toArray s A) (F0 m 111 ls []) := by
    intro y4 y3 y2 y1 γ ad H locs cells slots ls h hI hl
    unfold f_Red_convRight_j111 at h
    refine lv_iload_n hx hb d_Red_convRight_111 rfl (lv_at hl 1 rfl) ?_
    refine lv_bipush (v := 7) hx hb d_Red_convRight_112 (by decide) ?_
    refine lv_icmp_ne (tgt := 199) hx hb d_Red_convRight_114 (by decide) (fun c3 => ?_) (fun c3 => ?_)
    · replace h := Eq.trans (if_neg c3).symm h
      exact J199 y4 y3 y2 y1 _ _ _ _ _ _ _ h hI (lv_sub hl [0, 1, 2, 3, 4] rfl)
    · replace h := Eq.trans (if_pos c3).symm h
      refine lv_iload hx hb d_Red_convRight_117 (lv_at hl 0 rfl) ?_
      refine lv_bipush (v := 6) hx hb d_Red_convRight_119 (by decide) ?_
      refine lv_icmp_eq (tgt := 199) hx hb d_Red_convRight_121 (by decide) (fun c27 => ?_) (fun c27 => ?_)
      · replace h := Eq.trans (if_pos c27).symm h
        exact J199 y4 y3 y2 y1 _ _ _ _ _ _ _ h hI (lv_sub hl [0, 1, 2, 3, 4] rfl)
      · replace h := Eq.trans (if_neg c27).symm h
        refine lv_iload hx hb d_Red_convRight_124 (lv_at hl 0 rfl) ?_
        refine lv_iconst (v := 2) hx hb d_Red_convRight_126 (by decide) ?_
        refine lv_icmp_eq (tgt := 199) hx hb d_Red_convRight_127 (by decide) (fun c28 => ?_) (fun c28 => ?_)
        · replace h := Eq.trans (if_pos c28).symm h
          exact J199 y4 y3 y2 y1 _ _ _ _ _ _ _ h hI (lv_sub hl [0, 1, 2, 3, 4] rfl)
        · replace h := Eq.trans (if_neg c28).symm h
          refine lv_aload_n hx hb d_Red_convRight_130 rfl (lv_at hl 4 rfl) ?_
          refine kf_Red_terms S E hI.1 vt_135 d_Red_convRight_131 ?_
          refine lv_iconst (v := 1) hx hb d_Red_convRight_134 (by decide) ?_
          refine lv_aload_n hx hb d_Red_convRight_135 rfl (lv_at hl 4 rfl) ?_
          refine kf_Red_frames S E hI.1 vt_133 d_Red_convRight_136 ?_
          refine lv_iconst (v := (-1)) hx hb d_Red_convRight_139 (by decide) ?_
          refine kg_cI (As := [.int (-1)]) (rest := [.int 1, .ref (kad g 2)]) h (k_Fra_newVariable (l := l) (g := g) (α := γ) hfl N (-1)) S hlocks hno E hI kw_Red_132 ⟨Nat.le_of_ble_eq_true rfl, Nat.le_of_ble_eq_true rfl⟩ (kv_Fra E hI.1) rfl hl.1 rfl (Nat.le_of_ble_eq_true rfl) d_Red_convRight_140 (fun v31 α29 ad H locs cells slots e30 h hRm hI => ?_)
          refine lv_iconst (v := 0) hx hb d_Red_convRight_143 (by decide) ?_
          refine kg_cI (As := [.int 1, .int v31, .int 0]) (rest := []) h (k_Terms_make (l := l) (g := g) (α := α29) hfl N 1 v31 0) S hlocks hno E hI kw_Red_116 ⟨Nat.le_of_ble_eq_true rfl, Nat.le_of_ble_eq_true rfl⟩ (kv_Terms E hI.1) rfl hl.1 rfl (Nat.le_of_ble_eq_true rfl) d_Red_convRight_144 (fun v34 α32 ad H locs cells slots e33 h hRm hI => ?_)
          refine lv_istore (lv' := [(5, .int v34), (4, .int y4), (3, .int y3), (2, .int y2), (1, .int y1), (0, .ref (kad g 7))]) hx hb d_Red_convRight_147 hl (by decide) rfl (fun ls hl => ?_)
          refine lv_aload_n hx hb d_Red_convRight_149 rfl (lv_at hl 5 rfl) ?_
          refine kf_Red_terms S E hI.1 vt_135 d_Red_convRight_150 ?_
          refine lv_iconst (v := 0) hx hb d_Red_convRight_153 (by decide) ?_
          refine lv_aload_n hx hb d_Red_convRight_154 rfl (lv_at hl 5 rfl) ?_
          refine kf_Red_terms S E hI.1 vt_135 d_Red_convRight_155 ?_
          refine lv_iload_n hx hb d_Red_convRight_158 rfl (lv_at hl 4 rfl) ?_
          refine kg_p (As := [.int y1]) (rest := [.int 0, .ref (kad g 2)]) (k_Terms_right (l := l) (g := g) (α := α32) y1) S E hI.1 kw_Red_58 ⟨Nat.le_of_ble_eq_true rfl, Nat.le_of_ble_eq_true rfl⟩ hI.room (kv_Terms E hI.1) rfl hl.1 rfl (Nat.le_of_ble_eq_true rfl) d_Red_convRight_159 rfl ?_
          refine lv_iload hx hb d_Red_convRight_162 (lv_at hl 0 rfl) ?_
          refine kg_cI (As := [.int 0, .int (f_Terms_right y1 α32), .int v34]) (rest := []) h (k_Terms_rewrite (l := l) (g := g) (α := α32) hfl N 0 (f_Terms_right y1 α32) v34) S hlocks hno E hI kw_Red_61 ⟨Nat.le_of_ble_eq_true rfl, Nat.le_of_ble_eq_true rfl⟩ (kv_Terms E hI.1) rfl hl.1 rfl (Nat.le_of_ble_eq_true rfl) d_Red_convRight_164 (fun v37 α35 ad H locs cells slots e36 h hRm hI => ?_)
          refine lv_istore (lv' := [(6, .int v37), (5, .int v34), (4, .int y4), (3, .int y3), (2, .int y2), (1, .int y1), (0, .ref (kad g 7))]) hx hb d_Red_convRight_167 hl (by decide) rfl (fun ls hl => ?_)
          refine lv_aload_n hx hb d_Red_convRight_169 rfl (lv_at hl 6 rfl) ?_
          refine kf_Red_frames S E hI.1 vt_133 d_Red_convRight_170 ?_
          refine lv_iconst (v := 0) hx hb d_Red_convRight_173 (by decide) ?_
          refine lv_bipush (v := 7) hx hb d_Red_convRight_174 (by decide) ?_
          refine kg_tV (As := [.int 0, .int 7]) (rest := []) (k_Fra_set (l := l) (g := g) (α := α35) 0 7) S hlocks hno E hI kw_Red_91 ⟨Nat.le_of_ble_eq_true rfl, Nat.le_of_ble_eq_true rfl⟩ (kv_Fra E hI.1) rfl hl.1 rfl (Nat.le_of_ble_eq_true rfl) d_Red_convRight_176 (fun ad H locs cells slots hRm hI => ?_)
          refine lv_aload_n hx hb d_Red_convRight_179 rfl (lv_at hl 6 rfl) ?_
          refine lv_iload hx hb d_Red_convRight_180 (lv_at hl 0 rfl) ?_
          refine lv_aload_n hx hb d_Red_convRight_182 rfl (lv_at hl 6 rfl) ?_
          refine kf_Red_terms S E hI.1 vt_135 d_Red_convRight_183 ?_
          refine lv_iconst (v := 5) hx hb d_Red_convRight_186 (by decide) ?_
          refine lv_iload_n hx hb d_Red_convRight_187 rfl (lv_at hl 4 rfl) ?_
          refine lv_iload hx hb d_Red_convRight_188 (lv_at hl 1 rfl) ?_
          refine kg_cI (As := [.int 5, .int y2, .int v34]) (rest := [.int v37, .ref (kad g 7)]) h (k_Terms_make (l := l) (g := g) (α := (f_Fra_set 0 7 α35)) hfl N 5 y2 v34) S hlocks hno E hI kw_Red_116 ⟨Nat.le_of_ble_eq_true rfl, Nat.le_of_ble_eq_true rfl⟩ (kv_Terms E hI.1) rfl hl.1 rfl (Nat.le_of_ble_eq_true rfl) d_Red_convRight_190 (fun v40 α38 ad H locs cells slots e39 h hRm hI => ?_)
          refine kg_cV (As := [.int v37, .int v40]) (rest := []) h (k_Red_convWithin (l := l) (g := g) (α := α38) hfl N v37 v40) S hlocks hno E hI kw_Red_129 ⟨Nat.le_of_ble_eq_true rfl, Nat.le_of_ble_eq_true rfl⟩ (kv_Red E hI.1) rfl hl.1 rfl (Nat.le_of_ble_eq_true rfl) d_Red_convRight_193 (fun α41 ad H locs cells slots e42 h hRm hI => ?_)
          refine lv_goto (tgt := 292) hx hb d_Red_convRight_196 (by decide) ?_
          exact kc_vret hx hb hr hlocks E hI h d_Red_convRight_292
  have J78 : ∀ (y2 : Int32) (y1 : Int32) (γ : kS) (ad : Nat → Nat) (H : Heap) (locs : List Loc) (cells slots : Nat) (ls : Array Slot), f_Red_convRight_j78 N y2 y1 γ = some x → kI g A s α ad0 γ ad H locs cells slots → lv_has ls 7 [(2, .int y2), (1, .int y1), (0, .ref (kad g 7))] → W p l e (kR 33 967 α) s m ([.ref (kad g 7)]).toArray below meth c H locs cells slots (vEQ below (kQ g A α ad0 (kQr x)) ([.ref (kad g 7)]).toArray s A) (F0 m 78 ls []) := by
    intro y2 y1 γ ad H locs cells slots ls h hI hl
    unfold f_Red_convRight_j78 at h
    refine lv_aload_n hx hb d_Red_convRight_78 rfl (lv_at hl 2 rfl) ?_
    refine kf_Red_frames S E hI.1 vt_133 d_Red_convRight_79 ?_
    refine lv_iconst (v := 0) hx hb d_Red_convRight_82 (by decide) ?_
    refine lv_bipush (v := 6) hx hb d_Red_convRight_83 (by decide) ?_
    refine kg_tV (As := [.int 0, .int 6]) (rest := []) (k_Fra_set (l := l) (g := g) (α := γ) 0 6) S hlocks hno E hI kw_Red_91 ⟨Nat.le_of_ble_eq_true rfl, Nat.le_of_ble_eq_true rfl⟩ (kv_Fra E hI.1) rfl hl.1 rfl (Nat.le_of_ble_eq_true rfl) d_Red_convRight_85 (fun ad H locs cells slots hRm hI => ?_)
    refine lv_aload_n hx hb d_Red_convRight_88 rfl (lv_at hl 2 rfl) ?_
    refine lv_aload_n hx hb d_Red_convRight_89 rfl (lv_at hl 2 rfl) ?_
    refine kf_Red_terms S E hI.1 vt_135 d_Red_convRight_90 ?_
    refine lv_iload_n hx hb d_Red_convRight_93 rfl (lv_at hl 1 rfl) ?_
    refine kg_p (As := [.int y1]) (rest := [.ref (kad g 7)]) (k_Terms_left (l := l) (g := g) (α := (f_Fra_set 0 6 γ)) y1) S E hI.1 kw_Red_68 ⟨Nat.le_of_ble_eq_true rfl, Nat.le_of_ble_eq_true rfl⟩ hI.room (kv_Terms E hI.1) rfl hl.1 rfl (Nat.le_of_ble_eq_true rfl) d_Red_convRight_94 rfl ?_
    refine lv_aload_n hx hb d_Red_convRight_97 rfl (lv_at hl 2 rfl) ?_
    refine kf_Red_terms S E hI.1 vt_135 d_Red_convRight_98 ?_
    refine lv_iload_n hx hb d_Red_convRight_101 rfl (lv_at hl 0 rfl) ?_
    refine kg_p (As := [.int y2]) (rest := [.int (f_Terms_left y1 (f_Fra_set 0 6 γ)), .ref (kad g 7)]) (k_Terms_left (l := l) (g := g) (α := (f_Fra_set 0 6 γ)) y2) S E hI.1 kw_Red_68 ⟨Nat.le_of_ble_eq_true rfl, Nat.le_of_ble_eq_true rfl⟩ hI.room (kv_Terms E hI.1) rfl hl.1 rfl (Nat.le_of_ble_eq_true rfl) d_Red_convRight_102 rfl ?_
    refine kg_cV (As := [.int (f_Terms_left y1 (f_Fra_set 0 6 γ)), .int (f_Terms_left y2 (f_Fra_set 0 6 γ))]) (rest := []) h (k_Red_convWithin (l := l) (g := g) (α := (f_Fra_set 0 6 γ)) hfl N (f_Terms_left y1 (f_Fra_set 0 6 γ)) (f_Terms_left y2 (f_Fra_set 0 6 γ))) S hlocks hno E hI kw_Red_129 ⟨Nat.le_of_ble_eq_true rfl, Nat.le_of_ble_eq_true rfl⟩ (kv_Red E hI.1) rfl hl.1 rfl (Nat.le_of_ble_eq_true rfl) d_Red_convRight_105 (fun α44 ad H locs cells slots e45 h hRm hI => ?_)
    refine lv_goto (tgt := 292) hx hb d_Red_convRight_108 (by decide) ?_
    exact kc_vret hx hb hr hlocks E hI h d_Red_convRight_292
  refine lv_aload_n hx hb d_Red_convRight_0 rfl (lv_at hl 0 rfl) ?_
  refine kf_Red_frames S E hI.1 vt_133 d_Red_convRight_1 ?_
  refine lv_iconst (v := 1) hx hb d_Red_convRight_4 (by decide) ?_
  refine kg_p (As := [.int 1]) (rest := []) (k_Fra_top (l := l) (g := g) (α := α) 1) S E hI.1 kw_Red_39 ⟨Nat.le_of_ble_eq_true rfl, Nat.le_of_ble_eq_true rfl⟩ hI.room (kv_Fra E hI.1) rfl hl.1 rfl (Nat.le_of_ble_eq_true rfl) d_Red_convRight_5 rfl ?_
  refine lv_istore_n (lv' := [(1, .int (f_Fra_top 1 α)), (0, .ref (kad g 7))]) hx hb d_Red_convRight_8 rfl hl (by decide) rfl (fun ls hl => ?_)
  refine lv_aload_n hx hb d_Red_convRight_9 rfl (lv_at hl 1 rfl) ?_
  refine kf_Red_frames S E hI.1 vt_133 d_Red_convRight_10 ?_
  refine kg_p (As := []) (rest := []) (k_Fra_result (l := l) (g := g) (α := α) ) S E hI.1 kw_Red_124 ⟨Nat.le_of_ble_eq_true rfl, Nat.le_of_ble_eq_true rfl⟩ hI.room (kv_Fra E hI.1) rfl hl.1 rfl (Nat.le_of_ble_eq_true rfl) d_Red_convRight_13 rfl ?_
  refine lv_istore_n (lv' := [(2, .int (f_Fra_result α)), (1, .int (f_Fra_top 1 α)), (0, .ref (kad g 7))]) hx hb d_Red_convRight_16 rfl hl (by decide) rfl (fun ls hl => ?_)
  refine lv_aload_n hx hb d_Red_convRight_17 rfl (lv_at hl 2 rfl) ?_
  refine kf_Red_terms S E hI.1 vt_135 d_Red_convRight_18 ?_
  refine lv_iload_n hx hb d_Red_convRight_21 rfl (lv_at hl 1 rfl) ?_
  refine kg_p (As := [.int (f_Fra_top 1 α)]) (rest := []) (k_Terms_kind (l := l) (g := g) (α := α) (f_Fra_top 1 α)) S E hI.1 kw_Red_51 ⟨Nat.le_of_ble_eq_true rfl, Nat.le_of_ble_eq_true rfl⟩ hI.room (kv_Terms E hI.1) rfl hl.1 rfl (Nat.le_of_ble_eq_true rfl) d_Red_convRight_22 rfl ?_
  refine lv_istore_n (lv' := [(3, .int (f_Terms_kind (f_Fra_top 1 α) α)), (2, .int (f_Fra_result α)), (1, .int (f_Fra_top 1 α)), (0, .ref (kad g 7))]) hx hb d_Red_convRight_25 rfl hl (by decide) rfl (fun ls hl => ?_)
  refine lv_aload_n hx hb d_Red_convRight_26 rfl (lv_at hl 3 rfl) ?_
  refine kf_Red_terms S E hI.1 vt_135 d_Red_convRight_27 ?_
  refine lv_iload_n hx hb d_Red_convRight_30 rfl (lv_at hl 1 rfl) ?_
  refine kg_p (As := [.int (f_Fra_result α)]) (rest := []) (k_Terms_kind (l := l) (g := g) (α := α) (f_Fra_result α)) S E hI.1 kw_Red_51 ⟨Nat.le_of_ble_eq_true rfl, Nat.le_of_ble_eq_true rfl⟩ hI.room (kv_Terms E hI.1) rfl hl.1 rfl (Nat.le_of_ble_eq_true rfl) d_Red_convRight_31 rfl ?_
  refine lv_istore (lv' := [(4, .int (f_Terms_kind (f_Fra_result α) α)), (3, .int (f_Terms_kind (f_Fra_top 1 α) α)), (2, .int (f_Fra_result α)), (1, .int (f_Fra_top 1 α)), (0, .ref (kad g 7))]) hx hb d_Red_convRight_34 hl (by decide) rfl (fun ls hl => ?_)
  refine lv_aload_n hx hb d_Red_convRight_36 rfl (lv_at hl 4 rfl) ?_
  refine kf_Red_frames S E hI.1 vt_133 d_Red_convRight_37 ?_
  refine lv_iconst (v := 2) hx hb d_Red_convRight_40 (by decide) ?_
  refine lv_iload_n hx hb d_Red_convRight_41 rfl (lv_at hl 2 rfl) ?_
  refine kg_tV (As := [.int 2, .int (f_Fra_result α)]) (rest := []) (k_Fra_set (l := l) (g := g) (α := α) 2 (f_Fra_result α)) S hlocks hno E hI kw_Red_91 ⟨Nat.le_of_ble_eq_true rfl, Nat.le_of_ble_eq_true rfl⟩ (kv_Fra E hI.1) rfl hl.1 rfl (Nat.le_of_ble_eq_true rfl) d_Red_convRight_42 (fun ad H locs cells slots hRm hI => ?_)
  refine lv_iload_n hx hb d_Red_convRight_45 rfl (lv_at hl 3 rfl) ?_
  refine lv_iload_n hx hb d_Red_convRight_46 rfl (lv_at hl 2 rfl) ?_
  refine lv_icmp_ne (tgt := 60) hx hb d_Red_convRight_47 (by decide) (fun c1 => ?_) (fun c1 => ?_)
  · replace h := Eq.trans (if_neg c1).symm h
    refine lv_iload_n hx hb d_Red_convRight_60 rfl (lv_at hl 1 rfl) ?_
    refine lv_iload hx hb d_Red_convRight_61 (lv_at hl 0 rfl) ?_
    refine lv_icmp_ne (tgt := 111) hx hb d_Red_convRight_63 (by decide) (fun c2 => ?_) (fun c2 => ?_)
    · replace h := Eq.trans (if_neg c2).symm h
      exact J111 (f_Terms_kind (f_Fra_result α) α) (f_Terms_kind (f_Fra_top 1 α) α) (f_Fra_result α) (f_Fra_top 1 α) _ _ _ _ _ _ _ h hI (lv_sub hl [0, 1, 2, 3, 4] rfl)
    · replace h := Eq.trans (if_pos c2).symm h
      refine lv_iload_n hx hb d_Red_convRight_66 rfl (lv_at hl 1 rfl) ?_
      refine lv_bipush (v := 6) hx hb d_Red_convRight_67 (by decide) ?_
      refine lv_icmp_eq (tgt := 78) hx hb d_Red_convRight_69 (by decide) (fun c43 => ?_) (fun c43 => ?_)
      · replace h := Eq.trans (if_pos c43).symm h
        exact J78 (f_Fra_result α) (f_Fra_top 1 α) _ _ _ _ _ _ _ h hI (lv_sub hl [2, 3, 4] rfl)
      · replace h := Eq.trans (if_neg c43).symm h
        refine lv_iload_n hx hb d_Red_convRight_72 rfl (lv_at hl 1 rfl) ?_
        refine lv_bipush (v := 7) hx hb d_Red_convRight_73 (by decide) ?_
        refine lv_icmp_ne (tgt := 111) hx hb d_Red_convRight_75 (by decide) (fun c46 => ?_) (fun c46 => ?_)
        · replace h := Eq.trans (if_neg c46).symm h
          exact J111 (f_Terms_kind (f_Fra_result α) α) (f_Terms_kind (f_Fra_top 1 α) α) (f_Fra_result α) (f_Fra_top 1 α) _ _ _ _ _ _ _ h hI (lv_sub hl [0, 1, 2, 3, 4] rfl)
        · replace h := Eq.trans (if_pos c46).symm h
          exact J78 (f_Fra_result α) (f_Fra_top 1 α) _ _ _ _ _ _ _ h hI (lv_sub hl [2, 3, 4] rfl)
  · replace h := Eq.trans (if_pos c1).symm h
    refine lv_aload_n hx hb d_Red_convRight_50 rfl (lv_at hl 4 rfl) ?_
    refine kf_Red_frames S E hI.1 vt_133 d_Red_convRight_51 ?_
    refine kg_tV (As := []) (rest := []) (k_Fra_pop (l := l) (g := g) (α := (f_Fra_set 2 (f_Fra_result α) α)) ) S hlocks hno E hI kw_Red_127 ⟨Nat.le_of_ble_eq_true rfl, Nat.le_of_ble_eq_true rfl⟩ (kv_Fra E hI.1) rfl hl.1 rfl (Nat.le_of_ble_eq_true rfl) d_Red_convRight_54 (fun ad H locs cells slots hRm hI => ?_)
    refine lv_goto (tgt := 292) hx hb d_Red_convRight_57 (by decide) ?_
    exact kc_vret hx hb hr hlocks E hI h d_Red_convRight_292
def f_Red_convBodies (N : Nat)  (α : kS) : Option (kO × kS) := kBi (f_Fra_newVariable N (-1) α) fun v3 α1 => (kBi (f_Terms_make N 1 v3 0 α1) fun v6 α4 => (kBi (f_Terms_rewrite N 0 (f_Terms_right (f_Fra_top 1 α) α4) v6 α4) fun v9 α7 => (kBi (f_Terms_rewrite N 0 (f_Terms_right (f_Fra_top 2 α) α7) v6 α7) fun v12 α10 => (kBv (f_Red_convWithin N v9 v12 (f_Fra_set 0 7 α10)) fun α13 => (some (some none, α13))))))
set_option maxHeartbeats 4000000 in
set_option maxRecDepth 100000 in
theorem k_Red_convBodies {l : Launch} {g : kG} {α : kS} (hfl : kFl l) (N : Nat)   : ∀ x, f_Red_convBodies N α = some x → kC l g y_Red_convBodies b_Red_convBodies 6 none 33 967 [.ref (kad g 7)] α (kQr x) := by
  intro x h
  unfold f_Red_convBodies at h
  refine kc_ofW (by decide) (fun A ad0 p e s m args below meth c S hr hlocks hno hadm hargs E hI => ?_)
  have hx := S.1
  have hb := S.2.1
  have hown := S.2.2.2.1
  have hT := S.2.2.2.2
  subst hargs
  have hl := lv_entry ([.ref (kad g 7)]) (n := 6) (Nat.le_of_ble_eq_true rfl)
  rw [lg_entry_eq]
  generalize (lg_sl ([.ref (kad g 7)]) ++ List.replicate (6 - (lg_sl ([.ref (kad g 7)])).length) Slot.unset).toArray = ls at hl ⊢
  have hl : lv_has ls 6 [(0, .ref (kad g 7))] := hl
  refine lv_aload_n hx hb d_Red_convBodies_0 rfl (lv_at hl 0 rfl) ?_
  refine kf_Red_frames S E hI.1 vt_133 d_Red_convBodies_1 ?_
  refine lv_iconst (v := 1) hx hb d_Red_convBodies_4 (by decide) ?_
  refine kg_p (As := [.int 1]) (rest := []) (k_Fra_top (l := l) (g := g) (α := α) 1) S E hI.1 kw_Red_39 ⟨Nat.le_of_ble_eq_true rfl, Nat.le_of_ble_eq_true rfl⟩ hI.room (kv_Fra E hI.1) rfl hl.1 rfl (Nat.le_of_ble_eq_true rfl) d_Red_convBodies_5 rfl ?_
  refine lv_istore_n (lv' := [(1, .int (f_Fra_top 1 α)), (0, .ref (kad g 7))]) hx hb d_Red_convBodies_8 rfl hl (by decide) rfl (fun ls hl => ?_)
  refine lv_aload_n hx hb d_Red_convBodies_9 rfl (lv_at hl 1 rfl) ?_
  refine kf_Red_frames S E hI.1 vt_133 d_Red_convBodies_10 ?_
  refine lv_iconst (v := 2) hx hb d_Red_convBodies_13 (by decide) ?_
  refine kg_p (As := [.int 2]) (rest := []) (k_Fra_top (l := l) (g := g) (α := α) 2) S E hI.1 kw_Red_39 ⟨Nat.le_of_ble_eq_true rfl, Nat.le_of_ble_eq_true rfl⟩ hI.room (kv_Fra E hI.1) rfl hl.1 rfl (Nat.le_of_ble_eq_true rfl) d_Red_convBodies_14 rfl ?_
  refine lv_istore_n (lv' := [(2, .int (f_Fra_top 2 α)), (1, .int (f_Fra_top 1 α)), (0, .ref (kad g 7))]) hx hb d_Red_convBodies_17 rfl hl (by decide) rfl (fun ls hl => ?_)
  refine lv_aload_n hx hb d_Red_convBodies_18 rfl (lv_at hl 2 rfl) ?_
  refine kf_Red_terms S E hI.1 vt_135 d_Red_convBodies_19 ?_
  refine lv_iconst (v := 1) hx hb d_Red_convBodies_22 (by decide) ?_
  refine lv_aload_n hx hb d_Red_convBodies_23 rfl (lv_at hl 2 rfl) ?_
  refine kf_Red_frames S E hI.1 vt_133 d_Red_convBodies_24 ?_
  refine lv_iconst (v := (-1)) hx hb d_Red_convBodies_27 (by decide) ?_
  refine kg_cI (As := [.int (-1)]) (rest := [.int 1, .ref (kad g 2)]) h (k_Fra_newVariable (l := l) (g := g) (α := α) hfl N (-1)) S hlocks hno E hI kw_Red_132 ⟨Nat.le_of_ble_eq_true rfl, Nat.le_of_ble_eq_true rfl⟩ (kv_Fra E hI.1) rfl hl.1 rfl (Nat.le_of_ble_eq_true rfl) d_Red_convBodies_28 (fun v3 α1 ad H locs cells slots e2 h hRm hI => ?_)
  refine lv_iconst (v := 0) hx hb d_Red_convBodies_31 (by decide) ?_
  refine kg_cI (As := [.int 1, .int v3, .int 0]) (rest := []) h (k_Terms_make (l := l) (g := g) (α := α1) hfl N 1 v3 0) S hlocks hno E hI kw_Red_116 ⟨Nat.le_of_ble_eq_true rfl, Nat.le_of_ble_eq_true rfl⟩ (kv_Terms E hI.1) rfl hl.1 rfl (Nat.le_of_ble_eq_true rfl) d_Red_convBodies_32 (fun v6 α4 ad H locs cells slots e5 h hRm hI => ?_)
  refine lv_istore_n (lv' := [(3, .int v6), (2, .int (f_Fra_top 2 α)), (1, .int (f_Fra_top 1 α)), (0, .ref (kad g 7))]) hx hb d_Red_convBodies_35 rfl hl (by decide) rfl (fun ls hl => ?_)
  refine lv_aload_n hx hb d_Red_convBodies_36 rfl (lv_at hl 3 rfl) ?_
  refine kf_Red_terms S E hI.1 vt_135 d_Red_convBodies_37 ?_
  refine lv_iconst (v := 0) hx hb d_Red_convBodies_40 (by decide) ?_
  refine lv_aload_n hx hb d_Red_convBodies_41 rfl (lv_at hl 3 rfl) ?_
  refine kf_Red_terms S E hI.1 vt_135 d_Red_convBodies_42 ?_
  refine lv_iload_n hx hb d_Red_convBodies_45 rfl (lv_at hl 2 rfl) ?_
  refine kg_p (As := [.int (f_Fra_top 1 α)]) (rest := [.int 0, .ref (kad g 2)]) (k_Terms_right (l := l) (g := g) (α := α4) (f_Fra_top 1 α)) S E hI.1 kw_Red_58 ⟨Nat.le_of_ble_eq_true rfl, Nat.le_of_ble_eq_true rfl⟩ hI.room (kv_Terms E hI.1) rfl hl.1 rfl (Nat.le_of_ble_eq_true rfl) d_Red_convBodies_46 rfl ?_
  refine lv_iload_n hx hb d_Red_convBodies_49 rfl (lv_at hl 0 rfl) ?_
  refine kg_cI (As := [.int 0, .int (f_Terms_right (f_Fra_top 1 α) α4), .int v6]) (rest := []) h (k_Terms_rewrite (l := l) (g := g) (α := α4) hfl N 0 (f_Terms_right (f_Fra_top 1 α) α4) v6) S hlocks hno E hI kw_Red_61 ⟨Nat.le_of_ble_eq_true rfl, Nat.le_of_ble_eq_true rfl⟩ (kv_Terms E hI.1) rfl hl.1 rfl (Nat.le_of_ble_eq_true rfl) d_Red_convBodies_50 (fun v9 α7 ad H locs cells slots e8 h hRm hI => ?_)
  refine lv_istore (lv' := [(4, .int v9), (3, .int v6), (2, .int (f_Fra_top 2 α)), (1, .int (f_Fra_top 1 α)), (0, .ref (kad g 7))]) hx hb d_Red_convBodies_53 hl (by decide) rfl (fun ls hl => ?_)
  refine lv_aload_n hx hb d_Red_convBodies_55 rfl (lv_at hl 4 rfl) ?_
  refine kf_Red_terms S E hI.1 vt_135 d_Red_convBodies_56 ?_
  refine lv_iconst (v := 0) hx hb d_Red_convBodies_59 (by decide) ?_
  refine lv_aload_n hx hb d_Red_convBodies_60 rfl (lv_at hl 4 rfl) ?_
  refine kf_Red_terms S E hI.1 vt_135 d_Red_convBodies_61 ?_
  refine lv_iload_n hx hb d_Red_convBodies_64 rfl (lv_at hl 2 rfl) ?_
  refine kg_p (As := [.int (f_Fra_top 2 α)]) (rest := [.int 0, .ref (kad g 2)]) (k_Terms_right (l := l) (g := g) (α := α7) (f_Fra_top 2 α)) S E hI.1 kw_Red_58 ⟨Nat.le_of_ble_eq_true rfl, Nat.le_of_ble_eq_true rfl⟩ hI.room (kv_Terms E hI.1) rfl hl.1 rfl (Nat.le_of_ble_eq_true rfl) d_Red_convBodies_65 rfl ?_
  refine lv_iload_n hx hb d_Red_convBodies_68 rfl (lv_at hl 1 rfl) ?_
  refine kg_cI (As := [.int 0, .int (f_Terms_right (f_Fra_top 2 α) α7), .int v6]) (rest := []) h (k_Terms_rewrite (l := l) (g := g) (α := α7) hfl N 0 (f_Terms_right (f_Fra_top 2 α) α7) v6) S hlocks hno E hI kw_Red_61 ⟨Nat.le_of_ble_eq_true rfl, Nat.le_of_ble_eq_true rfl⟩ (kv_Terms E hI.1) rfl hl.1 rfl (Nat.le_of_ble_eq_true rfl) d_Red_convBodies_69 (fun v12 α10 ad H locs cells slots e11 h hRm hI => ?_)
  refine lv_istore (lv' := [(5, .int v12), (4, .int v9), (3, .int v6), (2, .int (f_Fra_top 2 α)), (1, .int (f_Fra_top 1 α)), (0, .ref (kad g 7))]) hx hb d_Red_convBodies_72 hl (by decide) rfl (fun ls hl => ?_)
  refine lv_aload_n hx hb d_Red_convBodies_74 rfl (lv_at hl 5 rfl) ?_
  refine kf_Red_frames S E hI.1 vt_133 d_Red_convBodies_75 ?_
  refine lv_iconst (v := 0) hx hb d_Red_convBodies_78 (by decide) ?_
  refine lv_bipush (v := 7) hx hb d_Red_convBodies_79 (by decide) ?_
  refine kg_tV (As := [.int 0, .int 7]) (rest := []) (k_Fra_set (l := l) (g := g) (α := α10) 0 7) S hlocks hno E hI kw_Red_91 ⟨Nat.le_of_ble_eq_true rfl, Nat.le_of_ble_eq_true rfl⟩ (kv_Fra E hI.1) rfl hl.1 rfl (Nat.le_of_ble_eq_true rfl) d_Red_convBodies_81 (fun ad H locs cells slots hRm hI => ?_)
  refine lv_aload_n hx hb d_Red_convBodies_84 rfl (lv_at hl 5 rfl) ?_
  refine lv_iload hx hb d_Red_convBodies_85 (lv_at hl 1 rfl) ?_
  refine lv_iload hx hb d_Red_convBodies_87 (lv_at hl 0 rfl) ?_
  refine kg_cV (As := [.int v9, .int v12]) (rest := []) h (k_Red_convWithin (l := l) (g := g) (α := (f_Fra_set 0 7 α10)) hfl N v9 v12) S hlocks hno E hI kw_Red_129 ⟨Nat.le_of_ble_eq_true rfl, Nat.le_of_ble_eq_true rfl⟩ (kv_Red E hI.1) rfl hl.1 rfl (Nat.le_of_ble_eq_true rfl) d_Red_convBodies_89 (fun α13 ad H locs cells slots e14 h hRm hI => ?_)
  exact kc_vret hx hb hr hlocks E hI h d_Red_convBodies_92
theorem kw_Red_138 : kWv "FamilyKernel$Reducer" 138 "FamilyKernel$Frames" y_Fra_dropVariable b_Fra_dropVariable 1 (some .int) 0 := ⟨vt_900, vt_901, vt_902, vt_47, vt_903, by decide, by decide, by decide +kernel⟩
def f_Red_convLeave  (α : kS) : kS := (f_Fra_pop (f_Fra_dropVariable α).2)
set_option maxHeartbeats 4000000 in
set_option maxRecDepth 100000 in
theorem k_Red_convLeave {l : Launch} {g : kG} {α : kS}   : kC l g y_Red_convLeave b_Red_convLeave 1 none 12 341 [.ref (kad g 7)] α (kQr (some none, f_Red_convLeave α)) := by
  generalize h : f_Red_convLeave α = x
  unfold f_Red_convLeave at h
  refine kc_ofW (by decide) (fun A ad0 p e s m args below meth c S hr hlocks hno hadm hargs E hI => ?_)
  have hx := S.1
  have hb := S.2.1
  have hown := S.2.2.2.1
  have hT := S.2.2.2.2
  subst hargs
  have hl := lv_entry ([.ref (kad g 7)]) (n := 1) (Nat.le_of_ble_eq_true rfl)
  rw [lg_entry_eq]
  generalize (lg_sl ([.ref (kad g 7)]) ++ List.replicate (1 - (lg_sl ([.ref (kad g 7)])).length) Slot.unset).toArray = ls at hl ⊢
  have hl : lv_has ls 1 [(0, .ref (kad g 7))] := hl
  refine lv_aload_n hx hb d_Red_convLeave_0 rfl (lv_at hl 0 rfl) ?_
  refine kf_Red_frames S E hI.1 vt_133 d_Red_convLeave_1 ?_
  refine kg_tI (As := []) (rest := []) (k_Fra_dropVariable (l := l) (g := g) (α := α) ) S hlocks hno E hI kw_Red_138 ⟨Nat.le_of_ble_eq_true rfl, Nat.le_of_ble_eq_true rfl⟩ (kv_Fra E hI.1) rfl hl.1 rfl (Nat.le_of_ble_eq_true rfl) d_Red_convLeave_4 (fun ad H locs cells slots hRm hI => ?_)
  refine lv_pop hx hb d_Red_convLeave_7 rfl ?_
  refine lv_aload_n hx hb d_Red_convLeave_8 rfl (lv_at hl 0 rfl) ?_
  refine kf_Red_frames S E hI.1 vt_133 d_Red_convLeave_9 ?_
  refine kg_tV (As := []) (rest := []) (k_Fra_pop (l := l) (g := g) (α := (f_Fra_dropVariable α).2) ) S hlocks hno E hI kw_Red_127 ⟨Nat.le_of_ble_eq_true rfl, Nat.le_of_ble_eq_true rfl⟩ (kv_Fra E hI.1) rfl hl.1 rfl (Nat.le_of_ble_eq_true rfl) d_Red_convLeave_12 (fun ad H locs cells slots hRm hI => ?_)
  exact kc_vret hx hb hr hlocks E hI (by rw [← h]) d_Red_convLeave_15
def f_Red_convArguments (N : Nat)  (α : kS) : Option (kO × kS) := if 0 ≤ ((f_Fra_top 3 α) - 1) then (((f_Terms_fromLast N (f_Fra_top 1 (f_Fra_set 3 ((f_Fra_top 3 α) - 1) α)) ((f_Fra_top 3 α) - 1) (f_Fra_set 3 ((f_Fra_top 3 α) - 1) α))).bind fun v2 => (((f_Terms_fromLast N (f_Fra_top 2 (f_Fra_set 3 ((f_Fra_top 3 α) - 1) α)) ((f_Fra_top 3 α) - 1) (f_Fra_set 3 ((f_Fra_top 3 α) - 1) α))).bind fun v4 => (kBv (f_Red_convWithin N v2 v4 (f_Fra_set 3 ((f_Fra_top 3 α) - 1) α)) fun α6 => (some (some none, α6))))) else (some (some none, (f_Fra_pop α)))
set_option maxHeartbeats 4000000 in
set_option maxRecDepth 100000 in
theorem k_Red_convArguments {l : Launch} {g : kG} {α : kS} (hfl : kFl l) (N : Nat)   : ∀ x, f_Red_convArguments N α = some x → kC l g y_Red_convArguments b_Red_convArguments 2 none 33 967 [.ref (kad g 7)] α (kQr x) := by
  intro x h
  unfold f_Red_convArguments at h
  refine kc_ofW (by decide) (fun A ad0 p e s m args below meth c S hr hlocks hno hadm hargs E hI => ?_)
  have hx := S.1
  have hb := S.2.1
  have hown := S.2.2.2.1
  have hT := S.2.2.2.2
  subst hargs
  have hl := lv_entry ([.ref (kad g 7)]) (n := 2) (Nat.le_of_ble_eq_true rfl)
  rw [lg_entry_eq]
  generalize (lg_sl ([.ref (kad g 7)]) ++ List.replicate (2 - (lg_sl ([.ref (kad g 7)])).length) Slot.unset).toArray = ls at hl ⊢
  have hl : lv_has ls 2 [(0, .ref (kad g 7))] := hl
  refine lv_aload_n hx hb d_Red_convArguments_0 rfl (lv_at hl 0 rfl) ?_
  refine kf_Red_frames S E hI.1 vt_133 d_Red_convArguments_1 ?_
  refine lv_iconst (v := 3) hx hb d_Red_convArguments_4 (by decide) ?_
  refine kg_p (As := [.int 3]) (rest := []) (k_Fra_top (l := l) (g := g) (α := α) 3) S E hI.1 kw_Red_39 ⟨Nat.le_of_ble_eq_true rfl, Nat.le_of_ble_eq_true rfl⟩ hI.room (kv_Fra E hI.1) rfl hl.1 rfl (Nat.le_of_ble_eq_true rfl) d_Red_convArguments_5 rfl ?_
  refine lv_iconst (v := 1) hx hb d_Red_convArguments_8 (by decide) ?_
  refine lv_isub hx hb d_Red_convArguments_9 ?_
  refine lv_istore_n (lv' := [(1, .int ((f_Fra_top 3 α) - 1)), (0, .ref (kad g 7))]) hx hb d_Red_convArguments_10 rfl hl (by decide) rfl (fun ls hl => ?_)
  refine lv_iload_n hx hb d_Red_convArguments_11 rfl (lv_at hl 0 rfl) ?_
  refine lv_if_ge (tgt := 25) hx hb d_Red_convArguments_12 (by decide) (fun c1 => ?_) (fun c1 => ?_)
  · replace h := Eq.trans (if_pos c1).symm h
    refine lv_aload_n hx hb d_Red_convArguments_25 rfl (lv_at hl 1 rfl) ?_
    refine kf_Red_frames S E hI.1 vt_133 d_Red_convArguments_26 ?_
    refine lv_iconst (v := 3) hx hb d_Red_convArguments_29 (by decide) ?_
    refine lv_iload_n hx hb d_Red_convArguments_30 rfl (lv_at hl 0 rfl) ?_
    refine kg_tV (As := [.int 3, .int ((f_Fra_top 3 α) - 1)]) (rest := []) (k_Fra_set (l := l) (g := g) (α := α) 3 ((f_Fra_top 3 α) - 1)) S hlocks hno E hI kw_Red_91 ⟨Nat.le_of_ble_eq_true rfl, Nat.le_of_ble_eq_true rfl⟩ (kv_Fra E hI.1) rfl hl.1 rfl (Nat.le_of_ble_eq_true rfl) d_Red_convArguments_31 (fun ad H locs cells slots hRm hI => ?_)
    refine lv_aload_n hx hb d_Red_convArguments_34 rfl (lv_at hl 1 rfl) ?_
    refine lv_aload_n hx hb d_Red_convArguments_35 rfl (lv_at hl 1 rfl) ?_
    refine kf_Red_terms S E hI.1 vt_135 d_Red_convArguments_36 ?_
    refine lv_aload_n hx hb d_Red_convArguments_39 rfl (lv_at hl 1 rfl) ?_
    refine kf_Red_frames S E hI.1 vt_133 d_Red_convArguments_40 ?_
    refine lv_iconst (v := 1) hx hb d_Red_convArguments_43 (by decide) ?_
    refine kg_p (As := [.int 1]) (rest := [.ref (kad g 2), .ref (kad g 7)]) (k_Fra_top (l := l) (g := g) (α := (f_Fra_set 3 ((f_Fra_top 3 α) - 1) α)) 1) S E hI.1 kw_Red_39 ⟨Nat.le_of_ble_eq_true rfl, Nat.le_of_ble_eq_true rfl⟩ hI.room (kv_Fra E hI.1) rfl hl.1 rfl (Nat.le_of_ble_eq_true rfl) d_Red_convArguments_44 rfl ?_
    refine lv_iload_n hx hb d_Red_convArguments_47 rfl (lv_at hl 0 rfl) ?_
    obtain ⟨v2, e3, h⟩ := Option.bind_eq_some_iff.mp h
    refine kg_p (As := [.int (f_Fra_top 1 (f_Fra_set 3 ((f_Fra_top 3 α) - 1) α)), .int ((f_Fra_top 3 α) - 1)]) (rest := [.ref (kad g 7)]) ((k_Terms_fromLast (l := l) (g := g) (α := (f_Fra_set 3 ((f_Fra_top 3 α) - 1) α)) N (f_Fra_top 1 (f_Fra_set 3 ((f_Fra_top 3 α) - 1) α)) ((f_Fra_top 3 α) - 1)) _ e3) S E hI.1 kw_Red_54 ⟨Nat.le_of_ble_eq_true rfl, Nat.le_of_ble_eq_true rfl⟩ hI.room (kv_Terms E hI.1) rfl hl.1 rfl (Nat.le_of_ble_eq_true rfl) d_Red_convArguments_48 rfl ?_
    refine lv_aload_n hx hb d_Red_convArguments_51 rfl (lv_at hl 1 rfl) ?_
    refine kf_Red_terms S E hI.1 vt_135 d_Red_convArguments_52 ?_
    refine lv_aload_n hx hb d_Red_convArguments_55 rfl (lv_at hl 1 rfl) ?_
    refine kf_Red_frames S E hI.1 vt_133 d_Red_convArguments_56 ?_
    refine lv_iconst (v := 2) hx hb d_Red_convArguments_59 (by decide) ?_
    refine kg_p (As := [.int 2]) (rest := [.ref (kad g 2), .int v2, .ref (kad g 7)]) (k_Fra_top (l := l) (g := g) (α := (f_Fra_set 3 ((f_Fra_top 3 α) - 1) α)) 2) S E hI.1 kw_Red_39 ⟨Nat.le_of_ble_eq_true rfl, Nat.le_of_ble_eq_true rfl⟩ hI.room (kv_Fra E hI.1) rfl hl.1 rfl (Nat.le_of_ble_eq_true rfl) d_Red_convArguments_60 rfl ?_
    refine lv_iload_n hx hb d_Red_convArguments_63 rfl (lv_at hl 0 rfl) ?_
    obtain ⟨v4, e5, h⟩ := Option.bind_eq_some_iff.mp h
    refine kg_p (As := [.int (f_Fra_top 2 (f_Fra_set 3 ((f_Fra_top 3 α) - 1) α)), .int ((f_Fra_top 3 α) - 1)]) (rest := [.int v2, .ref (kad g 7)]) ((k_Terms_fromLast (l := l) (g := g) (α := (f_Fra_set 3 ((f_Fra_top 3 α) - 1) α)) N (f_Fra_top 2 (f_Fra_set 3 ((f_Fra_top 3 α) - 1) α)) ((f_Fra_top 3 α) - 1)) _ e5) S E hI.1 kw_Red_54 ⟨Nat.le_of_ble_eq_true rfl, Nat.le_of_ble_eq_true rfl⟩ hI.room (kv_Terms E hI.1) rfl hl.1 rfl (Nat.le_of_ble_eq_true rfl) d_Red_convArguments_64 rfl ?_
    refine kg_cV (As := [.int v2, .int v4]) (rest := []) h (k_Red_convWithin (l := l) (g := g) (α := (f_Fra_set 3 ((f_Fra_top 3 α) - 1) α)) hfl N v2 v4) S hlocks hno E hI kw_Red_129 ⟨Nat.le_of_ble_eq_true rfl, Nat.le_of_ble_eq_true rfl⟩ (kv_Red E hI.1) rfl hl.1 rfl (Nat.le_of_ble_eq_true rfl) d_Red_convArguments_67 (fun α6 ad H locs cells slots e7 h hRm hI => ?_)
    exact kc_vret hx hb hr hlocks E hI h d_Red_convArguments_70
  · replace h := Eq.trans (if_neg c1).symm h
    refine lv_aload_n hx hb d_Red_convArguments_15 rfl (lv_at hl 1 rfl) ?_
    refine kf_Red_frames S E hI.1 vt_133 d_Red_convArguments_16 ?_
    refine kg_tV (As := []) (rest := []) (k_Fra_pop (l := l) (g := g) (α := α) ) S hlocks hno E hI kw_Red_127 ⟨Nat.le_of_ble_eq_true rfl, Nat.le_of_ble_eq_true rfl⟩ (kv_Fra E hI.1) rfl hl.1 rfl (Nat.le_of_ble_eq_true rfl) d_Red_convArguments_19 (fun ad H locs cells slots hRm hI => ?_)
    refine lv_goto (tgt := 70) hx hb d_Red_convArguments_22 (by decide) ?_
    exact kc_vret hx hb hr hlocks E hI h d_Red_convArguments_70
def f_Red_normal_j22 (N : Nat)  (γ : kS) : Option (kO × kS) := kBv (f_Fra_push N 1 (f_Fra_top 1 (f_Fra_set 0 10 γ)) 0 0 (f_Fra_set 0 10 γ)) fun α2 => (some (some none, α2))
def f_Red_normal (N : Nat)  (α : kS) : Option (kO × kS) := if (f_Fra_top 4 α) ≤ 120 then (f_Red_normal_j22 N  α) else (kBv (f_Meter_fail N 10 α) fun α4 => (f_Red_normal_j22 N  α4))
set_option maxHeartbeats 4000000 in
set_option maxRecDepth 100000 in
theorem k_Red_normal {l : Launch} {g : kG} {α : kS} (hfl : kFl l) (N : Nat)   : ∀ x, f_Red_normal N α = some x → kC l g y_Red_normal b_Red_normal 1 none 32 945 [.ref (kad g 7)] α (kQr x) := by
  intro x h
  unfold f_Red_normal at h
  refine kc_ofW (by decide) (fun A ad0 p e s m args below meth c S hr hlocks hno hadm hargs E hI => ?_)
  have hx := S.1
  have hb := S.2.1
  have hown := S.2.2.2.1
  have hT := S.2.2.2.2
  subst hargs
  have hl := lv_entry ([.ref (kad g 7)]) (n := 1) (Nat.le_of_ble_eq_true rfl)
  rw [lg_entry_eq]
  generalize (lg_sl ([.ref (kad g 7)]) ++ List.replicate (1 - (lg_sl ([.ref (kad g 7)])).length) Slot.unset).toArray = ls at hl ⊢
  have hl : lv_has ls 1 [(0, .ref (kad g 7))] := hl
  have J22 : ∀ (γ : kS) (ad : Nat → Nat) (H : Heap) (locs : List Loc) (cells slots : Nat) (ls : Array Slot), f_Red_normal_j22 N γ = some x → kI g A s α ad0 γ ad H locs cells slots → lv_has ls 1 [(0, .ref (kad g 7))] → W p l e (kR 32 945 α) s m ([.ref (kad g 7)]).toArray below meth c H locs cells slots (vEQ below (kQ g A α ad0 (kQr x)) ([.ref (kad g 7)]).toArray s A) (F0 m 22 ls []) := by
    intro  γ ad H locs cells slots ls h hI hl
    unfold f_Red_normal_j22 at h
    refine lv_aload_n hx hb d_Red_normal_22 rfl (lv_at hl 0 rfl) ?_
    refine kf_Red_frames S E hI.1 vt_133 d_Red_normal_23 ?_
    refine lv_iconst (v := 0) hx hb d_Red_normal_26 (by decide) ?_
    refine lv_bipush (v := 10) hx hb d_Red_normal_27 (by decide) ?_
    refine kg_tV (As := [.int 0, .int 10]) (rest := []) (k_Fra_set (l := l) (g := g) (α := γ) 0 10) S hlocks hno E hI kw_Red_91 ⟨Nat.le_of_ble_eq_true rfl, Nat.le_of_ble_eq_true rfl⟩ (kv_Fra E hI.1) rfl hl.1 rfl (Nat.le_of_ble_eq_true rfl) d_Red_normal_29 (fun ad H locs cells slots hRm hI => ?_)
    refine lv_aload_n hx hb d_Red_normal_32 rfl (lv_at hl 0 rfl) ?_
    refine kf_Red_frames S E hI.1 vt_133 d_Red_normal_33 ?_
    refine lv_iconst (v := 1) hx hb d_Red_normal_36 (by decide) ?_
    refine lv_aload_n hx hb d_Red_normal_37 rfl (lv_at hl 0 rfl) ?_
    refine kf_Red_frames S E hI.1 vt_133 d_Red_normal_38 ?_
    refine lv_iconst (v := 1) hx hb d_Red_normal_41 (by decide) ?_
    refine kg_p (As := [.int 1]) (rest := [.int 1, .ref (kad g 6)]) (k_Fra_top (l := l) (g := g) (α := (f_Fra_set 0 10 γ)) 1) S E hI.1 kw_Red_39 ⟨Nat.le_of_ble_eq_true rfl, Nat.le_of_ble_eq_true rfl⟩ hI.room (kv_Fra E hI.1) rfl hl.1 rfl (Nat.le_of_ble_eq_true rfl) d_Red_normal_42 rfl ?_
    refine lv_iconst (v := 0) hx hb d_Red_normal_45 (by decide) ?_
    refine lv_iconst (v := 0) hx hb d_Red_normal_46 (by decide) ?_
    refine kg_cV (As := [.int 1, .int (f_Fra_top 1 (f_Fra_set 0 10 γ)), .int 0, .int 0]) (rest := []) h (k_Fra_push (l := l) (g := g) (α := (f_Fra_set 0 10 γ)) hfl N 1 (f_Fra_top 1 (f_Fra_set 0 10 γ)) 0 0) S hlocks hno E hI kw_Red_94 ⟨Nat.le_of_ble_eq_true rfl, Nat.le_of_ble_eq_true rfl⟩ (kv_Fra E hI.1) rfl hl.1 rfl (Nat.le_of_ble_eq_true rfl) d_Red_normal_47 (fun α2 ad H locs cells slots e3 h hRm hI => ?_)
    exact kc_vret hx hb hr hlocks E hI h d_Red_normal_50
  refine lv_aload_n hx hb d_Red_normal_0 rfl (lv_at hl 0 rfl) ?_
  refine kf_Red_frames S E hI.1 vt_133 d_Red_normal_1 ?_
  refine lv_iconst (v := 4) hx hb d_Red_normal_4 (by decide) ?_
  refine kg_p (As := [.int 4]) (rest := []) (k_Fra_top (l := l) (g := g) (α := α) 4) S E hI.1 kw_Red_39 ⟨Nat.le_of_ble_eq_true rfl, Nat.le_of_ble_eq_true rfl⟩ hI.room (kv_Fra E hI.1) rfl hl.1 rfl (Nat.le_of_ble_eq_true rfl) d_Red_normal_5 rfl ?_
  refine lv_bipush (v := 120) hx hb d_Red_normal_8 (by decide) ?_
  refine lv_icmp_le (tgt := 22) hx hb d_Red_normal_10 (by decide) (fun c1 => ?_) (fun c1 => ?_)
  · replace h := Eq.trans (if_pos c1).symm h
    exact J22  _ _ _ _ _ _ _ h hI (lv_sub hl [0] rfl)
  · replace h := Eq.trans (if_neg c1).symm h
    refine lv_aload_n hx hb d_Red_normal_13 rfl (lv_at hl 0 rfl) ?_
    refine kf_Red_meter S E hI.1 vt_134 d_Red_normal_14 ?_
    refine lv_bipush (v := 10) hx hb d_Red_normal_17 (by decide) ?_
    refine kg_cV (As := [.int 10]) (rest := []) h (k_Meter_fail (l := l) (g := g) (α := α) hfl N 10) S hlocks hno E hI kw_Red_86 ⟨Nat.le_of_ble_eq_true rfl, Nat.le_of_ble_eq_true rfl⟩ (kv_Meter E hI.1) rfl hl.1 rfl (Nat.le_of_ble_eq_true rfl) d_Red_normal_19 (fun α4 ad H locs cells slots e5 h hRm hI => ?_)
    exact J22  _ _ _ _ _ _ _ h hI (lv_sub hl [0] rfl)
def f_Red_normalWithin (N : Nat) (a1 : Int32) (α : kS) : Option (kO × kS) := kBv (f_Fra_push N 9 a1 0 ((f_Fra_top 4 α) + 1) α) fun α1 => (some (some none, α1))
set_option maxHeartbeats 4000000 in
set_option maxRecDepth 100000 in
theorem k_Red_normalWithin {l : Launch} {g : kG} {α : kS} (hfl : kFl l) (N : Nat) (a1 : Int32)  : ∀ x, f_Red_normalWithin N a1 α = some x → kC l g y_Red_normalWithin b_Red_normalWithin 2 none 32 945 [.ref (kad g 7), .int a1] α (kQr x) := by
  intro x h
  unfold f_Red_normalWithin at h
  refine kc_ofW (by decide) (fun A ad0 p e s m args below meth c S hr hlocks hno hadm hargs E hI => ?_)
  have hx := S.1
  have hb := S.2.1
  have hown := S.2.2.2.1
  have hT := S.2.2.2.2
  subst hargs
  have hl := lv_entry ([.ref (kad g 7), .int a1]) (n := 2) (Nat.le_of_ble_eq_true rfl)
  rw [lg_entry_eq]
  generalize (lg_sl ([.ref (kad g 7), .int a1]) ++ List.replicate (2 - (lg_sl ([.ref (kad g 7), .int a1])).length) Slot.unset).toArray = ls at hl ⊢
  have hl : lv_has ls 2 [(0, .ref (kad g 7)), (1, .int a1)] := hl
  refine lv_aload_n hx hb d_Red_normalWithin_0 rfl (lv_at hl 0 rfl) ?_
  refine kf_Red_frames S E hI.1 vt_133 d_Red_normalWithin_1 ?_
  refine lv_bipush (v := 9) hx hb d_Red_normalWithin_4 (by decide) ?_
  refine lv_iload_n hx hb d_Red_normalWithin_6 rfl (lv_at hl 1 rfl) ?_
  refine lv_iconst (v := 0) hx hb d_Red_normalWithin_7 (by decide) ?_
  refine lv_aload_n hx hb d_Red_normalWithin_8 rfl (lv_at hl 0 rfl) ?_
  refine kf_Red_frames S E hI.1 vt_133 d_Red_normalWithin_9 ?_
  refine lv_iconst (v := 4) hx hb d_Red_normalWithin_12 (by decide) ?_
  refine kg_p (As := [.int 4]) (rest := [.int 0, .int a1, .int 9, .ref (kad g 6)]) (k_Fra_top (l := l) (g := g) (α := α) 4) S E hI.1 kw_Red_39 ⟨Nat.le_of_ble_eq_true rfl, Nat.le_of_ble_eq_true rfl⟩ hI.room (kv_Fra E hI.1) rfl hl.1 rfl (Nat.le_of_ble_eq_true rfl) d_Red_normalWithin_13 rfl ?_
  refine lv_iconst (v := 1) hx hb d_Red_normalWithin_16 (by decide) ?_
  refine lv_iadd hx hb d_Red_normalWithin_17 ?_
  refine kg_cV (As := [.int 9, .int a1, .int 0, .int ((f_Fra_top 4 α) + 1)]) (rest := []) h (k_Fra_push (l := l) (g := g) (α := α) hfl N 9 a1 0 ((f_Fra_top 4 α) + 1)) S hlocks hno E hI kw_Red_94 ⟨Nat.le_of_ble_eq_true rfl, Nat.le_of_ble_eq_true rfl⟩ (kv_Fra E hI.1) rfl hl.1 rfl (Nat.le_of_ble_eq_true rfl) d_Red_normalWithin_18 (fun α1 ad H locs cells slots e2 h hRm hI => ?_)
  exact kc_vret hx hb hr hlocks E hI h d_Red_normalWithin_21
theorem kw_Red_141 : kWv "FamilyKernel$Reducer" 141 "FamilyKernel$Reducer" y_Red_normalWithin b_Red_normalWithin 2 none 1 := ⟨vt_905, vt_906, vt_907, vt_54, vt_908, by decide, by decide, by decide +kernel⟩
def f_Red_normalSplit_j38 (N : Nat)  (y1 : Int32) (γ : kS) : Option (kO × kS) := kBv (f_Red_normalWithin N (f_Terms_left y1 (f_Fra_set 0 11 γ)) (f_Fra_set 0 11 γ)) fun α2 => (some (some none, α2))
def f_Red_normalSplit (N : Nat)  (α : kS) : Option (kO × kS) := if (f_Terms_kind (f_Fra_result α) α) = 6 then (f_Red_normalSplit_j38 N (f_Fra_result α) (f_Fra_set 1 (f_Fra_result α) α)) else (if (f_Terms_kind (f_Fra_result α) α) = 7 then (f_Red_normalSplit_j38 N (f_Fra_result α) (f_Fra_set 1 (f_Fra_result α) α)) else (((f_Terms_head N (f_Fra_result α) (f_Fra_set 0 13 (f_Fra_set 1 (f_Fra_result α) α)))).bind fun v5 => (((f_Terms_behind N (f_Fra_result α) (f_Fra_set 2 v5 (f_Fra_set 0 13 (f_Fra_set 1 (f_Fra_result α) α))))).bind fun v7 => (some (some none, (f_Fra_set 3 v7 (f_Fra_set 2 v5 (f_Fra_set 0 13 (f_Fra_set 1 (f_Fra_result α) α)))))))))
set_option maxHeartbeats 4000000 in
set_option maxRecDepth 100000 in
theorem k_Red_normalSplit {l : Launch} {g : kG} {α : kS} (hfl : kFl l) (N : Nat)   : ∀ x, f_Red_normalSplit N α = some x → kC l g y_Red_normalSplit b_Red_normalSplit 3 none 33 966 [.ref (kad g 7)] α (kQr x) := by
  intro x h
  unfold f_Red_normalSplit at h
  refine kc_ofW (by decide) (fun A ad0 p e s m args below meth c S hr hlocks hno hadm hargs E hI => ?_)
  have hx := S.1
  have hb := S.2.1
  have hown := S.2.2.2.1
  have hT := S.2.2.2.2
  subst hargs
  have hl := lv_entry ([.ref (kad g 7)]) (n := 3) (Nat.le_of_ble_eq_true rfl)
  rw [lg_entry_eq]
  generalize (lg_sl ([.ref (kad g 7)]) ++ List.replicate (3 - (lg_sl ([.ref (kad g 7)])).length) Slot.unset).toArray = ls at hl ⊢
  have hl : lv_has ls 3 [(0, .ref (kad g 7))] := hl
  have J38 : ∀ (y1 : Int32) (γ : kS) (ad : Nat → Nat) (H : Heap) (locs : List Loc) (cells slots : Nat) (ls : Array Slot), f_Red_normalSplit_j38 N y1 γ = some x → kI g A s α ad0 γ ad H locs cells slots → lv_has ls 3 [(1, .int y1), (0, .ref (kad g 7))] → W p l e (kR 33 966 α) s m ([.ref (kad g 7)]).toArray below meth c H locs cells slots (vEQ below (kQ g A α ad0 (kQr x)) ([.ref (kad g 7)]).toArray s A) (F0 m 38 ls []) := by
    intro y1 γ ad H locs cells slots ls h hI hl
    unfold f_Red_normalSplit_j38 at h
    refine lv_aload_n hx hb d_Red_normalSplit_38 rfl (lv_at hl 1 rfl) ?_
    refine kf_Red_frames S E hI.1 vt_133 d_Red_normalSplit_39 ?_
    refine lv_iconst (v := 0) hx hb d_Red_normalSplit_42 (by decide) ?_
    refine lv_bipush (v := 11) hx hb d_Red_normalSplit_43 (by decide) ?_
    refine kg_tV (As := [.int 0, .int 11]) (rest := []) (k_Fra_set (l := l) (g := g) (α := γ) 0 11) S hlocks hno E hI kw_Red_91 ⟨Nat.le_of_ble_eq_true rfl, Nat.le_of_ble_eq_true rfl⟩ (kv_Fra E hI.1) rfl hl.1 rfl (Nat.le_of_ble_eq_true rfl) d_Red_normalSplit_45 (fun ad H locs cells slots hRm hI => ?_)
    refine lv_aload_n hx hb d_Red_normalSplit_48 rfl (lv_at hl 1 rfl) ?_
    refine lv_aload_n hx hb d_Red_normalSplit_49 rfl (lv_at hl 1 rfl) ?_
    refine kf_Red_terms S E hI.1 vt_135 d_Red_normalSplit_50 ?_
    refine lv_iload_n hx hb d_Red_normalSplit_53 rfl (lv_at hl 0 rfl) ?_
    refine kg_p (As := [.int y1]) (rest := [.ref (kad g 7)]) (k_Terms_left (l := l) (g := g) (α := (f_Fra_set 0 11 γ)) y1) S E hI.1 kw_Red_68 ⟨Nat.le_of_ble_eq_true rfl, Nat.le_of_ble_eq_true rfl⟩ hI.room (kv_Terms E hI.1) rfl hl.1 rfl (Nat.le_of_ble_eq_true rfl) d_Red_normalSplit_54 rfl ?_
    refine kg_cV (As := [.int (f_Terms_left y1 (f_Fra_set 0 11 γ))]) (rest := []) h (k_Red_normalWithin (l := l) (g := g) (α := (f_Fra_set 0 11 γ)) hfl N (f_Terms_left y1 (f_Fra_set 0 11 γ))) S hlocks hno E hI kw_Red_141 ⟨Nat.le_of_ble_eq_true rfl, Nat.le_of_ble_eq_true rfl⟩ (kv_Red E hI.1) rfl hl.1 rfl (Nat.le_of_ble_eq_true rfl) d_Red_normalSplit_57 (fun α2 ad H locs cells slots e3 h hRm hI => ?_)
    refine lv_goto (tgt := 105) hx hb d_Red_normalSplit_60 (by decide) ?_
    exact kc_vret hx hb hr hlocks E hI h d_Red_normalSplit_105
  refine lv_aload_n hx hb d_Red_normalSplit_0 rfl (lv_at hl 0 rfl) ?_
  refine kf_Red_frames S E hI.1 vt_133 d_Red_normalSplit_1 ?_
  refine kg_p (As := []) (rest := []) (k_Fra_result (l := l) (g := g) (α := α) ) S E hI.1 kw_Red_124 ⟨Nat.le_of_ble_eq_true rfl, Nat.le_of_ble_eq_true rfl⟩ hI.room (kv_Fra E hI.1) rfl hl.1 rfl (Nat.le_of_ble_eq_true rfl) d_Red_normalSplit_4 rfl ?_
  refine lv_istore_n (lv' := [(1, .int (f_Fra_result α)), (0, .ref (kad g 7))]) hx hb d_Red_normalSplit_7 rfl hl (by decide) rfl (fun ls hl => ?_)
  refine lv_aload_n hx hb d_Red_normalSplit_8 rfl (lv_at hl 1 rfl) ?_
  refine kf_Red_terms S E hI.1 vt_135 d_Red_normalSplit_9 ?_
  refine lv_iload_n hx hb d_Red_normalSplit_12 rfl (lv_at hl 0 rfl) ?_
  refine kg_p (As := [.int (f_Fra_result α)]) (rest := []) (k_Terms_kind (l := l) (g := g) (α := α) (f_Fra_result α)) S E hI.1 kw_Red_51 ⟨Nat.le_of_ble_eq_true rfl, Nat.le_of_ble_eq_true rfl⟩ hI.room (kv_Terms E hI.1) rfl hl.1 rfl (Nat.le_of_ble_eq_true rfl) d_Red_normalSplit_13 rfl ?_
  refine lv_istore_n (lv' := [(2, .int (f_Terms_kind (f_Fra_result α) α)), (1, .int (f_Fra_result α)), (0, .ref (kad g 7))]) hx hb d_Red_normalSplit_16 rfl hl (by decide) rfl (fun ls hl => ?_)
  refine lv_aload_n hx hb d_Red_normalSplit_17 rfl (lv_at hl 2 rfl) ?_
  refine kf_Red_frames S E hI.1 vt_133 d_Red_normalSplit_18 ?_
  refine lv_iconst (v := 1) hx hb d_Red_normalSplit_21 (by decide) ?_
  refine lv_iload_n hx hb d_Red_normalSplit_22 rfl (lv_at hl 1 rfl) ?_
  refine kg_tV (As := [.int 1, .int (f_Fra_result α)]) (rest := []) (k_Fra_set (l := l) (g := g) (α := α) 1 (f_Fra_result α)) S hlocks hno E hI kw_Red_91 ⟨Nat.le_of_ble_eq_true rfl, Nat.le_of_ble_eq_true rfl⟩ (kv_Fra E hI.1) rfl hl.1 rfl (Nat.le_of_ble_eq_true rfl) d_Red_normalSplit_23 (fun ad H locs cells slots hRm hI => ?_)
  refine lv_iload_n hx hb d_Red_normalSplit_26 rfl (lv_at hl 0 rfl) ?_
  refine lv_bipush (v := 6) hx hb d_Red_normalSplit_27 (by decide) ?_
  refine lv_icmp_eq (tgt := 38) hx hb d_Red_normalSplit_29 (by decide) (fun c1 => ?_) (fun c1 => ?_)
  · replace h := Eq.trans (if_pos c1).symm h
    exact J38 (f_Fra_result α) _ _ _ _ _ _ _ h hI (lv_sub hl [1, 2] rfl)
  · replace h := Eq.trans (if_neg c1).symm h
    refine lv_iload_n hx hb d_Red_normalSplit_32 rfl (lv_at hl 0 rfl) ?_
    refine lv_bipush (v := 7) hx hb d_Red_normalSplit_33 (by decide) ?_
    refine lv_icmp_ne (tgt := 63) hx hb d_Red_normalSplit_35 (by decide) (fun c4 => ?_) (fun c4 => ?_)
    · replace h := Eq.trans (if_neg c4).symm h
      refine lv_aload_n hx hb d_Red_normalSplit_63 rfl (lv_at hl 2 rfl) ?_
      refine kf_Red_frames S E hI.1 vt_133 d_Red_normalSplit_64 ?_
      refine lv_iconst (v := 0) hx hb d_Red_normalSplit_67 (by decide) ?_
      refine lv_bipush (v := 13) hx hb d_Red_normalSplit_68 (by decide) ?_
      refine kg_tV (As := [.int 0, .int 13]) (rest := []) (k_Fra_set (l := l) (g := g) (α := (f_Fra_set 1 (f_Fra_result α) α)) 0 13) S hlocks hno E hI kw_Red_91 ⟨Nat.le_of_ble_eq_true rfl, Nat.le_of_ble_eq_true rfl⟩ (kv_Fra E hI.1) rfl hl.1 rfl (Nat.le_of_ble_eq_true rfl) d_Red_normalSplit_70 (fun ad H locs cells slots hRm hI => ?_)
      refine lv_aload_n hx hb d_Red_normalSplit_73 rfl (lv_at hl 2 rfl) ?_
      refine kf_Red_frames S E hI.1 vt_133 d_Red_normalSplit_74 ?_
      refine lv_iconst (v := 2) hx hb d_Red_normalSplit_77 (by decide) ?_
      refine lv_aload_n hx hb d_Red_normalSplit_78 rfl (lv_at hl 2 rfl) ?_
      refine kf_Red_terms S E hI.1 vt_135 d_Red_normalSplit_79 ?_
      refine lv_iload_n hx hb d_Red_normalSplit_82 rfl (lv_at hl 1 rfl) ?_
      obtain ⟨v5, e6, h⟩ := Option.bind_eq_some_iff.mp h
      refine kg_p (As := [.int (f_Fra_result α)]) (rest := [.int 2, .ref (kad g 6)]) ((k_Terms_head (l := l) (g := g) (α := (f_Fra_set 0 13 (f_Fra_set 1 (f_Fra_result α) α))) N (f_Fra_result α)) _ e6) S E hI.1 kw_Red_43 ⟨Nat.le_of_ble_eq_true rfl, Nat.le_of_ble_eq_true rfl⟩ hI.room (kv_Terms E hI.1) rfl hl.1 rfl (Nat.le_of_ble_eq_true rfl) d_Red_normalSplit_83 rfl ?_
      refine kg_tV (As := [.int 2, .int v5]) (rest := []) (k_Fra_set (l := l) (g := g) (α := (f_Fra_set 0 13 (f_Fra_set 1 (f_Fra_result α) α))) 2 v5) S hlocks hno E hI kw_Red_91 ⟨Nat.le_of_ble_eq_true rfl, Nat.le_of_ble_eq_true rfl⟩ (kv_Fra E hI.1) rfl hl.1 rfl (Nat.le_of_ble_eq_true rfl) d_Red_normalSplit_86 (fun ad H locs cells slots hRm hI => ?_)
      refine lv_aload_n hx hb d_Red_normalSplit_89 rfl (lv_at hl 2 rfl) ?_
      refine kf_Red_frames S E hI.1 vt_133 d_Red_normalSplit_90 ?_
      refine lv_iconst (v := 3) hx hb d_Red_normalSplit_93 (by decide) ?_
      refine lv_aload_n hx hb d_Red_normalSplit_94 rfl (lv_at hl 2 rfl) ?_
      refine kf_Red_terms S E hI.1 vt_135 d_Red_normalSplit_95 ?_
      refine lv_iload_n hx hb d_Red_normalSplit_98 rfl (lv_at hl 1 rfl) ?_
      obtain ⟨v7, e8, h⟩ := Option.bind_eq_some_iff.mp h
      refine kg_p (As := [.int (f_Fra_result α)]) (rest := [.int 3, .ref (kad g 6)]) ((k_Terms_behind (l := l) (g := g) (α := (f_Fra_set 2 v5 (f_Fra_set 0 13 (f_Fra_set 1 (f_Fra_result α) α)))) N (f_Fra_result α)) _ e8) S E hI.1 kw_Red_48 ⟨Nat.le_of_ble_eq_true rfl, Nat.le_of_ble_eq_true rfl⟩ hI.room (kv_Terms E hI.1) rfl hl.1 rfl (Nat.le_of_ble_eq_true rfl) d_Red_normalSplit_99 rfl ?_
      refine kg_tV (As := [.int 3, .int v7]) (rest := []) (k_Fra_set (l := l) (g := g) (α := (f_Fra_set 2 v5 (f_Fra_set 0 13 (f_Fra_set 1 (f_Fra_result α) α)))) 3 v7) S hlocks hno E hI kw_Red_91 ⟨Nat.le_of_ble_eq_true rfl, Nat.le_of_ble_eq_true rfl⟩ (kv_Fra E hI.1) rfl hl.1 rfl (Nat.le_of_ble_eq_true rfl) d_Red_normalSplit_102 (fun ad H locs cells slots hRm hI => ?_)
      exact kc_vret hx hb hr hlocks E hI h d_Red_normalSplit_105
    · replace h := Eq.trans (if_pos c4).symm h
      exact J38 (f_Fra_result α) _ _ _ _ _ _ _ h hI (lv_sub hl [1, 2] rfl)
def f_Red_normalBody (N : Nat)  (α : kS) : Option (kO × kS) := kBi (f_Fra_newVariable N (-1) (f_Fra_set 0 12 (f_Fra_set 2 (f_Fra_result α) α))) fun v3 α1 => (kBi (f_Terms_make N 1 v3 0 α1) fun v6 α4 => (kBi (f_Terms_rewrite N 0 (f_Terms_right (f_Fra_top 1 α4) α4) v6 α4) fun v9 α7 => (kBv (f_Red_normalWithin N v9 α7) fun α10 => (some (some none, α10)))))
set_option maxHeartbeats 4000000 in
set_option maxRecDepth 100000 in
theorem k_Red_normalBody {l : Launch} {g : kG} {α : kS} (hfl : kFl l) (N : Nat)   : ∀ x, f_Red_normalBody N α = some x → kC l g y_Red_normalBody b_Red_normalBody 2 none 33 966 [.ref (kad g 7)] α (kQr x) := by
  intro x h
  unfold f_Red_normalBody at h
  refine kc_ofW (by decide) (fun A ad0 p e s m args below meth c S hr hlocks hno hadm hargs E hI => ?_)
  have hx := S.1
  have hb := S.2.1
  have hown := S.2.2.2.1
  have hT := S.2.2.2.2
  subst hargs
  have hl := lv_entry ([.ref (kad g 7)]) (n := 2) (Nat.le_of_ble_eq_true rfl)
  rw [lg_entry_eq]
  generalize (lg_sl ([.ref (kad g 7)]) ++ List.replicate (2 - (lg_sl ([.ref (kad g 7)])).length) Slot.unset).toArray = ls at hl ⊢
  have hl : lv_has ls 2 [(0, .ref (kad g 7))] := hl
  refine lv_aload_n hx hb d_Red_normalBody_0 rfl (lv_at hl 0 rfl) ?_
  refine kf_Red_frames S E hI.1 vt_133 d_Red_normalBody_1 ?_
  refine lv_iconst (v := 2) hx hb d_Red_normalBody_4 (by decide) ?_
  refine lv_aload_n hx hb d_Red_normalBody_5 rfl (lv_at hl 0 rfl) ?_
  refine kf_Red_frames S E hI.1 vt_133 d_Red_normalBody_6 ?_
  refine kg_p (As := []) (rest := [.int 2, .ref (kad g 6)]) (k_Fra_result (l := l) (g := g) (α := α) ) S E hI.1 kw_Red_124 ⟨Nat.le_of_ble_eq_true rfl, Nat.le_of_ble_eq_true rfl⟩ hI.room (kv_Fra E hI.1) rfl hl.1 rfl (Nat.le_of_ble_eq_true rfl) d_Red_normalBody_9 rfl ?_
  refine kg_tV (As := [.int 2, .int (f_Fra_result α)]) (rest := []) (k_Fra_set (l := l) (g := g) (α := α) 2 (f_Fra_result α)) S hlocks hno E hI kw_Red_91 ⟨Nat.le_of_ble_eq_true rfl, Nat.le_of_ble_eq_true rfl⟩ (kv_Fra E hI.1) rfl hl.1 rfl (Nat.le_of_ble_eq_true rfl) d_Red_normalBody_12 (fun ad H locs cells slots hRm hI => ?_)
  refine lv_aload_n hx hb d_Red_normalBody_15 rfl (lv_at hl 0 rfl) ?_
  refine kf_Red_frames S E hI.1 vt_133 d_Red_normalBody_16 ?_
  refine lv_iconst (v := 0) hx hb d_Red_normalBody_19 (by decide) ?_
  refine lv_bipush (v := 12) hx hb d_Red_normalBody_20 (by decide) ?_
  refine kg_tV (As := [.int 0, .int 12]) (rest := []) (k_Fra_set (l := l) (g := g) (α := (f_Fra_set 2 (f_Fra_result α) α)) 0 12) S hlocks hno E hI kw_Red_91 ⟨Nat.le_of_ble_eq_true rfl, Nat.le_of_ble_eq_true rfl⟩ (kv_Fra E hI.1) rfl hl.1 rfl (Nat.le_of_ble_eq_true rfl) d_Red_normalBody_22 (fun ad H locs cells slots hRm hI => ?_)
  refine lv_aload_n hx hb d_Red_normalBody_25 rfl (lv_at hl 0 rfl) ?_
  refine kf_Red_terms S E hI.1 vt_135 d_Red_normalBody_26 ?_
  refine lv_iconst (v := 1) hx hb d_Red_normalBody_29 (by decide) ?_
  refine lv_aload_n hx hb d_Red_normalBody_30 rfl (lv_at hl 0 rfl) ?_
  refine kf_Red_frames S E hI.1 vt_133 d_Red_normalBody_31 ?_
  refine lv_iconst (v := (-1)) hx hb d_Red_normalBody_34 (by decide) ?_
  refine kg_cI (As := [.int (-1)]) (rest := [.int 1, .ref (kad g 2)]) h (k_Fra_newVariable (l := l) (g := g) (α := (f_Fra_set 0 12 (f_Fra_set 2 (f_Fra_result α) α))) hfl N (-1)) S hlocks hno E hI kw_Red_132 ⟨Nat.le_of_ble_eq_true rfl, Nat.le_of_ble_eq_true rfl⟩ (kv_Fra E hI.1) rfl hl.1 rfl (Nat.le_of_ble_eq_true rfl) d_Red_normalBody_35 (fun v3 α1 ad H locs cells slots e2 h hRm hI => ?_)
  refine lv_iconst (v := 0) hx hb d_Red_normalBody_38 (by decide) ?_
  refine kg_cI (As := [.int 1, .int v3, .int 0]) (rest := []) h (k_Terms_make (l := l) (g := g) (α := α1) hfl N 1 v3 0) S hlocks hno E hI kw_Red_116 ⟨Nat.le_of_ble_eq_true rfl, Nat.le_of_ble_eq_true rfl⟩ (kv_Terms E hI.1) rfl hl.1 rfl (Nat.le_of_ble_eq_true rfl) d_Red_normalBody_39 (fun v6 α4 ad H locs cells slots e5 h hRm hI => ?_)
  refine lv_istore_n (lv' := [(1, .int v6), (0, .ref (kad g 7))]) hx hb d_Red_normalBody_42 rfl hl (by decide) rfl (fun ls hl => ?_)
  refine lv_aload_n hx hb d_Red_normalBody_43 rfl (lv_at hl 1 rfl) ?_
  refine lv_aload_n hx hb d_Red_normalBody_44 rfl (lv_at hl 1 rfl) ?_
  refine kf_Red_terms S E hI.1 vt_135 d_Red_normalBody_45 ?_
  refine lv_iconst (v := 0) hx hb d_Red_normalBody_48 (by decide) ?_
  refine lv_aload_n hx hb d_Red_normalBody_49 rfl (lv_at hl 1 rfl) ?_
  refine kf_Red_terms S E hI.1 vt_135 d_Red_normalBody_50 ?_
  refine lv_aload_n hx hb d_Red_normalBody_53 rfl (lv_at hl 1 rfl) ?_
  refine kf_Red_frames S E hI.1 vt_133 d_Red_normalBody_54 ?_
  refine lv_iconst (v := 1) hx hb d_Red_normalBody_57 (by decide) ?_
  refine kg_p (As := [.int 1]) (rest := [.ref (kad g 2), .int 0, .ref (kad g 2), .ref (kad g 7)]) (k_Fra_top (l := l) (g := g) (α := α4) 1) S E hI.1 kw_Red_39 ⟨Nat.le_of_ble_eq_true rfl, Nat.le_of_ble_eq_true rfl⟩ hI.room (kv_Fra E hI.1) rfl hl.1 rfl (Nat.le_of_ble_eq_true rfl) d_Red_normalBody_58 rfl ?_
  refine kg_p (As := [.int (f_Fra_top 1 α4)]) (rest := [.int 0, .ref (kad g 2), .ref (kad g 7)]) (k_Terms_right (l := l) (g := g) (α := α4) (f_Fra_top 1 α4)) S E hI.1 kw_Red_58 ⟨Nat.le_of_ble_eq_true rfl, Nat.le_of_ble_eq_true rfl⟩ hI.room (kv_Terms E hI.1) rfl hl.1 rfl (Nat.le_of_ble_eq_true rfl) d_Red_normalBody_61 rfl ?_
  refine lv_iload_n hx hb d_Red_normalBody_64 rfl (lv_at hl 0 rfl) ?_
  refine kg_cI (As := [.int 0, .int (f_Terms_right (f_Fra_top 1 α4) α4), .int v6]) (rest := [.ref (kad g 7)]) h (k_Terms_rewrite (l := l) (g := g) (α := α4) hfl N 0 (f_Terms_right (f_Fra_top 1 α4) α4) v6) S hlocks hno E hI kw_Red_61 ⟨Nat.le_of_ble_eq_true rfl, Nat.le_of_ble_eq_true rfl⟩ (kv_Terms E hI.1) rfl hl.1 rfl (Nat.le_of_ble_eq_true rfl) d_Red_normalBody_65 (fun v9 α7 ad H locs cells slots e8 h hRm hI => ?_)
  refine kg_cV (As := [.int v9]) (rest := []) h (k_Red_normalWithin (l := l) (g := g) (α := α7) hfl N v9) S hlocks hno E hI kw_Red_141 ⟨Nat.le_of_ble_eq_true rfl, Nat.le_of_ble_eq_true rfl⟩ (kv_Red E hI.1) rfl hl.1 rfl (Nat.le_of_ble_eq_true rfl) d_Red_normalBody_68 (fun α10 ad H locs cells slots e11 h hRm hI => ?_)
  exact kc_vret hx hb hr hlocks E hI h d_Red_normalBody_71
def f_Red_normalClose (N : Nat)  (α : kS) : Option (kO × kS) := kBi (f_Terms_rewrite N 2 (f_Fra_result α) (f_Fra_dropVariable α).1 (f_Fra_dropVariable α).2) fun v3 α1 => (kBi (f_Terms_make N (f_Terms_kind (f_Fra_top 1 α1) α1) (f_Fra_top 2 α1) v3 α1) fun v6 α4 => (some (some none, (f_Fra_give v6 α4))))
set_option maxHeartbeats 4000000 in
set_option maxRecDepth 100000 in
theorem k_Red_normalClose {l : Launch} {g : kG} {α : kS} (hfl : kFl l) (N : Nat)   : ∀ x, f_Red_normalClose N α = some x → kC l g y_Red_normalClose b_Red_normalClose 3 none 32 949 [.ref (kad g 7)] α (kQr x) := by
  intro x h
  unfold f_Red_normalClose at h
  refine kc_ofW (by decide) (fun A ad0 p e s m args below meth c S hr hlocks hno hadm hargs E hI => ?_)
  have hx := S.1
  have hb := S.2.1
  have hown := S.2.2.2.1
  have hT := S.2.2.2.2
  subst hargs
  have hl := lv_entry ([.ref (kad g 7)]) (n := 3) (Nat.le_of_ble_eq_true rfl)
  rw [lg_entry_eq]
  generalize (lg_sl ([.ref (kad g 7)]) ++ List.replicate (3 - (lg_sl ([.ref (kad g 7)])).length) Slot.unset).toArray = ls at hl ⊢
  have hl : lv_has ls 3 [(0, .ref (kad g 7))] := hl
  refine lv_aload_n hx hb d_Red_normalClose_0 rfl (lv_at hl 0 rfl) ?_
  refine kf_Red_terms S E hI.1 vt_135 d_Red_normalClose_1 ?_
  refine lv_iconst (v := 2) hx hb d_Red_normalClose_4 (by decide) ?_
  refine lv_aload_n hx hb d_Red_normalClose_5 rfl (lv_at hl 0 rfl) ?_
  refine kf_Red_frames S E hI.1 vt_133 d_Red_normalClose_6 ?_
  refine kg_p (As := []) (rest := [.int 2, .ref (kad g 2)]) (k_Fra_result (l := l) (g := g) (α := α) ) S E hI.1 kw_Red_124 ⟨Nat.le_of_ble_eq_true rfl, Nat.le_of_ble_eq_true rfl⟩ hI.room (kv_Fra E hI.1) rfl hl.1 rfl (Nat.le_of_ble_eq_true rfl) d_Red_normalClose_9 rfl ?_
  refine lv_aload_n hx hb d_Red_normalClose_12 rfl (lv_at hl 0 rfl) ?_
  refine kf_Red_frames S E hI.1 vt_133 d_Red_normalClose_13 ?_
  refine kg_tI (As := []) (rest := [.int (f_Fra_result α), .int 2, .ref (kad g 2)]) (k_Fra_dropVariable (l := l) (g := g) (α := α) ) S hlocks hno E hI kw_Red_138 ⟨Nat.le_of_ble_eq_true rfl, Nat.le_of_ble_eq_true rfl⟩ (kv_Fra E hI.1) rfl hl.1 rfl (Nat.le_of_ble_eq_true rfl) d_Red_normalClose_16 (fun ad H locs cells slots hRm hI => ?_)
  refine kg_cI (As := [.int 2, .int (f_Fra_result α), .int (f_Fra_dropVariable α).1]) (rest := []) h (k_Terms_rewrite (l := l) (g := g) (α := (f_Fra_dropVariable α).2) hfl N 2 (f_Fra_result α) (f_Fra_dropVariable α).1) S hlocks hno E hI kw_Red_61 ⟨Nat.le_of_ble_eq_true rfl, Nat.le_of_ble_eq_true rfl⟩ (kv_Terms E hI.1) rfl hl.1 rfl (Nat.le_of_ble_eq_true rfl) d_Red_normalClose_19 (fun v3 α1 ad H locs cells slots e2 h hRm hI => ?_)
  refine lv_istore_n (lv' := [(1, .int v3), (0, .ref (kad g 7))]) hx hb d_Red_normalClose_22 rfl hl (by decide) rfl (fun ls hl => ?_)
  refine lv_aload_n hx hb d_Red_normalClose_23 rfl (lv_at hl 1 rfl) ?_
  refine kf_Red_terms S E hI.1 vt_135 d_Red_normalClose_24 ?_
  refine lv_aload_n hx hb d_Red_normalClose_27 rfl (lv_at hl 1 rfl) ?_
  refine kf_Red_frames S E hI.1 vt_133 d_Red_normalClose_28 ?_
  refine lv_iconst (v := 1) hx hb d_Red_normalClose_31 (by decide) ?_
  refine kg_p (As := [.int 1]) (rest := [.ref (kad g 2)]) (k_Fra_top (l := l) (g := g) (α := α1) 1) S E hI.1 kw_Red_39 ⟨Nat.le_of_ble_eq_true rfl, Nat.le_of_ble_eq_true rfl⟩ hI.room (kv_Fra E hI.1) rfl hl.1 rfl (Nat.le_of_ble_eq_true rfl) d_Red_normalClose_32 rfl ?_
  refine kg_p (As := [.int (f_Fra_top 1 α1)]) (rest := []) (k_Terms_kind (l := l) (g := g) (α := α1) (f_Fra_top 1 α1)) S E hI.1 kw_Red_51 ⟨Nat.le_of_ble_eq_true rfl, Nat.le_of_ble_eq_true rfl⟩ hI.room (kv_Terms E hI.1) rfl hl.1 rfl (Nat.le_of_ble_eq_true rfl) d_Red_normalClose_35 rfl ?_
  refine lv_istore_n (lv' := [(2, .int (f_Terms_kind (f_Fra_top 1 α1) α1)), (1, .int v3), (0, .ref (kad g 7))]) hx hb d_Red_normalClose_38 rfl hl (by decide) rfl (fun ls hl => ?_)
  refine lv_aload_n hx hb d_Red_normalClose_39 rfl (lv_at hl 2 rfl) ?_
  refine kf_Red_frames S E hI.1 vt_133 d_Red_normalClose_40 ?_
  refine lv_aload_n hx hb d_Red_normalClose_43 rfl (lv_at hl 2 rfl) ?_
  refine kf_Red_terms S E hI.1 vt_135 d_Red_normalClose_44 ?_
  refine lv_iload_n hx hb d_Red_normalClose_47 rfl (lv_at hl 0 rfl) ?_
  refine lv_aload_n hx hb d_Red_normalClose_48 rfl (lv_at hl 2 rfl) ?_
  refine kf_Red_frames S E hI.1 vt_133 d_Red_normalClose_49 ?_
  refine lv_iconst (v := 2) hx hb d_Red_normalClose_52 (by decide) ?_
  refine kg_p (As := [.int 2]) (rest := [.int (f_Terms_kind (f_Fra_top 1 α1) α1), .ref (kad g 2), .ref (kad g 6)]) (k_Fra_top (l := l) (g := g) (α := α1) 2) S E hI.1 kw_Red_39 ⟨Nat.le_of_ble_eq_true rfl, Nat.le_of_ble_eq_true rfl⟩ hI.room (kv_Fra E hI.1) rfl hl.1 rfl (Nat.le_of_ble_eq_true rfl) d_Red_normalClose_53 rfl ?_
  refine lv_iload_n hx hb d_Red_normalClose_56 rfl (lv_at hl 1 rfl) ?_
  refine kg_cI (As := [.int (f_Terms_kind (f_Fra_top 1 α1) α1), .int (f_Fra_top 2 α1), .int v3]) (rest := [.ref (kad g 6)]) h (k_Terms_make (l := l) (g := g) (α := α1) hfl N (f_Terms_kind (f_Fra_top 1 α1) α1) (f_Fra_top 2 α1) v3) S hlocks hno E hI kw_Red_116 ⟨Nat.le_of_ble_eq_true rfl, Nat.le_of_ble_eq_true rfl⟩ (kv_Terms E hI.1) rfl hl.1 rfl (Nat.le_of_ble_eq_true rfl) d_Red_normalClose_57 (fun v6 α4 ad H locs cells slots e5 h hRm hI => ?_)
  refine kg_tV (As := [.int v6]) (rest := []) (k_Fra_give (l := l) (g := g) (α := α4) v6) S hlocks hno E hI kw_Red_82 ⟨Nat.le_of_ble_eq_true rfl, Nat.le_of_ble_eq_true rfl⟩ (kv_Fra E hI.1) rfl hl.1 rfl (Nat.le_of_ble_eq_true rfl) d_Red_normalClose_60 (fun ad H locs cells slots hRm hI => ?_)
  exact kc_vret hx hb hr hlocks E hI h d_Red_normalClose_63
def f_Red_normalArgument (N : Nat)  (α : kS) : Option (kO × kS) := if 0 ≤ ((f_Fra_top 3 α) - 1) then (((f_Terms_fromLast N (f_Fra_top 1 (f_Fra_set 0 14 (f_Fra_set 3 ((f_Fra_top 3 α) - 1) α))) ((f_Fra_top 3 α) - 1) (f_Fra_set 0 14 (f_Fra_set 3 ((f_Fra_top 3 α) - 1) α)))).bind fun v2 => (kBv (f_Red_normalWithin N v2 (f_Fra_set 0 14 (f_Fra_set 3 ((f_Fra_top 3 α) - 1) α))) fun α4 => (some (some none, α4)))) else (some (some none, (f_Fra_give (f_Fra_top 2 α) α)))
set_option maxHeartbeats 4000000 in
set_option maxRecDepth 100000 in
theorem k_Red_normalArgument {l : Launch} {g : kG} {α : kS} (hfl : kFl l) (N : Nat)   : ∀ x, f_Red_normalArgument N α = some x → kC l g y_Red_normalArgument b_Red_normalArgument 2 none 33 966 [.ref (kad g 7)] α (kQr x) := by
  intro x h
  unfold f_Red_normalArgument at h
  refine kc_ofW (by decide) (fun A ad0 p e s m args below meth c S hr hlocks hno hadm hargs E hI => ?_)
  have hx := S.1
  have hb := S.2.1
  have hown := S.2.2.2.1
  have hT := S.2.2.2.2
  subst hargs
  have hl := lv_entry ([.ref (kad g 7)]) (n := 2) (Nat.le_of_ble_eq_true rfl)
  rw [lg_entry_eq]
  generalize (lg_sl ([.ref (kad g 7)]) ++ List.replicate (2 - (lg_sl ([.ref (kad g 7)])).length) Slot.unset).toArray = ls at hl ⊢
  have hl : lv_has ls 2 [(0, .ref (kad g 7))] := hl
  refine lv_aload_n hx hb d_Red_normalArgument_0 rfl (lv_at hl 0 rfl) ?_
  refine kf_Red_frames S E hI.1 vt_133 d_Red_normalArgument_1 ?_
  refine lv_iconst (v := 3) hx hb d_Red_normalArgument_4 (by decide) ?_
  refine kg_p (As := [.int 3]) (rest := []) (k_Fra_top (l := l) (g := g) (α := α) 3) S E hI.1 kw_Red_39 ⟨Nat.le_of_ble_eq_true rfl, Nat.le_of_ble_eq_true rfl⟩ hI.room (kv_Fra E hI.1) rfl hl.1 rfl (Nat.le_of_ble_eq_true rfl) d_Red_normalArgument_5 rfl ?_
  refine lv_iconst (v := 1) hx hb d_Red_normalArgument_8 (by decide) ?_
  refine lv_isub hx hb d_Red_normalArgument_9 ?_
  refine lv_istore_n (lv' := [(1, .int ((f_Fra_top 3 α) - 1)), (0, .ref (kad g 7))]) hx hb d_Red_normalArgument_10 rfl hl (by decide) rfl (fun ls hl => ?_)
  refine lv_iload_n hx hb d_Red_normalArgument_11 rfl (lv_at hl 0 rfl) ?_
  refine lv_if_ge (tgt := 33) hx hb d_Red_normalArgument_12 (by decide) (fun c1 => ?_) (fun c1 => ?_)
  · replace h := Eq.trans (if_pos c1).symm h
    refine lv_aload_n hx hb d_Red_normalArgument_33 rfl (lv_at hl 1 rfl) ?_
    refine kf_Red_frames S E hI.1 vt_133 d_Red_normalArgument_34 ?_
    refine lv_iconst (v := 3) hx hb d_Red_normalArgument_37 (by decide) ?_
    refine lv_iload_n hx hb d_Red_normalArgument_38 rfl (lv_at hl 0 rfl) ?_
    refine kg_tV (As := [.int 3, .int ((f_Fra_top 3 α) - 1)]) (rest := []) (k_Fra_set (l := l) (g := g) (α := α) 3 ((f_Fra_top 3 α) - 1)) S hlocks hno E hI kw_Red_91 ⟨Nat.le_of_ble_eq_true rfl, Nat.le_of_ble_eq_true rfl⟩ (kv_Fra E hI.1) rfl hl.1 rfl (Nat.le_of_ble_eq_true rfl) d_Red_normalArgument_39 (fun ad H locs cells slots hRm hI => ?_)
    refine lv_aload_n hx hb d_Red_normalArgument_42 rfl (lv_at hl 1 rfl) ?_
    refine kf_Red_frames S E hI.1 vt_133 d_Red_normalArgument_43 ?_
    refine lv_iconst (v := 0) hx hb d_Red_normalArgument_46 (by decide) ?_
    refine lv_bipush (v := 14) hx hb d_Red_normalArgument_47 (by decide) ?_
    refine kg_tV (As := [.int 0, .int 14]) (rest := []) (k_Fra_set (l := l) (g := g) (α := (f_Fra_set 3 ((f_Fra_top 3 α) - 1) α)) 0 14) S hlocks hno E hI kw_Red_91 ⟨Nat.le_of_ble_eq_true rfl, Nat.le_of_ble_eq_true rfl⟩ (kv_Fra E hI.1) rfl hl.1 rfl (Nat.le_of_ble_eq_true rfl) d_Red_normalArgument_49 (fun ad H locs cells slots hRm hI => ?_)
    refine lv_aload_n hx hb d_Red_normalArgument_52 rfl (lv_at hl 1 rfl) ?_
    refine lv_aload_n hx hb d_Red_normalArgument_53 rfl (lv_at hl 1 rfl) ?_
    refine kf_Red_terms S E hI.1 vt_135 d_Red_normalArgument_54 ?_
    refine lv_aload_n hx hb d_Red_normalArgument_57 rfl (lv_at hl 1 rfl) ?_
    refine kf_Red_frames S E hI.1 vt_133 d_Red_normalArgument_58 ?_
    refine lv_iconst (v := 1) hx hb d_Red_normalArgument_61 (by decide) ?_
    refine kg_p (As := [.int 1]) (rest := [.ref (kad g 2), .ref (kad g 7)]) (k_Fra_top (l := l) (g := g) (α := (f_Fra_set 0 14 (f_Fra_set 3 ((f_Fra_top 3 α) - 1) α))) 1) S E hI.1 kw_Red_39 ⟨Nat.le_of_ble_eq_true rfl, Nat.le_of_ble_eq_true rfl⟩ hI.room (kv_Fra E hI.1) rfl hl.1 rfl (Nat.le_of_ble_eq_true rfl) d_Red_normalArgument_62 rfl ?_
    refine lv_iload_n hx hb d_Red_normalArgument_65 rfl (lv_at hl 0 rfl) ?_
    obtain ⟨v2, e3, h⟩ := Option.bind_eq_some_iff.mp h
    refine kg_p (As := [.int (f_Fra_top 1 (f_Fra_set 0 14 (f_Fra_set 3 ((f_Fra_top 3 α) - 1) α))), .int ((f_Fra_top 3 α) - 1)]) (rest := [.ref (kad g 7)]) ((k_Terms_fromLast (l := l) (g := g) (α := (f_Fra_set 0 14 (f_Fra_set 3 ((f_Fra_top 3 α) - 1) α))) N (f_Fra_top 1 (f_Fra_set 0 14 (f_Fra_set 3 ((f_Fra_top 3 α) - 1) α))) ((f_Fra_top 3 α) - 1)) _ e3) S E hI.1 kw_Red_54 ⟨Nat.le_of_ble_eq_true rfl, Nat.le_of_ble_eq_true rfl⟩ hI.room (kv_Terms E hI.1) rfl hl.1 rfl (Nat.le_of_ble_eq_true rfl) d_Red_normalArgument_66 rfl ?_
    refine kg_cV (As := [.int v2]) (rest := []) h (k_Red_normalWithin (l := l) (g := g) (α := (f_Fra_set 0 14 (f_Fra_set 3 ((f_Fra_top 3 α) - 1) α))) hfl N v2) S hlocks hno E hI kw_Red_141 ⟨Nat.le_of_ble_eq_true rfl, Nat.le_of_ble_eq_true rfl⟩ (kv_Red E hI.1) rfl hl.1 rfl (Nat.le_of_ble_eq_true rfl) d_Red_normalArgument_69 (fun α4 ad H locs cells slots e5 h hRm hI => ?_)
    exact kc_vret hx hb hr hlocks E hI h d_Red_normalArgument_72
  · replace h := Eq.trans (if_neg c1).symm h
    refine lv_aload_n hx hb d_Red_normalArgument_15 rfl (lv_at hl 1 rfl) ?_
    refine kf_Red_frames S E hI.1 vt_133 d_Red_normalArgument_16 ?_
    refine lv_aload_n hx hb d_Red_normalArgument_19 rfl (lv_at hl 1 rfl) ?_
    refine kf_Red_frames S E hI.1 vt_133 d_Red_normalArgument_20 ?_
    refine lv_iconst (v := 2) hx hb d_Red_normalArgument_23 (by decide) ?_
    refine kg_p (As := [.int 2]) (rest := [.ref (kad g 6)]) (k_Fra_top (l := l) (g := g) (α := α) 2) S E hI.1 kw_Red_39 ⟨Nat.le_of_ble_eq_true rfl, Nat.le_of_ble_eq_true rfl⟩ hI.room (kv_Fra E hI.1) rfl hl.1 rfl (Nat.le_of_ble_eq_true rfl) d_Red_normalArgument_24 rfl ?_
    refine kg_tV (As := [.int (f_Fra_top 2 α)]) (rest := []) (k_Fra_give (l := l) (g := g) (α := α) (f_Fra_top 2 α)) S hlocks hno E hI kw_Red_82 ⟨Nat.le_of_ble_eq_true rfl, Nat.le_of_ble_eq_true rfl⟩ (kv_Fra E hI.1) rfl hl.1 rfl (Nat.le_of_ble_eq_true rfl) d_Red_normalArgument_27 (fun ad H locs cells slots hRm hI => ?_)
    refine lv_goto (tgt := 72) hx hb d_Red_normalArgument_30 (by decide) ?_
    exact kc_vret hx hb hr hlocks E hI h d_Red_normalArgument_72
def f_Red_normalApply (N : Nat)  (α : kS) : Option (kO × kS) := kBi (f_Terms_make N 5 (f_Fra_top 2 α) (f_Fra_result α) α) fun v3 α1 => (some (some none, (f_Fra_set 0 13 (f_Fra_set 2 v3 α1))))
set_option maxHeartbeats 4000000 in
set_option maxRecDepth 100000 in
theorem k_Red_normalApply {l : Launch} {g : kG} {α : kS} (hfl : kFl l) (N : Nat)   : ∀ x, f_Red_normalApply N α = some x → kC l g y_Red_normalApply b_Red_normalApply 2 none 23 692 [.ref (kad g 7)] α (kQr x) := by
  intro x h
  unfold f_Red_normalApply at h
  refine kc_ofW (by decide) (fun A ad0 p e s m args below meth c S hr hlocks hno hadm hargs E hI => ?_)
  have hx := S.1
  have hb := S.2.1
  have hown := S.2.2.2.1
  have hT := S.2.2.2.2
  subst hargs
  have hl := lv_entry ([.ref (kad g 7)]) (n := 2) (Nat.le_of_ble_eq_true rfl)
  rw [lg_entry_eq]
  generalize (lg_sl ([.ref (kad g 7)]) ++ List.replicate (2 - (lg_sl ([.ref (kad g 7)])).length) Slot.unset).toArray = ls at hl ⊢
  have hl : lv_has ls 2 [(0, .ref (kad g 7))] := hl
  refine lv_aload_n hx hb d_Red_normalApply_0 rfl (lv_at hl 0 rfl) ?_
  refine kf_Red_terms S E hI.1 vt_135 d_Red_normalApply_1 ?_
  refine lv_iconst (v := 5) hx hb d_Red_normalApply_4 (by decide) ?_
  refine lv_aload_n hx hb d_Red_normalApply_5 rfl (lv_at hl 0 rfl) ?_
  refine kf_Red_frames S E hI.1 vt_133 d_Red_normalApply_6 ?_
  refine lv_iconst (v := 2) hx hb d_Red_normalApply_9 (by decide) ?_
  refine kg_p (As := [.int 2]) (rest := [.int 5, .ref (kad g 2)]) (k_Fra_top (l := l) (g := g) (α := α) 2) S E hI.1 kw_Red_39 ⟨Nat.le_of_ble_eq_true rfl, Nat.le_of_ble_eq_true rfl⟩ hI.room (kv_Fra E hI.1) rfl hl.1 rfl (Nat.le_of_ble_eq_true rfl) d_Red_normalApply_10 rfl ?_
  refine lv_aload_n hx hb d_Red_normalApply_13 rfl (lv_at hl 0 rfl) ?_
  refine kf_Red_frames S E hI.1 vt_133 d_Red_normalApply_14 ?_
  refine kg_p (As := []) (rest := [.int (f_Fra_top 2 α), .int 5, .ref (kad g 2)]) (k_Fra_result (l := l) (g := g) (α := α) ) S E hI.1 kw_Red_124 ⟨Nat.le_of_ble_eq_true rfl, Nat.le_of_ble_eq_true rfl⟩ hI.room (kv_Fra E hI.1) rfl hl.1 rfl (Nat.le_of_ble_eq_true rfl) d_Red_normalApply_17 rfl ?_
  refine kg_cI (As := [.int 5, .int (f_Fra_top 2 α), .int (f_Fra_result α)]) (rest := []) h (k_Terms_make (l := l) (g := g) (α := α) hfl N 5 (f_Fra_top 2 α) (f_Fra_result α)) S hlocks hno E hI kw_Red_116 ⟨Nat.le_of_ble_eq_true rfl, Nat.le_of_ble_eq_true rfl⟩ (kv_Terms E hI.1) rfl hl.1 rfl (Nat.le_of_ble_eq_true rfl) d_Red_normalApply_20 (fun v3 α1 ad H locs cells slots e2 h hRm hI => ?_)
  refine lv_istore_n (lv' := [(1, .int v3), (0, .ref (kad g 7))]) hx hb d_Red_normalApply_23 rfl hl (by decide) rfl (fun ls hl => ?_)
  refine lv_aload_n hx hb d_Red_normalApply_24 rfl (lv_at hl 1 rfl) ?_
  refine kf_Red_frames S E hI.1 vt_133 d_Red_normalApply_25 ?_
  refine lv_iconst (v := 2) hx hb d_Red_normalApply_28 (by decide) ?_
  refine lv_iload_n hx hb d_Red_normalApply_29 rfl (lv_at hl 0 rfl) ?_
  refine kg_tV (As := [.int 2, .int v3]) (rest := []) (k_Fra_set (l := l) (g := g) (α := α1) 2 v3) S hlocks hno E hI kw_Red_91 ⟨Nat.le_of_ble_eq_true rfl, Nat.le_of_ble_eq_true rfl⟩ (kv_Fra E hI.1) rfl hl.1 rfl (Nat.le_of_ble_eq_true rfl) d_Red_normalApply_30 (fun ad H locs cells slots hRm hI => ?_)
  refine lv_aload_n hx hb d_Red_normalApply_33 rfl (lv_at hl 1 rfl) ?_
  refine kf_Red_frames S E hI.1 vt_133 d_Red_normalApply_34 ?_
  refine lv_iconst (v := 0) hx hb d_Red_normalApply_37 (by decide) ?_
  refine lv_bipush (v := 13) hx hb d_Red_normalApply_38 (by decide) ?_
  refine kg_tV (As := [.int 0, .int 13]) (rest := []) (k_Fra_set (l := l) (g := g) (α := (f_Fra_set 2 v3 α1)) 0 13) S hlocks hno E hI kw_Red_91 ⟨Nat.le_of_ble_eq_true rfl, Nat.le_of_ble_eq_true rfl⟩ (kv_Fra E hI.1) rfl hl.1 rfl (Nat.le_of_ble_eq_true rfl) d_Red_normalApply_40 (fun ad H locs cells slots hRm hI => ?_)
  exact kc_vret hx hb hr hlocks E hI h d_Red_normalApply_43
