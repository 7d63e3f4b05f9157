def hk_applied (l : Launch) (g : mG) (kk : (Int32 → mS → Option (kO × mS)) × (Int32 → mS → Option (kO × mS)) × (Int32 → mS → Option (kO × mS)) × (Int32 → Int32 → mS → Option (kO × mS)) × (Int32 → mS → Option (kO × mS)) × (Int32 → mS → Option (kO × mS))) (fr lo : Nat) : Prop := (∀ (a1 : Int32)  (α : mS) (x : kO × mS), kk.1 a1 α = some x → mC l g y_Mod_applied b_Mod_applied 3 (some .int) fr lo [.ref (mad g 0), .int a1] α (mQr x)) ∧ (∀ (a1 : Int32)  (α : mS) (x : kO × mS), kk.2.1 a1 α = some x → mC l g y_Mod_atom b_Mod_atom 3 (some .int) fr lo [.ref (mad g 0), .int a1] α (mQr x)) ∧ (∀ (a1 : Int32)  (α : mS) (x : kO × mS), kk.2.2.1 a1 α = some x → mC l g y_Mod_binders b_Mod_binders 9 (some .int) fr lo [.ref (mad g 0), .int a1] α (mQr x)) ∧ (∀ (a1 : Int32) (a2 : Int32)  (α : mS) (x : kO × mS), kk.2.2.2.1 a1 a2 α = some x → mC l g y_Mod_binding b_Mod_binding 7 (some .int) fr lo [.ref (mad g 0), .int a1, .int a2] α (mQr x)) ∧ (∀ (a1 : Int32)  (α : mS) (x : kO × mS), kk.2.2.2.2.1 a1 α = some x → mC l g y_Mod_letting b_Mod_letting 7 (some .int) fr lo [.ref (mad g 0), .int a1] α (mQr x)) ∧ (∀ (a1 : Int32)  (α : mS) (x : kO × mS), kk.2.2.2.2.2 a1 α = some x → mC l g y_Mod_term b_Mod_term 4 (some .int) fr lo [.ref (mad g 0), .int a1] α (mQr x))
theorem kw_Mod_416 : kWv "FamilyKernelModel" 416 "FamilyKernelModel" y_Mod_atom b_Mod_atom 3 (some .int) 1 := ⟨vt_1515, vt_1516, vt_1517, vt_1349, vt_1518, by decide, by decide, by decide +kernel⟩
theorem kw_Mod_419 : kWv "FamilyKernelModel" 419 "FamilyKernelModel" y_Mod_atomHere b_Mod_atomHere 1 (some .boolean) 0 := ⟨vt_1519, vt_1520, vt_1521, vt_1349, vt_1522, by decide, by decide, by decide +kernel⟩
def f_Mod_applied_6 (N : Nat)  (kk : (Int32 → mS → Option (kO × mS)) × (Int32 → mS → Option (kO × mS)) × (Int32 → mS → Option (kO × mS)) × (Int32 → Int32 → mS → Option (kO × mS)) × (Int32 → mS → Option (kO × mS)) × (Int32 → mS → Option (kO × mS))) : Nat → Int32 → Int32 → mS → Option (kO × mS)
  | 0, _, _, _ => none
  | n + 1, x2_6, x1_6, β6 => mBi (f_Mod_atomHere N β6) fun v6 α4 => (if v6 = 0 then (some (some (some x2_6), α4)) else (mBi (kk.2.1 x1_6 α4) fun v10 α8 => (mBi (f_Mod_apply N x2_6 v10 α8) fun v13 α11 => (mBi (f_Mod_fits N v13 α11) fun v16 α14 => (f_Mod_applied_6 N kk n v16 x1_6 α14)))))
def f_Mod_applied (N : Nat) (kk : (Int32 → mS → Option (kO × mS)) × (Int32 → mS → Option (kO × mS)) × (Int32 → mS → Option (kO × mS)) × (Int32 → Int32 → mS → Option (kO × mS)) × (Int32 → mS → Option (kO × mS)) × (Int32 → mS → Option (kO × mS))) (a1 : Int32) (α : mS) : Option (kO × mS) := mBi (kk.2.1 a1 α) fun v3 α1 => (f_Mod_applied_6 N kk N v3 a1 α1)
set_option maxHeartbeats 4000000 in
set_option maxRecDepth 100000 in
theorem k_Mod_applied {l : Launch} {g : mG} {α : mS} (N : Nat) (kk : (Int32 → mS → Option (kO × mS)) × (Int32 → mS → Option (kO × mS)) × (Int32 → mS → Option (kO × mS)) × (Int32 → Int32 → mS → Option (kO × mS)) × (Int32 → mS → Option (kO × mS)) × (Int32 → mS → Option (kO × mS))) (d : Nat) (hk : hk_applied l g kk (45 + d) (1307 + 28 * d)) (a1 : Int32)  : ∀ x, f_Mod_applied N kk a1 α = some x → mC l g y_Mod_applied b_Mod_applied 3 (some .int) (45 + (d + 1)) (1307 + 28 * (d + 1)) [.ref (mad g 0), .int a1] α (mQr x) := by
  intro x h
  unfold f_Mod_applied at h
  refine mc_ofW (by decide) (fun A p e s m args below meth c S hr hlocks hno hargs E hI => ?_)
  have hx := S.1
  have hb := S.2.1
  have hown := S.2.2.2.1
  have hT := S.2.2.2.2
  subst hargs
  have hl := lv_entry ([.ref (mad g 0), .int a1]) (n := 3) (Nat.le_of_ble_eq_true rfl)
  rw [lg_entry_eq]
  generalize (lg_sl ([.ref (mad g 0), .int a1]) ++ List.replicate (3 - (lg_sl ([.ref (mad g 0), .int a1])).length) Slot.unset).toArray = ls at hl ⊢
  have hl : lv_has ls 3 [(0, .ref (mad g 0)), (1, .int a1)] := hl
  refine lv_aload_n hx hb d_Mod_applied_0 rfl (lv_at hl 0 rfl) ?_
  refine lv_iload_n hx hb d_Mod_applied_1 rfl (lv_at hl 1 rfl) ?_
  refine mg_cI (As := [.int a1]) (rest := []) h (hk.2.1 a1 α) S hlocks hno E hI kw_Mod_416 ⟨by omega, by omega⟩ (mv_Mod E hI) rfl hl.1 rfl (Nat.le_of_ble_eq_true rfl) d_Mod_applied_2 (fun v3 α1 H locs e2 h hI => ?_)
  refine lv_istore_n (lv' := [(2, .int v3), (0, .ref (mad g 0)), (1, .int a1)]) hx hb d_Mod_applied_5 rfl hl (by decide) rfl (fun ls hl => ?_)
  have L6 : ∀ (n6 : Nat) (x2_6 : Int32) (x1_6 : Int32) (β6 : mS) (H : Heap) (locs : List Loc) (ls : Array Slot), f_Mod_applied_6 N kk n6 x2_6 x1_6 β6 = some x → mI g A s β6 H locs → lv_has ls 3 [(2, .int x2_6), (0, .ref (mad g 0)), (1, .int x1_6)] → W p l e (mR (45 + (d + 1)) (1307 + 28 * (d + 1))) s m ([.ref (mad g 0), .int a1]).toArray below meth c H locs 0 0 (vEQ below (mQ g A (mQr x)) ([.ref (mad g 0), .int a1]).toArray s A) (F0 m 6 ls []) := by
    intro n6
    induction n6 with
    | zero => intro x2_6 x1_6 β6 H locs ls h hI hl; rw [f_Mod_applied_6] at h; cases h
    | succ n6 ih6 =>
      intro x2_6 x1_6 β6 H locs ls h hI hl
      rw [f_Mod_applied_6] at h
      refine lv_aload_n hx hb d_Mod_applied_6 rfl (lv_at hl 1 rfl) ?_
      refine mg_cI (As := []) (rest := []) h (k_Mod_atomHere (l := l) (g := g) (α := β6) N) S hlocks hno E hI kw_Mod_419 ⟨by omega, by omega⟩ (mv_Mod E hI) rfl hl.1 rfl (Nat.le_of_ble_eq_true rfl) d_Mod_applied_7 (fun v6 α4 H locs e5 h hI => ?_)
      refine lv_if_eq (tgt := 31) hx hb d_Mod_applied_10 (by decide) (fun c7 => ?_) (fun c7 => ?_)
      · replace h := Eq.trans (if_pos c7).symm h
        refine lv_iload_n hx hb d_Mod_applied_31 rfl (lv_at hl 0 rfl) ?_
        exact mc_iret (w := x2_6) hx hb hr rfl hlocks E hI h d_Mod_applied_32
      · replace h := Eq.trans (if_neg c7).symm h
        refine lv_aload_n hx hb d_Mod_applied_13 rfl (lv_at hl 1 rfl) ?_
        refine lv_aload_n hx hb d_Mod_applied_14 rfl (lv_at hl 1 rfl) ?_
        refine lv_iload_n hx hb d_Mod_applied_15 rfl (lv_at hl 0 rfl) ?_
        refine lv_aload_n hx hb d_Mod_applied_16 rfl (lv_at hl 1 rfl) ?_
        refine lv_iload_n hx hb d_Mod_applied_17 rfl (lv_at hl 2 rfl) ?_
        refine mg_cI (As := [.int x1_6]) (rest := [.int x2_6, .ref (mad g 0), .ref (mad g 0)]) h (hk.2.1 x1_6 α4) S hlocks hno E hI kw_Mod_416 ⟨by omega, by omega⟩ (mv_Mod E hI) rfl hl.1 rfl (Nat.le_of_ble_eq_true rfl) d_Mod_applied_18 (fun v10 α8 H locs e9 h hI => ?_)
        refine mg_cI (As := [.int x2_6, .int v10]) (rest := [.ref (mad g 0)]) h (k_Mod_apply (l := l) (g := g) (α := α8) N x2_6 v10) S hlocks hno E hI kw_Mod_350 ⟨by omega, by omega⟩ (mv_Mod E hI) rfl hl.1 rfl (Nat.le_of_ble_eq_true rfl) d_Mod_applied_21 (fun v13 α11 H locs e12 h hI => ?_)
        refine mg_cI (As := [.int v13]) (rest := []) h (k_Mod_fits (l := l) (g := g) (α := α11) N v13) S hlocks hno E hI kw_Mod_402 ⟨by omega, by omega⟩ (mv_Mod E hI) rfl hl.1 rfl (Nat.le_of_ble_eq_true rfl) d_Mod_applied_24 (fun v16 α14 H locs e15 h hI => ?_)
        refine lv_istore_n (lv' := [(2, .int v16), (0, .ref (mad g 0)), (1, .int x1_6)]) hx hb d_Mod_applied_27 rfl hl (by decide) rfl (fun ls hl => ?_)
        refine lv_goto (tgt := 6) hx hb d_Mod_applied_28 (by decide) ?_
        exact ih6 v16 x1_6 _ _ _ _ h hI (lv_sub hl [0, 1, 2] rfl)
  exact L6 N v3 a1 _ _ _ _ h hI (lv_sub hl [0, 1, 2] rfl)
theorem kw_Mod_422 : kWv "FamilyKernelModel" 422 "FamilyKernelModel" y_Mod_sortHere b_Mod_sortHere 3 (some .int) 0 := ⟨vt_1527, vt_1528, vt_1529, vt_1349, vt_1530, by decide, by decide, by decide +kernel⟩
theorem kw_Mod_425 : kWv "FamilyKernelModel" 425 "FamilyKernelModel" y_Mod_constant_0 b_Mod_constant_0 1 (some .int) 0 := ⟨vt_1535, vt_1536, vt_1537, vt_1349, vt_1538, by decide, by decide, by decide +kernel⟩
theorem kw_Mod_396 : kWv "FamilyKernelModel" 396 "FamilyKernelModel" y_Mod_nest b_Mod_nest 2 (some .int) 1 := ⟨vt_1492, vt_1493, vt_1494, vt_1349, vt_1495, by decide, by decide, by decide +kernel⟩
theorem kw_Mod_399 : kWv "FamilyKernelModel" 399 "FamilyKernelModel" y_Mod_term b_Mod_term 4 (some .int) 1 := ⟨vt_1421, vt_1422, vt_1423, vt_1349, vt_1424, by decide, by decide, by decide +kernel⟩
theorem kw_Mod_405 : kWv "FamilyKernelModel" 405 "FamilyKernelModel" y_Mod_must b_Mod_must 2 none 1 := ⟨vt_1417, vt_1418, vt_1419, vt_1349, vt_1420, by decide, by decide, by decide +kernel⟩
def f_Mod_atom_169 (N : Nat)  (kk : (Int32 → mS → Option (kO × mS)) × (Int32 → mS → Option (kO × mS)) × (Int32 → mS → Option (kO × mS)) × (Int32 → Int32 → mS → Option (kO × mS)) × (Int32 → mS → Option (kO × mS)) × (Int32 → mS → Option (kO × mS))) : Nat → Int32 → mS → Option (kO × mS)
  | 0, _, _ => none
  | n + 1, x2_169, β169 => if x2_169 < 0 then (((f_Mod_constant_0 N β169)).bind fun v34 => (if 0 ≤ v34 then (mBv (f_Mod_take N β169) fun α37 => (mBi (f_Mod_node N 1 v34 0 0 α37) fun v41 α39 => (some (some (some v41), α39)))) else (some (none, (mTh β169 2 (β169.1 7)))))) else (if x2_169 < 0 ∨ 3400 ≤ (x2_169 : Int32).toNatClampNeg then none else (if x2_169 < 0 ∨ 3400 ≤ (x2_169 : Int32).toNatClampNeg then none else (((f_Mod_spelled N (β169.2 25 (x2_169 : Int32).toNatClampNeg) (β169.2 26 (x2_169 : Int32).toNatClampNeg) 0 β169)).bind fun v44 => (if v44 = 0 then (f_Mod_atom_169 N kk n (x2_169 + (-1)) β169) else (mBv (f_Mod_take N β169) fun α47 => (mBi (f_Mod_node N 5 x2_169 0 0 α47) fun v51 α49 => (some (some (some v51), α49))))))))
def f_Mod_atom_j113 (N : Nat)  (kk : (Int32 → mS → Option (kO × mS)) × (Int32 → mS → Option (kO × mS)) × (Int32 → mS → Option (kO × mS)) × (Int32 → Int32 → mS → Option (kO × mS)) × (Int32 → mS → Option (kO × mS)) × (Int32 → mS → Option (kO × mS))) (γ : mS) : Option (kO × mS) := some (none, (mTh γ 2 (γ.1 7)))
def f_Mod_atom (N : Nat) (kk : (Int32 → mS → Option (kO × mS)) × (Int32 → mS → Option (kO × mS)) × (Int32 → mS → Option (kO × mS)) × (Int32 → Int32 → mS → Option (kO × mS)) × (Int32 → mS → Option (kO × mS)) × (Int32 → mS → Option (kO × mS))) (a1 : Int32) (α : mS) : Option (kO × mS) := mBi (f_Mod_peek N α) fun v3 α1 => (if v3 = 40 then (mBv (f_Mod_take N α1) fun α87 => (mBi (f_Mod_nest N a1 α87) fun v91 α89 => (mBi (kk.2.2.2.2.2 v91 α89) fun v94 α92 => (mBv (f_Mod_must N 41 α92) fun α95 => (some (some (some v94), α95)))))) else (mBi (f_Mod_is N 38 α1) fun v7 α5 => (if v7 = 0 then (mBi (f_Mod_is N 39 α5) fun v17 α15 => (if v17 = 0 then (mBi (f_Mod_is N 37 α15) fun v21 α19 => (if v21 = 0 then (mBi (f_Mod_peek N α19) fun v25 α23 => (if v25 = 1 then (mBi (f_Mod_reserved N α23) fun v31 α29 => (if v31 = 0 then (f_Mod_atom_169 N kk N ((α29.1 19) - 1) α29) else (((f_Mod_cant N α29)).bind fun α52 => (some (none, (mTh α52 (α52.1 100) (α52.1 101))))))) else (((f_Mod_cant N α23)).bind fun α27 => (some (none, (mTh α27 (α27.1 100) (α27.1 101))))))) else (mBv (f_Mod_take N α19) fun α54 => (mBi (f_Mod_peek N α54) fun v58 α56 => (if v58 = 1 then (mBi (f_Mod_reserved N α56) fun v64 α62 => (if v64 = 0 then (((f_Mod_constant_0 N α62)).bind fun v66 => (if v66 < 0 then (f_Mod_atom_j113 N kk  α62) else (if v66 < 0 ∨ 301 ≤ (v66 : Int32).toNatClampNeg then none else (if (α62.2 12 (v66 : Int32).toNatClampNeg) = 3 then (mBv (f_Mod_take N α62) fun α71 => (mBi (f_Mod_sortHere N α71) fun v75 α73 => (mBi (f_Mod_node N 2 v66 v75 0 α73) fun v78 α76 => (some (some (some v78), α76))))) else (f_Mod_atom_j113 N kk  α62))))) else (((f_Mod_cant N α62)).bind fun α79 => (some (none, (mTh α79 (α79.1 100) (α79.1 101))))))) else (((f_Mod_cant N α56)).bind fun α60 => (some (none, (mTh α60 (α60.1 100) (α60.1 101)))))))))) else (mBi (f_Mod_sortHere N α15) fun v83 α81 => (mBi (f_Mod_sort N v83 α81) fun v86 α84 => (some (some (some v86), α84)))))) else (mBi (f_Mod_sortHere N α5) fun v11 α9 => (mBi (f_Mod_sort N v11 α9) fun v14 α12 => (some (some (some v14), α12)))))))
set_option maxHeartbeats 4000000 in
set_option maxRecDepth 100000 in
theorem k_Mod_atom {l : Launch} {g : mG} {α : mS} (N : Nat) (kk : (Int32 → mS → Option (kO × mS)) × (Int32 → mS → Option (kO × mS)) × (Int32 → mS → Option (kO × mS)) × (Int32 → Int32 → mS → Option (kO × mS)) × (Int32 → mS → Option (kO × mS)) × (Int32 → mS → Option (kO × mS))) (d : Nat) (hk : hk_applied l g kk (45 + d) (1307 + 28 * d)) (a1 : Int32)  : ∀ x, f_Mod_atom N kk a1 α = some x → mC l g y_Mod_atom b_Mod_atom 3 (some .int) (45 + (d + 1)) (1307 + 28 * (d + 1)) [.ref (mad g 0), .int a1] α (mQr x) := by
  intro x h
  unfold f_Mod_atom at h
  refine mc_ofW (by decide) (fun A p e s m args below meth c S hr hlocks hno hargs E hI => ?_)
  have hx := S.1
  have hb := S.2.1
  have hown := S.2.2.2.1
  have hT := S.2.2.2.2
  subst hargs
  have hl := lv_entry ([.ref (mad g 0), .int a1]) (n := 3) (Nat.le_of_ble_eq_true rfl)
  rw [lg_entry_eq]
  generalize (lg_sl ([.ref (mad g 0), .int a1]) ++ List.replicate (3 - (lg_sl ([.ref (mad g 0), .int a1])).length) Slot.unset).toArray = ls at hl ⊢
  have hl : lv_has ls 3 [(0, .ref (mad g 0)), (1, .int a1)] := hl
  have J113 : ∀ (γ : mS) (H : Heap) (locs : List Loc) (ls : Array Slot), f_Mod_atom_j113 N kk γ = some x → mI g A s γ H locs → lv_has ls 3 [(0, .ref (mad g 0))] → W p l e (mR (45 + (d + 1)) (1307 + 28 * (d + 1))) s m ([.ref (mad g 0), .int a1]).toArray below meth c H locs 0 0 (vEQ below (mQ g A (mQr x)) ([.ref (mad g 0), .int a1]).toArray s A) (F0 m 113 ls []) := by
    intro  γ H locs ls h hI hl
    unfold f_Mod_atom_j113 at h
    refine mg_new S E hI vt_1457 d_Mod_atom_113 (fun q H hN => ?_)
    have hI := hN.i
    refine lv_dup hx hb d_Mod_atom_116 rfl ?_
    refine lv_iconst (v := 2) hx hb d_Mod_atom_117 (by decide) ?_
    refine lv_aload_n hx hb d_Mod_atom_118 rfl (lv_at hl 0 rfl) ?_
    refine mf_tokenAt S E hI vt_1275 d_Mod_atom_119 ?_
    refine mg_init S E hN vt_1460 hl.1 ⟨by omega, by omega⟩ (Nat.le_of_ble_eq_true rfl) d_Mod_atom_122 (fun H locs hN => ?_)
    exact mg_athrow S hlocks hno E hN h d_Mod_atom_125
  refine lv_aload_n hx hb d_Mod_atom_0 rfl (lv_at hl 0 rfl) ?_
  refine mg_cI (As := []) (rest := []) h (k_Mod_peek (l := l) (g := g) (α := α) N) S hlocks hno E hI kw_Mod_273 ⟨by omega, by omega⟩ (mv_Mod E hI) rfl hl.1 rfl (Nat.le_of_ble_eq_true rfl) d_Mod_atom_1 (fun v3 α1 H locs e2 h hI => ?_)
  refine lv_bipush (v := 40) hx hb d_Mod_atom_4 (by decide) ?_
  refine lv_icmp_ne (tgt := 31) hx hb d_Mod_atom_6 (by decide) (fun c4 => ?_) (fun c4 => ?_)
  · replace h := Eq.trans (if_neg c4).symm h
    refine lv_aload_n hx hb d_Mod_atom_31 rfl (lv_at hl 0 rfl) ?_
    refine mg_ldcw hx hb hown (E.2.2.2.2.1 38 (by decide)) d_Mod_atom_32 ?_
    refine mg_cI (As := [.ref (kst g.1 38)]) (rest := []) h (k_Mod_is (l := l) (g := g) (α := α1) N 38 (by decide)) S hlocks hno E hI kw_Mod_293 ⟨by omega, by omega⟩ (mv_Mod E hI) rfl hl.1 rfl (Nat.le_of_ble_eq_true rfl) d_Mod_atom_35 (fun v7 α5 H locs e6 h hI => ?_)
    refine lv_if_ne (tgt := 51) hx hb d_Mod_atom_38 (by decide) (fun c8 => ?_) (fun c8 => ?_)
    · replace h := Eq.trans (if_neg c8).symm h
      refine lv_aload_n hx hb d_Mod_atom_51 rfl (lv_at hl 0 rfl) ?_
      refine lv_aload_n hx hb d_Mod_atom_52 rfl (lv_at hl 0 rfl) ?_
      refine mg_cI (As := []) (rest := [.ref (mad g 0)]) h (k_Mod_sortHere (l := l) (g := g) (α := α5) N) S hlocks hno E hI kw_Mod_422 ⟨by omega, by omega⟩ (mv_Mod E hI) rfl hl.1 rfl (Nat.le_of_ble_eq_true rfl) d_Mod_atom_53 (fun v11 α9 H locs e10 h hI => ?_)
      refine mg_cI (As := [.int v11]) (rest := []) h (k_Mod_sort (l := l) (g := g) (α := α9) N v11) S hlocks hno E hI kw_Mod_356 ⟨by omega, by omega⟩ (mv_Mod E hI) rfl hl.1 rfl (Nat.le_of_ble_eq_true rfl) d_Mod_atom_56 (fun v14 α12 H locs e13 h hI => ?_)
      exact mc_iret (w := v14) hx hb hr rfl hlocks E hI h d_Mod_atom_59
    · replace h := Eq.trans (if_pos c8).symm h
      refine lv_aload_n hx hb d_Mod_atom_41 rfl (lv_at hl 0 rfl) ?_
      refine mg_ldcw hx hb hown (E.2.2.2.2.1 39 (by decide)) d_Mod_atom_42 ?_
      refine mg_cI (As := [.ref (kst g.1 39)]) (rest := []) h (k_Mod_is (l := l) (g := g) (α := α5) N 39 (by decide)) S hlocks hno E hI kw_Mod_293 ⟨by omega, by omega⟩ (mv_Mod E hI) rfl hl.1 rfl (Nat.le_of_ble_eq_true rfl) d_Mod_atom_45 (fun v17 α15 H locs e16 h hI => ?_)
      refine lv_if_eq (tgt := 60) hx hb d_Mod_atom_48 (by decide) (fun c18 => ?_) (fun c18 => ?_)
      · replace h := Eq.trans (if_pos c18).symm h
        refine lv_aload_n hx hb d_Mod_atom_60 rfl (lv_at hl 0 rfl) ?_
        refine mg_ldcw hx hb hown (E.2.2.2.2.1 37 (by decide)) d_Mod_atom_61 ?_
        refine mg_cI (As := [.ref (kst g.1 37)]) (rest := []) h (k_Mod_is (l := l) (g := g) (α := α15) N 37 (by decide)) S hlocks hno E hI kw_Mod_293 ⟨by omega, by omega⟩ (mv_Mod E hI) rfl hl.1 rfl (Nat.le_of_ble_eq_true rfl) d_Mod_atom_64 (fun v21 α19 H locs e20 h hI => ?_)
        refine lv_if_eq (tgt := 142) hx hb d_Mod_atom_67 (by decide) (fun c22 => ?_) (fun c22 => ?_)
        · replace h := Eq.trans (if_pos c22).symm h
          refine lv_aload_n hx hb d_Mod_atom_142 rfl (lv_at hl 0 rfl) ?_
          refine mg_cI (As := []) (rest := []) h (k_Mod_peek (l := l) (g := g) (α := α19) N) S hlocks hno E hI kw_Mod_273 ⟨by omega, by omega⟩ (mv_Mod E hI) rfl hl.1 rfl (Nat.le_of_ble_eq_true rfl) d_Mod_atom_143 (fun v25 α23 H locs e24 h hI => ?_)
          refine lv_iconst (v := 1) hx hb d_Mod_atom_146 (by decide) ?_
          refine lv_icmp_ne (tgt := 157) hx hb d_Mod_atom_147 (by decide) (fun c26 => ?_) (fun c26 => ?_)
          · replace h := Eq.trans (if_neg c26).symm h
            refine lv_aload_n hx hb d_Mod_atom_157 rfl (lv_at hl 0 rfl) ?_
            obtain ⟨α27, e28, h⟩ := Option.bind_eq_some_iff.mp h
            refine mg_cant (As := []) (rest := []) ((k_Mod_cant (l := l) (g := g) (α := α23) N) _ e28) S hlocks hno E hI kw_Mod_277 ⟨by omega, by omega⟩ (mv_Mod E hI) rfl hl.1 rfl (Nat.le_of_ble_eq_true rfl) d_Mod_atom_158 (fun q H locs hN => ?_)
            exact mg_athrow S hlocks hno E hN h d_Mod_atom_161
          · replace h := Eq.trans (if_pos c26).symm h
            refine lv_aload_n hx hb d_Mod_atom_150 rfl (lv_at hl 0 rfl) ?_
            refine mg_cI (As := []) (rest := []) h (k_Mod_reserved (l := l) (g := g) (α := α23) N) S hlocks hno E hI kw_Mod_380 ⟨by omega, by omega⟩ (mv_Mod E hI) rfl hl.1 rfl (Nat.le_of_ble_eq_true rfl) d_Mod_atom_151 (fun v31 α29 H locs e30 h hI => ?_)
            refine lv_if_eq (tgt := 162) hx hb d_Mod_atom_154 (by decide) (fun c32 => ?_) (fun c32 => ?_)
            · replace h := Eq.trans (if_pos c32).symm h
              refine lv_aload_n hx hb d_Mod_atom_162 rfl (lv_at hl 0 rfl) ?_
              refine mf_scopes S E hI vt_1314 d_Mod_atom_163 ?_
              refine lv_iconst (v := 1) hx hb d_Mod_atom_166 (by decide) ?_
              refine lv_isub hx hb d_Mod_atom_167 ?_
              refine lv_istore_n (lv' := [(2, .int ((α29.1 19) - 1)), (0, .ref (mad g 0)), (1, .int a1)]) hx hb d_Mod_atom_168 rfl hl (by decide) rfl (fun ls hl => ?_)
              have L169 : ∀ (n169 : Nat) (x2_169 : Int32) (β169 : mS) (H : Heap) (locs : List Loc) (ls : Array Slot), f_Mod_atom_169 N kk n169 x2_169 β169 = some x → mI g A s β169 H locs → lv_has ls 3 [(2, .int x2_169), (0, .ref (mad g 0))] → W p l e (mR (45 + (d + 1)) (1307 + 28 * (d + 1))) s m ([.ref (mad g 0), .int a1]).toArray below meth c H locs 0 0 (vEQ below (mQ g A (mQr x)) ([.ref (mad g 0), .int a1]).toArray s A) (F0 m 169 ls []) := by
                intro n169
                induction n169 with
                | zero => intro x2_169 β169 H locs ls h hI hl; rw [f_Mod_atom_169] at h; cases h
                | succ n169 ih169 =>
                  intro x2_169 β169 H locs ls h hI hl
                  rw [f_Mod_atom_169] at h
                  refine lv_iload_n hx hb d_Mod_atom_169 rfl (lv_at hl 0 rfl) ?_
                  refine lv_if_lt (tgt := 218) hx hb d_Mod_atom_170 (by decide) (fun c33 => ?_) (fun c33 => ?_)
                  · replace h := Eq.trans (if_pos c33).symm h
                    refine lv_aload_n hx hb d_Mod_atom_218 rfl (lv_at hl 1 rfl) ?_
                    obtain ⟨v34, e35, h⟩ := Option.bind_eq_some_iff.mp h
                    refine mg_p (As := []) (rest := []) ((k_Mod_constant_0 (l := l) (g := g) (α := β169) N) _ e35) S E hI kw_Mod_425 (Or.inl rfl) ⟨by omega, by omega⟩ (mv_Mod E hI) rfl hl.1 rfl (Nat.le_of_ble_eq_true rfl) d_Mod_atom_219 rfl ?_
                    refine lv_istore_n (lv' := [(2, .int v34), (0, .ref (mad g 0))]) hx hb d_Mod_atom_222 rfl hl (by decide) rfl (fun ls hl => ?_)
                    refine lv_iload_n hx hb d_Mod_atom_223 rfl (lv_at hl 0 rfl) ?_
                    refine lv_if_ge (tgt := 240) hx hb d_Mod_atom_224 (by decide) (fun c36 => ?_) (fun c36 => ?_)
                    · replace h := Eq.trans (if_pos c36).symm h
                      refine lv_aload_n hx hb d_Mod_atom_240 rfl (lv_at hl 1 rfl) ?_
                      refine mg_cV (As := []) (rest := []) h (k_Mod_take (l := l) (g := g) (α := β169) N) S hlocks hno E hI kw_Mod_281 ⟨by omega, by omega⟩ (mv_Mod E hI) rfl hl.1 rfl (Nat.le_of_ble_eq_true rfl) d_Mod_atom_241 (fun α37 H locs e38 h hI => ?_)
                      refine lv_aload_n hx hb d_Mod_atom_244 rfl (lv_at hl 1 rfl) ?_
                      refine lv_iconst (v := 1) hx hb d_Mod_atom_245 (by decide) ?_
                      refine lv_iload_n hx hb d_Mod_atom_246 rfl (lv_at hl 0 rfl) ?_
                      refine lv_iconst (v := 0) hx hb d_Mod_atom_247 (by decide) ?_
                      refine lv_iconst (v := 0) hx hb d_Mod_atom_248 (by decide) ?_
                      refine mg_cI (As := [.int 1, .int v34, .int 0, .int 0]) (rest := []) h (k_Mod_node (l := l) (g := g) (α := α37) N 1 v34 0 0) S hlocks hno E hI kw_Mod_336 ⟨by omega, by omega⟩ (mv_Mod E hI) rfl hl.1 rfl (Nat.le_of_ble_eq_true rfl) d_Mod_atom_249 (fun v41 α39 H locs e40 h hI => ?_)
                      exact mc_iret (w := v41) hx hb hr rfl hlocks E hI h d_Mod_atom_252
                    · replace h := Eq.trans (if_neg c36).symm h
                      refine mg_new S E hI vt_1457 d_Mod_atom_227 (fun q H hN => ?_)
                      have hI := hN.i
                      refine lv_dup hx hb d_Mod_atom_230 rfl ?_
                      refine lv_iconst (v := 2) hx hb d_Mod_atom_231 (by decide) ?_
                      refine lv_aload_n hx hb d_Mod_atom_232 rfl (lv_at hl 1 rfl) ?_
                      refine mf_tokenAt S E hI vt_1275 d_Mod_atom_233 ?_
                      refine mg_init S E hN vt_1460 hl.1 ⟨by omega, by omega⟩ (Nat.le_of_ble_eq_true rfl) d_Mod_atom_236 (fun H locs hN => ?_)
                      exact mg_athrow S hlocks hno E hN h d_Mod_atom_239
                  · replace h := Eq.trans (if_neg c33).symm h
                    refine lv_aload_n hx hb d_Mod_atom_173 rfl (lv_at hl 1 rfl) ?_
                    refine lv_aload_n hx hb d_Mod_atom_174 rfl (lv_at hl 1 rfl) ?_
                    refine mf_scopeAt S E hI vt_1312 d_Mod_atom_175 ?_
                    refine lv_iload_n hx hb d_Mod_atom_178 rfl (lv_at hl 0 rfl) ?_
                    by_cases c42 : x2_169 < 0 ∨ 3400 ≤ (x2_169 : Int32).toNatClampNeg
                    · replace h := Eq.trans (if_pos c42).symm h
                      cases h
                    · replace h := Eq.trans (if_neg c42).symm h
                      refine ml_scopeAt S E hI c42 d_Mod_atom_179 ?_
                      refine lv_aload_n hx hb d_Mod_atom_180 rfl (lv_at hl 1 rfl) ?_
                      refine mf_scopeSize S E hI vt_1313 d_Mod_atom_181 ?_
                      refine lv_iload_n hx hb d_Mod_atom_184 rfl (lv_at hl 0 rfl) ?_
                      by_cases c43 : x2_169 < 0 ∨ 3400 ≤ (x2_169 : Int32).toNatClampNeg
                      · replace h := Eq.trans (if_pos c43).symm h
                        cases h
                      · replace h := Eq.trans (if_neg c43).symm h
                        refine ml_scopeSize S E hI c43 d_Mod_atom_185 ?_
                        refine lv_aload_n hx hb d_Mod_atom_186 rfl (lv_at hl 1 rfl) ?_
                        refine mf_tape S E hI vt_1266 d_Mod_atom_187 ?_
                        obtain ⟨v44, e45, h⟩ := Option.bind_eq_some_iff.mp h
                        refine mg_p (As := [.int (β169.2 25 (x2_169 : Int32).toNatClampNeg), .int (β169.2 26 (x2_169 : Int32).toNatClampNeg), .ref (mad g 1)]) (rest := []) ((k_Mod_spelled (l := l) (g := g) (α := β169) N (β169.2 25 (x2_169 : Int32).toNatClampNeg) (β169.2 26 (x2_169 : Int32).toNatClampNeg) 0 (by decide)) _ e45) S E hI kw_Mod_376 (Or.inl rfl) ⟨by omega, by omega⟩ (mv_Mod E hI) rfl hl.1 rfl (Nat.le_of_ble_eq_true rfl) d_Mod_atom_190 rfl ?_
                        refine lv_if_ne (tgt := 199) hx hb d_Mod_atom_193 (by decide) (fun c46 => ?_) (fun c46 => ?_)
                        · replace h := Eq.trans (if_neg c46).symm h
                          refine lv_aload_n hx hb d_Mod_atom_199 rfl (lv_at hl 1 rfl) ?_
                          refine mg_cV (As := []) (rest := []) h (k_Mod_take (l := l) (g := g) (α := β169) N) S hlocks hno E hI kw_Mod_281 ⟨by omega, by omega⟩ (mv_Mod E hI) rfl hl.1 rfl (Nat.le_of_ble_eq_true rfl) d_Mod_atom_200 (fun α47 H locs e48 h hI => ?_)
                          refine lv_aload_n hx hb d_Mod_atom_203 rfl (lv_at hl 1 rfl) ?_
                          refine lv_iconst (v := 5) hx hb d_Mod_atom_204 (by decide) ?_
                          refine lv_iload_n hx hb d_Mod_atom_205 rfl (lv_at hl 0 rfl) ?_
                          refine lv_iconst (v := 0) hx hb d_Mod_atom_206 (by decide) ?_
                          refine lv_iconst (v := 0) hx hb d_Mod_atom_207 (by decide) ?_
                          refine mg_cI (As := [.int 5, .int x2_169, .int 0, .int 0]) (rest := []) h (k_Mod_node (l := l) (g := g) (α := α47) N 5 x2_169 0 0) S hlocks hno E hI kw_Mod_336 ⟨by omega, by omega⟩ (mv_Mod E hI) rfl hl.1 rfl (Nat.le_of_ble_eq_true rfl) d_Mod_atom_208 (fun v51 α49 H locs e50 h hI => ?_)
                          exact mc_iret (w := v51) hx hb hr rfl hlocks E hI h d_Mod_atom_211
                        · replace h := Eq.trans (if_pos c46).symm h
                          refine lv_goto (tgt := 212) hx hb d_Mod_atom_196 (by decide) ?_
                          refine lv_iinc (v := (x2_169 + (-1))) (lv' := [(2, .int (x2_169 + (-1))), (0, .ref (mad g 0))]) hx hb d_Mod_atom_212 hl (k := 0) rfl rfl (by decide) rfl (fun ls hl => ?_)
                          refine lv_goto (tgt := 169) hx hb d_Mod_atom_215 (by decide) ?_
                          exact ih169 (x2_169 + (-1)) _ _ _ _ h hI (lv_sub hl [0, 1] rfl)
              exact L169 N ((α29.1 19) - 1) _ _ _ _ h hI (lv_sub hl [0, 1] rfl)
            · replace h := Eq.trans (if_neg c32).symm h
              refine lv_aload_n hx hb d_Mod_atom_157 rfl (lv_at hl 0 rfl) ?_
              obtain ⟨α52, e53, h⟩ := Option.bind_eq_some_iff.mp h
              refine mg_cant (As := []) (rest := []) ((k_Mod_cant (l := l) (g := g) (α := α29) N) _ e53) S hlocks hno E hI kw_Mod_277 ⟨by omega, by omega⟩ (mv_Mod E hI) rfl hl.1 rfl (Nat.le_of_ble_eq_true rfl) d_Mod_atom_158 (fun q H locs hN => ?_)
              exact mg_athrow S hlocks hno E hN h d_Mod_atom_161
        · replace h := Eq.trans (if_neg c22).symm h
          refine lv_aload_n hx hb d_Mod_atom_70 rfl (lv_at hl 0 rfl) ?_
          refine mg_cV (As := []) (rest := []) h (k_Mod_take (l := l) (g := g) (α := α19) N) S hlocks hno E hI kw_Mod_281 ⟨by omega, by omega⟩ (mv_Mod E hI) rfl hl.1 rfl (Nat.le_of_ble_eq_true rfl) d_Mod_atom_71 (fun α54 H locs e55 h hI => ?_)
          refine lv_aload_n hx hb d_Mod_atom_74 rfl (lv_at hl 0 rfl) ?_
          refine mg_cI (As := []) (rest := []) h (k_Mod_peek (l := l) (g := g) (α := α54) N) S hlocks hno E hI kw_Mod_273 ⟨by omega, by omega⟩ (mv_Mod E hI) rfl hl.1 rfl (Nat.le_of_ble_eq_true rfl) d_Mod_atom_75 (fun v58 α56 H locs e57 h hI => ?_)
          refine lv_iconst (v := 1) hx hb d_Mod_atom_78 (by decide) ?_
          refine lv_icmp_ne (tgt := 89) hx hb d_Mod_atom_79 (by decide) (fun c59 => ?_) (fun c59 => ?_)
          · replace h := Eq.trans (if_neg c59).symm h
            refine lv_aload_n hx hb d_Mod_atom_89 rfl (lv_at hl 0 rfl) ?_
            obtain ⟨α60, e61, h⟩ := Option.bind_eq_some_iff.mp h
            refine mg_cant (As := []) (rest := []) ((k_Mod_cant (l := l) (g := g) (α := α56) N) _ e61) S hlocks hno E hI kw_Mod_277 ⟨by omega, by omega⟩ (mv_Mod E hI) rfl hl.1 rfl (Nat.le_of_ble_eq_true rfl) d_Mod_atom_90 (fun q H locs hN => ?_)
            exact mg_athrow S hlocks hno E hN h d_Mod_atom_93
          · replace h := Eq.trans (if_pos c59).symm h
            refine lv_aload_n hx hb d_Mod_atom_82 rfl (lv_at hl 0 rfl) ?_
            refine mg_cI (As := []) (rest := []) h (k_Mod_reserved (l := l) (g := g) (α := α56) N) S hlocks hno E hI kw_Mod_380 ⟨by omega, by omega⟩ (mv_Mod E hI) rfl hl.1 rfl (Nat.le_of_ble_eq_true rfl) d_Mod_atom_83 (fun v64 α62 H locs e63 h hI => ?_)
            refine lv_if_eq (tgt := 94) hx hb d_Mod_atom_86 (by decide) (fun c65 => ?_) (fun c65 => ?_)
            · replace h := Eq.trans (if_pos c65).symm h
              refine lv_aload_n hx hb d_Mod_atom_94 rfl (lv_at hl 0 rfl) ?_
              obtain ⟨v66, e67, h⟩ := Option.bind_eq_some_iff.mp h
              refine mg_p (As := []) (rest := []) ((k_Mod_constant_0 (l := l) (g := g) (α := α62) N) _ e67) S E hI kw_Mod_425 (Or.inl rfl) ⟨by omega, by omega⟩ (mv_Mod E hI) rfl hl.1 rfl (Nat.le_of_ble_eq_true rfl) d_Mod_atom_95 rfl ?_
              refine lv_istore_n (lv' := [(2, .int v66), (0, .ref (mad g 0)), (1, .int a1)]) hx hb d_Mod_atom_98 rfl hl (by decide) rfl (fun ls hl => ?_)
              refine lv_iload_n hx hb d_Mod_atom_99 rfl (lv_at hl 0 rfl) ?_
              refine lv_if_lt (tgt := 113) hx hb d_Mod_atom_100 (by decide) (fun c68 => ?_) (fun c68 => ?_)
              · replace h := Eq.trans (if_pos c68).symm h
                exact J113  _ _ _ _ h hI (lv_sub hl [1] rfl)
              · replace h := Eq.trans (if_neg c68).symm h
                refine lv_aload_n hx hb d_Mod_atom_103 rfl (lv_at hl 1 rfl) ?_
                refine mf_sortOf S E hI vt_1296 d_Mod_atom_104 ?_
                refine lv_iload_n hx hb d_Mod_atom_107 rfl (lv_at hl 0 rfl) ?_
                by_cases c69 : v66 < 0 ∨ 301 ≤ (v66 : Int32).toNatClampNeg
                · replace h := Eq.trans (if_pos c69).symm h
                  cases h
                · replace h := Eq.trans (if_neg c69).symm h
                  refine ml_sortOf S E hI c69 d_Mod_atom_108 ?_
                  refine lv_iconst (v := 3) hx hb d_Mod_atom_109 (by decide) ?_
                  refine lv_icmp_eq (tgt := 126) hx hb d_Mod_atom_110 (by decide) (fun c70 => ?_) (fun c70 => ?_)
                  · replace h := Eq.trans (if_pos c70).symm h
                    refine lv_aload_n hx hb d_Mod_atom_126 rfl (lv_at hl 1 rfl) ?_
                    refine mg_cV (As := []) (rest := []) h (k_Mod_take (l := l) (g := g) (α := α62) N) S hlocks hno E hI kw_Mod_281 ⟨by omega, by omega⟩ (mv_Mod E hI) rfl hl.1 rfl (Nat.le_of_ble_eq_true rfl) d_Mod_atom_127 (fun α71 H locs e72 h hI => ?_)
                    refine lv_aload_n hx hb d_Mod_atom_130 rfl (lv_at hl 1 rfl) ?_
                    refine lv_iconst (v := 2) hx hb d_Mod_atom_131 (by decide) ?_
                    refine lv_iload_n hx hb d_Mod_atom_132 rfl (lv_at hl 0 rfl) ?_
                    refine lv_aload_n hx hb d_Mod_atom_133 rfl (lv_at hl 1 rfl) ?_
                    refine mg_cI (As := []) (rest := [.int v66, .int 2, .ref (mad g 0)]) h (k_Mod_sortHere (l := l) (g := g) (α := α71) N) S hlocks hno E hI kw_Mod_422 ⟨by omega, by omega⟩ (mv_Mod E hI) rfl hl.1 rfl (Nat.le_of_ble_eq_true rfl) d_Mod_atom_134 (fun v75 α73 H locs e74 h hI => ?_)
                    refine lv_iconst (v := 0) hx hb d_Mod_atom_137 (by decide) ?_
                    refine mg_cI (As := [.int 2, .int v66, .int v75, .int 0]) (rest := []) h (k_Mod_node (l := l) (g := g) (α := α73) N 2 v66 v75 0) S hlocks hno E hI kw_Mod_336 ⟨by omega, by omega⟩ (mv_Mod E hI) rfl hl.1 rfl (Nat.le_of_ble_eq_true rfl) d_Mod_atom_138 (fun v78 α76 H locs e77 h hI => ?_)
                    exact mc_iret (w := v78) hx hb hr rfl hlocks E hI h d_Mod_atom_141
                  · replace h := Eq.trans (if_neg c70).symm h
                    exact J113  _ _ _ _ h hI (lv_sub hl [1] rfl)
            · replace h := Eq.trans (if_neg c65).symm h
              refine lv_aload_n hx hb d_Mod_atom_89 rfl (lv_at hl 0 rfl) ?_
              obtain ⟨α79, e80, h⟩ := Option.bind_eq_some_iff.mp h
              refine mg_cant (As := []) (rest := []) ((k_Mod_cant (l := l) (g := g) (α := α62) N) _ e80) S hlocks hno E hI kw_Mod_277 ⟨by omega, by omega⟩ (mv_Mod E hI) rfl hl.1 rfl (Nat.le_of_ble_eq_true rfl) d_Mod_atom_90 (fun q H locs hN => ?_)
              exact mg_athrow S hlocks hno E hN h d_Mod_atom_93
      · replace h := Eq.trans (if_neg c18).symm h
        refine lv_aload_n hx hb d_Mod_atom_51 rfl (lv_at hl 0 rfl) ?_
        refine lv_aload_n hx hb d_Mod_atom_52 rfl (lv_at hl 0 rfl) ?_
        refine mg_cI (As := []) (rest := [.ref (mad g 0)]) h (k_Mod_sortHere (l := l) (g := g) (α := α15) N) S hlocks hno E hI kw_Mod_422 ⟨by omega, by omega⟩ (mv_Mod E hI) rfl hl.1 rfl (Nat.le_of_ble_eq_true rfl) d_Mod_atom_53 (fun v83 α81 H locs e82 h hI => ?_)
        refine mg_cI (As := [.int v83]) (rest := []) h (k_Mod_sort (l := l) (g := g) (α := α81) N v83) S hlocks hno E hI kw_Mod_356 ⟨by omega, by omega⟩ (mv_Mod E hI) rfl hl.1 rfl (Nat.le_of_ble_eq_true rfl) d_Mod_atom_56 (fun v86 α84 H locs e85 h hI => ?_)
        exact mc_iret (w := v86) hx hb hr rfl hlocks E hI h d_Mod_atom_59
  · replace h := Eq.trans (if_pos c4).symm h
    refine lv_aload_n hx hb d_Mod_atom_9 rfl (lv_at hl 0 rfl) ?_
    refine mg_cV (As := []) (rest := []) h (k_Mod_take (l := l) (g := g) (α := α1) N) S hlocks hno E hI kw_Mod_281 ⟨by omega, by omega⟩ (mv_Mod E hI) rfl hl.1 rfl (Nat.le_of_ble_eq_true rfl) d_Mod_atom_10 (fun α87 H locs e88 h hI => ?_)
    refine lv_aload_n hx hb d_Mod_atom_13 rfl (lv_at hl 0 rfl) ?_
    refine lv_aload_n hx hb d_Mod_atom_14 rfl (lv_at hl 0 rfl) ?_
    refine lv_iload_n hx hb d_Mod_atom_15 rfl (lv_at hl 1 rfl) ?_
    refine mg_cI (As := [.int a1]) (rest := [.ref (mad g 0)]) h (k_Mod_nest (l := l) (g := g) (α := α87) N a1) S hlocks hno E hI kw_Mod_396 ⟨by omega, by omega⟩ (mv_Mod E hI) rfl hl.1 rfl (Nat.le_of_ble_eq_true rfl) d_Mod_atom_16 (fun v91 α89 H locs e90 h hI => ?_)
    refine mg_cI (As := [.int v91]) (rest := []) h (hk.2.2.2.2.2 v91 α89) S hlocks hno E hI kw_Mod_399 ⟨by omega, by omega⟩ (mv_Mod E hI) rfl hl.1 rfl (Nat.le_of_ble_eq_true rfl) d_Mod_atom_19 (fun v94 α92 H locs e93 h hI => ?_)
    refine lv_istore_n (lv' := [(2, .int v94), (0, .ref (mad g 0)), (1, .int a1)]) hx hb d_Mod_atom_22 rfl hl (by decide) rfl (fun ls hl => ?_)
    refine lv_aload_n hx hb d_Mod_atom_23 rfl (lv_at hl 1 rfl) ?_
    refine lv_bipush (v := 41) hx hb d_Mod_atom_24 (by decide) ?_
    refine mg_cV (As := [.int 41]) (rest := []) h (k_Mod_must (l := l) (g := g) (α := α92) N 41) S hlocks hno E hI kw_Mod_405 ⟨by omega, by omega⟩ (mv_Mod E hI) rfl hl.1 rfl (Nat.le_of_ble_eq_true rfl) d_Mod_atom_26 (fun α95 H locs e96 h hI => ?_)
    refine lv_iload_n hx hb d_Mod_atom_29 rfl (lv_at hl 0 rfl) ?_
    exact mc_iret (w := v94) hx hb hr rfl hlocks E hI h d_Mod_atom_30
theorem kw_Mod_393 : kWv "FamilyKernelModel" 393 "FamilyKernelModel" y_Mod_bindName b_Mod_bindName 3 none 2 := ⟨vt_1488, vt_1489, vt_1490, vt_1349, vt_1491, by decide, by decide, by decide +kernel⟩
def f_Mod_binders_261 (N : Nat)  (kk : (Int32 → mS → Option (kO × mS)) × (Int32 → mS → Option (kO × mS)) × (Int32 → mS → Option (kO × mS)) × (Int32 → Int32 → mS → Option (kO × mS)) × (Int32 → mS → Option (kO × mS)) × (Int32 → mS → Option (kO × mS))) (k2 : Int32 → Int32 → mS → Option (kO × mS)) (k39 : Int32 → Int32 → Int32 → Int32 → mS → Option (kO × mS)) (k142 : Int32 → Int32 → Int32 → Int32 → Int32 → mS → Option (kO × mS)) : Nat → Int32 → Int32 → Int32 → Int32 → Int32 → Int32 → mS → Option (kO × mS)
  | 0, _, _, _, _, _, _, _ => none
  | n + 1, x8_261, x7_261, x6_261, x5_261, x2_261, x1_261, β261 => if x5_261 ≤ x8_261 then (mBi (f_Mod_peek N β261) fun v33 α31 => (if v33 = 40 then (k2 (x2_261 + x5_261) x1_261 α31) else (some (some (some (x2_261 + x5_261)), α31)))) else (if (β261.1 19) < 0 ∨ 3400 ≤ ((β261.1 19) : Int32).toNatClampNeg then none else (if (x6_261 + x8_261) < 0 ∨ 3400 ≤ ((x6_261 + x8_261) : Int32).toNatClampNeg then none else (if (x6_261 + x8_261) < 0 ∨ 3400 ≤ ((x6_261 + x8_261) : Int32).toNatClampNeg then none else (mBv (f_Mod_bindName N ((mSA β261 27 (upd (β261.2 27) ((β261.1 19) : Int32).toNatClampNeg x7_261)).2 30 ((x6_261 + x8_261) : Int32).toNatClampNeg) ((mSA β261 27 (upd (β261.2 27) ((β261.1 19) : Int32).toNatClampNeg x7_261)).2 31 ((x6_261 + x8_261) : Int32).toNatClampNeg) (mSA β261 27 (upd (β261.2 27) ((β261.1 19) : Int32).toNatClampNeg x7_261))) fun α38 => (f_Mod_binders_261 N kk k2 k39 k142 n (x8_261 + 1) x7_261 x6_261 x5_261 x2_261 x1_261 α38)))))
def f_Mod_binders_142 (N : Nat)  (kk : (Int32 → mS → Option (kO × mS)) × (Int32 → mS → Option (kO × mS)) × (Int32 → mS → Option (kO × mS)) × (Int32 → Int32 → mS → Option (kO × mS)) × (Int32 → mS → Option (kO × mS)) × (Int32 → mS → Option (kO × mS))) (k2 : Int32 → Int32 → mS → Option (kO × mS)) (k39 : Int32 → Int32 → Int32 → Int32 → mS → Option (kO × mS)) : Nat → Int32 → Int32 → Int32 → Int32 → Int32 → mS → Option (kO × mS)
  | 0, _, _, _, _, _, _ => none
  | n + 1, x7_142, x6_142, x5_142, x2_142, x1_142, β142 => if x5_142 ≤ x7_142 then (mBi (f_Mod_nest N x1_142 (mSi β142 20 (x6_142 + x5_142))) fun v22 α20 => (mBi (kk.2.2.2.2.2 v22 α20) fun v25 α23 => (if v25 < 0 ∨ 400000 ≤ (v25 : Int32).toNatClampNeg then none else (if ((α23.1 21) + ((α23.2 6 (v25 : Int32).toNatClampNeg) * (x5_142 - 1))) ≤ 6000 then (mBv (f_Mod_must N 41 (mSi α23 21 ((α23.1 21) + ((α23.2 6 (v25 : Int32).toNatClampNeg) * (x5_142 - 1))))) fun α28 => (f_Mod_binders_261 N kk k2 k39 (f_Mod_binders_142 N kk k2 k39 n) N 0 v25 x6_142 x5_142 x2_142 x1_142 (mSi α28 20 x6_142))) else (some (none, (mTh (mSi α23 21 ((α23.1 21) + ((α23.2 6 (v25 : Int32).toNatClampNeg) * (x5_142 - 1)))) 10 (-1)))))))) else (if x7_142 < 0 ∨ 3100 ≤ (x7_142 : Int32).toNatClampNeg then none else (if (x6_142 + x7_142) < 0 ∨ 3400 ≤ ((x6_142 + x7_142) : Int32).toNatClampNeg then none else (if x7_142 < 0 ∨ 3100 ≤ (x7_142 : Int32).toNatClampNeg then none else (if (x6_142 + x7_142) < 0 ∨ 3400 ≤ ((x6_142 + x7_142) : Int32).toNatClampNeg then none else (f_Mod_binders_142 N kk k2 k39 n (x7_142 + 1) x6_142 x5_142 x2_142 x1_142 (mSA (mSA β142 30 (upd (β142.2 30) ((x6_142 + x7_142) : Int32).toNatClampNeg (β142.2 28 (x7_142 : Int32).toNatClampNeg))) 31 (upd ((mSA β142 30 (upd (β142.2 30) ((x6_142 + x7_142) : Int32).toNatClampNeg (β142.2 28 (x7_142 : Int32).toNatClampNeg))).2 31) ((x6_142 + x7_142) : Int32).toNatClampNeg ((mSA β142 30 (upd (β142.2 30) ((x6_142 + x7_142) : Int32).toNatClampNeg (β142.2 28 (x7_142 : Int32).toNatClampNeg))).2 29 (x7_142 : Int32).toNatClampNeg))))))))
def f_Mod_binders_j121 (N : Nat)  (kk : (Int32 → mS → Option (kO × mS)) × (Int32 → mS → Option (kO × mS)) × (Int32 → mS → Option (kO × mS)) × (Int32 → Int32 → mS → Option (kO × mS)) × (Int32 → mS → Option (kO × mS)) × (Int32 → mS → Option (kO × mS))) (k2 : Int32 → Int32 → mS → Option (kO × mS)) (k39 : Int32 → Int32 → Int32 → Int32 → mS → Option (kO × mS)) (y4 : Int32) (y3 : Int32) (y2 : Int32) (y1 : Int32) (γ : mS) : Option (kO × mS) := mBv (f_Mod_must N 58 γ) fun α17 => (f_Mod_binders_142 N kk k2 k39 N 0 (α17.1 20) (y4 - y3) y2 y1 α17)
def f_Mod_binders_39 (N : Nat)  (kk : (Int32 → mS → Option (kO × mS)) × (Int32 → mS → Option (kO × mS)) × (Int32 → mS → Option (kO × mS)) × (Int32 → Int32 → mS → Option (kO × mS)) × (Int32 → mS → Option (kO × mS)) × (Int32 → mS → Option (kO × mS))) (k2 : Int32 → Int32 → mS → Option (kO × mS)) : Nat → Int32 → Int32 → Int32 → Int32 → mS → Option (kO × mS)
  | 0, _, _, _, _, _ => none
  | n + 1, x4_39, x3_39, x2_39, x1_39, β39 => mBi (f_Mod_peek N β39) fun v15 α13 => (if v15 = 1 then (mBi (f_Mod_reserved N α13) fun v46 α44 => (if v46 = 0 then (if ((((α44.1 19) + (α44.1 20)) + x4_39) - x3_39) < 3000 then (if (x4_39 - x3_39) < 0 ∨ 3100 ≤ ((x4_39 - x3_39) : Int32).toNatClampNeg then none else (if (x4_39 - x3_39) < 0 ∨ 3100 ≤ ((x4_39 - x3_39) : Int32).toNatClampNeg then none else (mBv (f_Mod_take N (mSA (mSA α44 28 (upd (α44.2 28) ((x4_39 - x3_39) : Int32).toNatClampNeg (α44.1 7))) 29 (upd ((mSA α44 28 (upd (α44.2 28) ((x4_39 - x3_39) : Int32).toNatClampNeg (α44.1 7))).2 29) ((x4_39 - x3_39) : Int32).toNatClampNeg ((α44.1 8) - (α44.1 7))))) fun α51 => (f_Mod_binders_39 N kk k2 n (x4_39 + 1) x3_39 x2_39 x1_39 α51)))) else (some (none, (mTh α44 10 (-1))))) else (f_Mod_binders_j121 N kk k2 (f_Mod_binders_39 N kk k2 n) x4_39 x3_39 x2_39 x1_39 α44))) else (f_Mod_binders_j121 N kk k2 (f_Mod_binders_39 N kk k2 n) x4_39 x3_39 x2_39 x1_39 α13))
def f_Mod_binders_2 (N : Nat)  (kk : (Int32 → mS → Option (kO × mS)) × (Int32 → mS → Option (kO × mS)) × (Int32 → mS → Option (kO × mS)) × (Int32 → Int32 → mS → Option (kO × mS)) × (Int32 → mS → Option (kO × mS)) × (Int32 → mS → Option (kO × mS))) : Nat → Int32 → Int32 → mS → Option (kO × mS)
  | 0, _, _, _ => none
  | n + 1, x2_2, x1_2, β2 => mBv (f_Mod_must N 40 β2) fun α1 => (mBi (f_Mod_peek N α1) fun v5 α3 => (if v5 = 1 then (mBi (f_Mod_reserved N α3) fun v11 α9 => (if v11 = 0 then (f_Mod_binders_39 N kk (f_Mod_binders_2 N kk n) N (α1.1 19) (α1.1 19) x2_2 x1_2 α9) else (((f_Mod_cant N α9)).bind fun α53 => (some (none, (mTh α53 (α53.1 100) (α53.1 101))))))) else (((f_Mod_cant N α3)).bind fun α7 => (some (none, (mTh α7 (α7.1 100) (α7.1 101)))))))
def f_Mod_binders (N : Nat) (kk : (Int32 → mS → Option (kO × mS)) × (Int32 → mS → Option (kO × mS)) × (Int32 → mS → Option (kO × mS)) × (Int32 → Int32 → mS → Option (kO × mS)) × (Int32 → mS → Option (kO × mS)) × (Int32 → mS → Option (kO × mS))) (a1 : Int32) (α : mS) : Option (kO × mS) := f_Mod_binders_2 N kk N 0 a1 α
set_option maxHeartbeats 4000000 in
set_option maxRecDepth 100000 in
theorem k_Mod_binders {l : Launch} {g : mG} {α : mS} (N : Nat) (kk : (Int32 → mS → Option (kO × mS)) × (Int32 → mS → Option (kO × mS)) × (Int32 → mS → Option (kO × mS)) × (Int32 → Int32 → mS → Option (kO × mS)) × (Int32 → mS → Option (kO × mS)) × (Int32 → mS → Option (kO × mS))) (d : Nat) (hk : hk_applied l g kk (45 + d) (1307 + 28 * d)) (a1 : Int32)  : ∀ x, f_Mod_binders N kk a1 α = some x → mC l g y_Mod_binders b_Mod_binders 9 (some .int) (45 + (d + 1)) (1307 + 28 * (d + 1)) [.ref (mad g 0), .int a1] α (mQr x) := by
  intro x h
  unfold f_Mod_binders at h
  refine mc_ofW (by decide) (fun A p e s m args below meth c S hr hlocks hno hargs E hI => ?_)
  have hx := S.1
  have hb := S.2.1
  have hown := S.2.2.2.1
  have hT := S.2.2.2.2
  subst hargs
  have hl := lv_entry ([.ref (mad g 0), .int a1]) (n := 9) (Nat.le_of_ble_eq_true rfl)
  rw [lg_entry_eq]
  generalize (lg_sl ([.ref (mad g 0), .int a1]) ++ List.replicate (9 - (lg_sl ([.ref (mad g 0), .int a1])).length) Slot.unset).toArray = ls at hl ⊢
  have hl : lv_has ls 9 [(0, .ref (mad g 0)), (1, .int a1)] := hl
  refine lv_iconst (v := 0) hx hb d_Mod_binders_0 (by decide) ?_
  refine lv_istore_n (lv' := [(2, .int 0), (0, .ref (mad g 0)), (1, .int a1)]) hx hb d_Mod_binders_1 rfl hl (by decide) rfl (fun ls hl => ?_)
  have L2 : ∀ (n2 : Nat) (x2_2 : Int32) (x1_2 : Int32) (β2 : mS) (H : Heap) (locs : List Loc) (ls : Array Slot), f_Mod_binders_2 N kk n2 x2_2 x1_2 β2 = some x → mI g A s β2 H locs → lv_has ls 9 [(2, .int x2_2), (0, .ref (mad g 0)), (1, .int x1_2)] → W p l e (mR (45 + (d + 1)) (1307 + 28 * (d + 1))) s m ([.ref (mad g 0), .int a1]).toArray below meth c H locs 0 0 (vEQ below (mQ g A (mQr x)) ([.ref (mad g 0), .int a1]).toArray s A) (F0 m 2 ls []) := by
    intro n2
    induction n2 with
    | zero => intro x2_2 x1_2 β2 H locs ls h hI hl; rw [f_Mod_binders_2] at h; cases h
    | succ n2 ih2 =>
      intro x2_2 x1_2 β2 H locs ls h hI hl
      rw [f_Mod_binders_2] at h
      refine lv_aload_n hx hb d_Mod_binders_2 rfl (lv_at hl 1 rfl) ?_
      refine lv_bipush (v := 40) hx hb d_Mod_binders_3 (by decide) ?_
      refine mg_cV (As := [.int 40]) (rest := []) h (k_Mod_must (l := l) (g := g) (α := β2) N 40) S hlocks hno E hI kw_Mod_405 ⟨by omega, by omega⟩ (mv_Mod E hI) rfl hl.1 rfl (Nat.le_of_ble_eq_true rfl) d_Mod_binders_5 (fun α1 H locs e2 h hI => ?_)
      refine lv_aload_n hx hb d_Mod_binders_8 rfl (lv_at hl 1 rfl) ?_
      refine mf_scopes S E hI vt_1314 d_Mod_binders_9 ?_
      refine lv_istore_n (lv' := [(3, .int (α1.1 19)), (2, .int x2_2), (0, .ref (mad g 0)), (1, .int x1_2)]) hx hb d_Mod_binders_12 rfl hl (by decide) rfl (fun ls hl => ?_)
      refine lv_aload_n hx hb d_Mod_binders_13 rfl (lv_at hl 2 rfl) ?_
      refine mf_scopes S E hI vt_1314 d_Mod_binders_14 ?_
      refine lv_istore (lv' := [(4, .int (α1.1 19)), (3, .int (α1.1 19)), (2, .int x2_2), (0, .ref (mad g 0)), (1, .int x1_2)]) hx hb d_Mod_binders_17 hl (by decide) rfl (fun ls hl => ?_)
      refine lv_aload_n hx hb d_Mod_binders_19 rfl (lv_at hl 3 rfl) ?_
      refine mg_cI (As := []) (rest := []) h (k_Mod_peek (l := l) (g := g) (α := α1) N) S hlocks hno E hI kw_Mod_273 ⟨by omega, by omega⟩ (mv_Mod E hI) rfl hl.1 rfl (Nat.le_of_ble_eq_true rfl) d_Mod_binders_20 (fun v5 α3 H locs e4 h hI => ?_)
      refine lv_iconst (v := 1) hx hb d_Mod_binders_23 (by decide) ?_
      refine lv_icmp_ne (tgt := 34) hx hb d_Mod_binders_24 (by decide) (fun c6 => ?_) (fun c6 => ?_)
      · replace h := Eq.trans (if_neg c6).symm h
        refine lv_aload_n hx hb d_Mod_binders_34 rfl (lv_at hl 3 rfl) ?_
        obtain ⟨α7, e8, h⟩ := Option.bind_eq_some_iff.mp h
        refine mg_cant (As := []) (rest := []) ((k_Mod_cant (l := l) (g := g) (α := α3) N) _ e8) S hlocks hno E hI kw_Mod_277 ⟨by omega, by omega⟩ (mv_Mod E hI) rfl hl.1 rfl (Nat.le_of_ble_eq_true rfl) d_Mod_binders_35 (fun q H locs hN => ?_)
        exact mg_athrow S hlocks hno E hN h d_Mod_binders_38
      · replace h := Eq.trans (if_pos c6).symm h
        refine lv_aload_n hx hb d_Mod_binders_27 rfl (lv_at hl 3 rfl) ?_
        refine mg_cI (As := []) (rest := []) h (k_Mod_reserved (l := l) (g := g) (α := α3) N) S hlocks hno E hI kw_Mod_380 ⟨by omega, by omega⟩ (mv_Mod E hI) rfl hl.1 rfl (Nat.le_of_ble_eq_true rfl) d_Mod_binders_28 (fun v11 α9 H locs e10 h hI => ?_)
        refine lv_if_eq (tgt := 39) hx hb d_Mod_binders_31 (by decide) (fun c12 => ?_) (fun c12 => ?_)
        · replace h := Eq.trans (if_pos c12).symm h
          have L39 : ∀ (n39 : Nat) (x4_39 : Int32) (x3_39 : Int32) (x2_39 : Int32) (x1_39 : Int32) (β39 : mS) (H : Heap) (locs : List Loc) (ls : Array Slot), f_Mod_binders_39 N kk (f_Mod_binders_2 N kk n2) n39 x4_39 x3_39 x2_39 x1_39 β39 = some x → mI g A s β39 H locs → lv_has ls 9 [(4, .int x4_39), (3, .int x3_39), (2, .int x2_39), (0, .ref (mad g 0)), (1, .int x1_39)] → W p l e (mR (45 + (d + 1)) (1307 + 28 * (d + 1))) s m ([.ref (mad g 0), .int a1]).toArray below meth c H locs 0 0 (vEQ below (mQ g A (mQr x)) ([.ref (mad g 0), .int a1]).toArray s A) (F0 m 39 ls []) := by
            intro n39
            induction n39 with
            | zero => intro x4_39 x3_39 x2_39 x1_39 β39 H locs ls h hI hl; rw [f_Mod_binders_39] at h; cases h
            | succ n39 ih39 =>
              intro x4_39 x3_39 x2_39 x1_39 β39 H locs ls h hI hl
              rw [f_Mod_binders_39] at h
              have J121 : ∀ (y4 : Int32) (y3 : Int32) (y2 : Int32) (y1 : Int32) (γ : mS) (H : Heap) (locs : List Loc) (ls : Array Slot), f_Mod_binders_j121 N kk (f_Mod_binders_2 N kk n2) (f_Mod_binders_39 N kk (f_Mod_binders_2 N kk n2) n39) y4 y3 y2 y1 γ = some x → mI g A s γ H locs → lv_has ls 9 [(4, .int y4), (3, .int y3), (2, .int y2), (0, .ref (mad g 0)), (1, .int y1)] → W p l e (mR (45 + (d + 1)) (1307 + 28 * (d + 1))) s m ([.ref (mad g 0), .int a1]).toArray below meth c H locs 0 0 (vEQ below (mQ g A (mQr x)) ([.ref (mad g 0), .int a1]).toArray s A) (F0 m 121 ls []) := by
                intro y4 y3 y2 y1 γ H locs ls h hI hl
                unfold f_Mod_binders_j121 at h
                refine lv_aload_n hx hb d_Mod_binders_121 rfl (lv_at hl 3 rfl) ?_
                refine lv_bipush (v := 58) hx hb d_Mod_binders_122 (by decide) ?_
                refine mg_cV (As := [.int 58]) (rest := []) h (k_Mod_must (l := l) (g := g) (α := γ) N 58) S hlocks hno E hI kw_Mod_405 ⟨by omega, by omega⟩ (mv_Mod E hI) rfl hl.1 rfl (Nat.le_of_ble_eq_true rfl) d_Mod_binders_124 (fun α17 H locs e18 h hI => ?_)
                refine lv_iload hx hb d_Mod_binders_127 (lv_at hl 0 rfl) ?_
                refine lv_iload_n hx hb d_Mod_binders_129 rfl (lv_at hl 1 rfl) ?_
                refine lv_isub hx hb d_Mod_binders_130 ?_
                refine lv_istore (lv' := [(5, .int (y4 - y3)), (4, .int y4), (3, .int y3), (2, .int y2), (0, .ref (mad g 0)), (1, .int y1)]) hx hb d_Mod_binders_131 hl (by decide) rfl (fun ls hl => ?_)
                refine lv_aload_n hx hb d_Mod_binders_133 rfl (lv_at hl 4 rfl) ?_
                refine mf_pendingHeld S E hI vt_1320 d_Mod_binders_134 ?_
                refine lv_istore (lv' := [(6, .int (α17.1 20)), (5, .int (y4 - y3)), (4, .int y4), (3, .int y3), (2, .int y2), (0, .ref (mad g 0)), (1, .int y1)]) hx hb d_Mod_binders_137 hl (by decide) rfl (fun ls hl => ?_)
                refine lv_iconst (v := 0) hx hb d_Mod_binders_139 (by decide) ?_
                refine lv_istore (lv' := [(7, .int 0), (6, .int (α17.1 20)), (5, .int (y4 - y3)), (4, .int y4), (3, .int y3), (2, .int y2), (0, .ref (mad g 0)), (1, .int y1)]) hx hb d_Mod_binders_140 hl (by decide) rfl (fun ls hl => ?_)
                have L142 : ∀ (n142 : Nat) (x7_142 : Int32) (x6_142 : Int32) (x5_142 : Int32) (x2_142 : Int32) (x1_142 : Int32) (β142 : mS) (H : Heap) (locs : List Loc) (ls : Array Slot), f_Mod_binders_142 N kk (f_Mod_binders_2 N kk n2) (f_Mod_binders_39 N kk (f_Mod_binders_2 N kk n2) n39) n142 x7_142 x6_142 x5_142 x2_142 x1_142 β142 = some x → mI g A s β142 H locs → lv_has ls 9 [(7, .int x7_142), (6, .int x6_142), (5, .int x5_142), (2, .int x2_142), (0, .ref (mad g 0)), (1, .int x1_142)] → W p l e (mR (45 + (d + 1)) (1307 + 28 * (d + 1))) s m ([.ref (mad g 0), .int a1]).toArray below meth c H locs 0 0 (vEQ below (mQ g A (mQr x)) ([.ref (mad g 0), .int a1]).toArray s A) (F0 m 142 ls []) := by
                  intro n142
                  induction n142 with
                  | zero => intro x7_142 x6_142 x5_142 x2_142 x1_142 β142 H locs ls h hI hl; rw [f_Mod_binders_142] at h; cases h
                  | succ n142 ih142 =>
                    intro x7_142 x6_142 x5_142 x2_142 x1_142 β142 H locs ls h hI hl
                    rw [f_Mod_binders_142] at h
                    refine lv_iload hx hb d_Mod_binders_142 (lv_at hl 0 rfl) ?_
                    refine lv_iload hx hb d_Mod_binders_144 (lv_at hl 2 rfl) ?_
                    refine lv_icmp_ge (tgt := 189) hx hb d_Mod_binders_146 (by decide) (fun c19 => ?_) (fun c19 => ?_)
                    · replace h := Eq.trans (if_pos c19).symm h
                      refine lv_aload_n hx hb d_Mod_binders_189 rfl (lv_at hl 4 rfl) ?_
                      refine lv_iload hx hb d_Mod_binders_190 (lv_at hl 1 rfl) ?_
                      refine lv_iload hx hb d_Mod_binders_192 (lv_at hl 2 rfl) ?_
                      refine lv_iadd hx hb d_Mod_binders_194 ?_
                      refine mp_pendingHeld S E hI vt_1320 d_Mod_binders_195 (fun H locs hI => ?_)
                      refine lv_aload_n hx hb d_Mod_binders_198 rfl (lv_at hl 4 rfl) ?_
                      refine lv_aload_n hx hb d_Mod_binders_199 rfl (lv_at hl 4 rfl) ?_
                      refine lv_iload_n hx hb d_Mod_binders_200 rfl (lv_at hl 5 rfl) ?_
                      refine mg_cI (As := [.int x1_142]) (rest := [.ref (mad g 0)]) h (k_Mod_nest (l := l) (g := g) (α := (mSi β142 20 (x6_142 + x5_142))) N x1_142) S hlocks hno E hI kw_Mod_396 ⟨by omega, by omega⟩ (mv_Mod E hI) rfl hl.1 rfl (Nat.le_of_ble_eq_true rfl) d_Mod_binders_201 (fun v22 α20 H locs e21 h hI => ?_)
                      refine mg_cI (As := [.int v22]) (rest := []) h (hk.2.2.2.2.2 v22 α20) S hlocks hno E hI kw_Mod_399 ⟨by omega, by omega⟩ (mv_Mod E hI) rfl hl.1 rfl (Nat.le_of_ble_eq_true rfl) d_Mod_binders_204 (fun v25 α23 H locs e24 h hI => ?_)
                      refine lv_istore (lv' := [(7, .int v25), (6, .int x6_142), (5, .int x5_142), (2, .int x2_142), (0, .ref (mad g 0)), (1, .int x1_142)]) hx hb d_Mod_binders_207 hl (by decide) rfl (fun ls hl => ?_)
                      refine lv_aload_n hx hb d_Mod_binders_209 rfl (lv_at hl 4 rfl) ?_
                      refine lv_dup hx hb d_Mod_binders_210 rfl ?_
                      refine mf_copies S E hI vt_1321 d_Mod_binders_211 ?_
                      refine lv_aload_n hx hb d_Mod_binders_214 rfl (lv_at hl 4 rfl) ?_
                      refine mf_big S E hI vt_1283 d_Mod_binders_215 ?_
                      refine lv_iload hx hb d_Mod_binders_218 (lv_at hl 0 rfl) ?_
                      by_cases c26 : v25 < 0 ∨ 400000 ≤ (v25 : Int32).toNatClampNeg
                      · replace h := Eq.trans (if_pos c26).symm h
                        cases h
                      · replace h := Eq.trans (if_neg c26).symm h
                        refine ml_big S E hI c26 d_Mod_binders_220 ?_
                        refine lv_iload hx hb d_Mod_binders_221 (lv_at hl 2 rfl) ?_
                        refine lv_iconst (v := 1) hx hb d_Mod_binders_223 (by decide) ?_
                        refine lv_isub hx hb d_Mod_binders_224 ?_
                        refine lv_imul hx hb d_Mod_binders_225 ?_
                        refine lv_iadd hx hb d_Mod_binders_226 ?_
                        refine mp_copies S E hI vt_1321 d_Mod_binders_227 (fun H locs hI => ?_)
                        refine lv_aload_n hx hb d_Mod_binders_230 rfl (lv_at hl 4 rfl) ?_
                        refine mf_copies S E hI vt_1321 d_Mod_binders_231 ?_
                        refine lv_sipush (v := 6000) hx hb d_Mod_binders_234 (by decide) ?_
                        refine lv_icmp_le (tgt := 246) hx hb d_Mod_binders_237 (by decide) (fun c27 => ?_) (fun c27 => ?_)
                        · replace h := Eq.trans (if_pos c27).symm h
                          refine lv_aload_n hx hb d_Mod_binders_246 rfl (lv_at hl 4 rfl) ?_
                          refine lv_bipush (v := 41) hx hb d_Mod_binders_247 (by decide) ?_
                          refine mg_cV (As := [.int 41]) (rest := []) h (k_Mod_must (l := l) (g := g) (α := (mSi α23 21 ((α23.1 21) + ((α23.2 6 (v25 : Int32).toNatClampNeg) * (x5_142 - 1))))) N 41) S hlocks hno E hI kw_Mod_405 ⟨by omega, by omega⟩ (mv_Mod E hI) rfl hl.1 rfl (Nat.le_of_ble_eq_true rfl) d_Mod_binders_249 (fun α28 H locs e29 h hI => ?_)
                          refine lv_aload_n hx hb d_Mod_binders_252 rfl (lv_at hl 4 rfl) ?_
                          refine lv_iload hx hb d_Mod_binders_253 (lv_at hl 1 rfl) ?_
                          refine mp_pendingHeld S E hI vt_1320 d_Mod_binders_255 (fun H locs hI => ?_)
                          refine lv_iconst (v := 0) hx hb d_Mod_binders_258 (by decide) ?_
                          refine lv_istore (lv' := [(8, .int 0), (7, .int v25), (6, .int x6_142), (5, .int x5_142), (2, .int x2_142), (0, .ref (mad g 0)), (1, .int x1_142)]) hx hb d_Mod_binders_259 hl (by decide) rfl (fun ls hl => ?_)
                          have L261 : ∀ (n261 : Nat) (x8_261 : Int32) (x7_261 : Int32) (x6_261 : Int32) (x5_261 : Int32) (x2_261 : Int32) (x1_261 : Int32) (β261 : mS) (H : Heap) (locs : List Loc) (ls : Array Slot), f_Mod_binders_261 N kk (f_Mod_binders_2 N kk n2) (f_Mod_binders_39 N kk (f_Mod_binders_2 N kk n2) n39) (f_Mod_binders_142 N kk (f_Mod_binders_2 N kk n2) (f_Mod_binders_39 N kk (f_Mod_binders_2 N kk n2) n39) n142) n261 x8_261 x7_261 x6_261 x5_261 x2_261 x1_261 β261 = some x → mI g A s β261 H locs → lv_has ls 9 [(8, .int x8_261), (7, .int x7_261), (6, .int x6_261), (5, .int x5_261), (2, .int x2_261), (0, .ref (mad g 0)), (1, .int x1_261)] → W p l e (mR (45 + (d + 1)) (1307 + 28 * (d + 1))) s m ([.ref (mad g 0), .int a1]).toArray below meth c H locs 0 0 (vEQ below (mQ g A (mQr x)) ([.ref (mad g 0), .int a1]).toArray s A) (F0 m 261 ls []) := by
                            intro n261
                            induction n261 with
                            | zero => intro x8_261 x7_261 x6_261 x5_261 x2_261 x1_261 β261 H locs ls h hI hl; rw [f_Mod_binders_261] at h; cases h
                            | succ n261 ih261 =>
                              intro x8_261 x7_261 x6_261 x5_261 x2_261 x1_261 β261 H locs ls h hI hl
                              rw [f_Mod_binders_261] at h
                              refine lv_iload hx hb d_Mod_binders_261 (lv_at hl 0 rfl) ?_
                              refine lv_iload hx hb d_Mod_binders_263 (lv_at hl 3 rfl) ?_
                              refine lv_icmp_ge (tgt := 309) hx hb d_Mod_binders_265 (by decide) (fun c30 => ?_) (fun c30 => ?_)
                              · replace h := Eq.trans (if_pos c30).symm h
                                refine lv_iload_n hx hb d_Mod_binders_309 rfl (lv_at hl 4 rfl) ?_
                                refine lv_iload hx hb d_Mod_binders_310 (lv_at hl 3 rfl) ?_
                                refine lv_iadd hx hb d_Mod_binders_312 ?_
                                refine lv_istore_n (lv' := [(2, .int (x2_261 + x5_261)), (8, .int x8_261), (7, .int x7_261), (6, .int x6_261), (5, .int x5_261), (0, .ref (mad g 0)), (1, .int x1_261)]) hx hb d_Mod_binders_313 rfl hl (by decide) rfl (fun ls hl => ?_)
                                refine lv_aload_n hx hb d_Mod_binders_314 rfl (lv_at hl 5 rfl) ?_
                                refine mg_cI (As := []) (rest := []) h (k_Mod_peek (l := l) (g := g) (α := β261) N) S hlocks hno E hI kw_Mod_273 ⟨by omega, by omega⟩ (mv_Mod E hI) rfl hl.1 rfl (Nat.le_of_ble_eq_true rfl) d_Mod_binders_315 (fun v33 α31 H locs e32 h hI => ?_)
                                refine lv_bipush (v := 40) hx hb d_Mod_binders_318 (by decide) ?_
                                refine lv_icmp_eq (tgt := 2) hx hb d_Mod_binders_320 (by decide) (fun c34 => ?_) (fun c34 => ?_)
                                · replace h := Eq.trans (if_pos c34).symm h
                                  exact ih2 (x2_261 + x5_261) x1_261 _ _ _ _ h hI (lv_sub hl [0, 5, 6] rfl)
                                · replace h := Eq.trans (if_neg c34).symm h
                                  refine lv_iload_n hx hb d_Mod_binders_323 rfl (lv_at hl 0 rfl) ?_
                                  exact mc_iret (w := (x2_261 + x5_261)) hx hb hr rfl hlocks E hI h d_Mod_binders_324
                              · replace h := Eq.trans (if_neg c30).symm h
                                refine lv_aload_n hx hb d_Mod_binders_268 rfl (lv_at hl 5 rfl) ?_
                                refine mf_typeStack S E hI vt_1315 d_Mod_binders_269 ?_
                                refine lv_aload_n hx hb d_Mod_binders_272 rfl (lv_at hl 5 rfl) ?_
                                refine mf_scopes S E hI vt_1314 d_Mod_binders_273 ?_
                                refine lv_iload hx hb d_Mod_binders_276 (lv_at hl 1 rfl) ?_
                                by_cases c35 : (β261.1 19) < 0 ∨ 3400 ≤ ((β261.1 19) : Int32).toNatClampNeg
                                · replace h := Eq.trans (if_pos c35).symm h
                                  cases h
                                · replace h := Eq.trans (if_neg c35).symm h
                                  refine ms_typeStack S E hI c35 d_Mod_binders_278 (fun H locs hI => ?_)
                                  refine lv_aload_n hx hb d_Mod_binders_279 rfl (lv_at hl 5 rfl) ?_
                                  refine lv_aload_n hx hb d_Mod_binders_280 rfl (lv_at hl 5 rfl) ?_
                                  refine mf_heldAt S E hI vt_1318 d_Mod_binders_281 ?_
                                  refine lv_iload hx hb d_Mod_binders_284 (lv_at hl 2 rfl) ?_
                                  refine lv_iload hx hb d_Mod_binders_286 (lv_at hl 0 rfl) ?_
                                  refine lv_iadd hx hb d_Mod_binders_288 ?_
                                  by_cases c36 : (x6_261 + x8_261) < 0 ∨ 3400 ≤ ((x6_261 + x8_261) : Int32).toNatClampNeg
                                  · replace h := Eq.trans (if_pos c36).symm h
                                    cases h
                                  · replace h := Eq.trans (if_neg c36).symm h
                                    refine ml_heldAt S E hI c36 d_Mod_binders_289 ?_
                                    refine lv_aload_n hx hb d_Mod_binders_290 rfl (lv_at hl 5 rfl) ?_
                                    refine mf_heldSize S E hI vt_1319 d_Mod_binders_291 ?_
                                    refine lv_iload hx hb d_Mod_binders_294 (lv_at hl 2 rfl) ?_
                                    refine lv_iload hx hb d_Mod_binders_296 (lv_at hl 0 rfl) ?_
                                    refine lv_iadd hx hb d_Mod_binders_298 ?_
                                    by_cases c37 : (x6_261 + x8_261) < 0 ∨ 3400 ≤ ((x6_261 + x8_261) : Int32).toNatClampNeg
                                    · replace h := Eq.trans (if_pos c37).symm h
                                      cases h
                                    · replace h := Eq.trans (if_neg c37).symm h
                                      refine ml_heldSize S E hI c37 d_Mod_binders_299 ?_
                                      refine mg_cV (As := [.int ((mSA β261 27 (upd (β261.2 27) ((β261.1 19) : Int32).toNatClampNeg x7_261)).2 30 ((x6_261 + x8_261) : Int32).toNatClampNeg), .int ((mSA β261 27 (upd (β261.2 27) ((β261.1 19) : Int32).toNatClampNeg x7_261)).2 31 ((x6_261 + x8_261) : Int32).toNatClampNeg)]) (rest := []) h (k_Mod_bindName (l := l) (g := g) (α := (mSA β261 27 (upd (β261.2 27) ((β261.1 19) : Int32).toNatClampNeg x7_261))) N ((mSA β261 27 (upd (β261.2 27) ((β261.1 19) : Int32).toNatClampNeg x7_261)).2 30 ((x6_261 + x8_261) : Int32).toNatClampNeg) ((mSA β261 27 (upd (β261.2 27) ((β261.1 19) : Int32).toNatClampNeg x7_261)).2 31 ((x6_261 + x8_261) : Int32).toNatClampNeg)) S hlocks hno E hI kw_Mod_393 ⟨by omega, by omega⟩ (mv_Mod E hI) rfl hl.1 rfl (Nat.le_of_ble_eq_true rfl) d_Mod_binders_300 (fun α38 H locs e39 h hI => ?_)
                                      refine lv_iinc (v := (x8_261 + 1)) (lv' := [(8, .int (x8_261 + 1)), (7, .int x7_261), (6, .int x6_261), (5, .int x5_261), (2, .int x2_261), (0, .ref (mad g 0)), (1, .int x1_261)]) hx hb d_Mod_binders_303 hl (k := 0) rfl rfl (by decide) rfl (fun ls hl => ?_)
                                      refine lv_goto (tgt := 261) hx hb d_Mod_binders_306 (by decide) ?_
                                      exact ih261 (x8_261 + 1) x7_261 x6_261 x5_261 x2_261 x1_261 _ _ _ _ h hI (lv_sub hl [0, 1, 2, 3, 4, 5, 6] rfl)
                          exact L261 N 0 v25 x6_142 x5_142 x2_142 x1_142 _ _ _ _ h hI (lv_sub hl [0, 1, 2, 3, 4, 5, 6] rfl)
                        · replace h := Eq.trans (if_neg c27).symm h
                          refine lv_bipush (v := 10) hx hb d_Mod_binders_240 (by decide) ?_
                          refine mg_fails S E hI kw_Mod_323 hl.1 ⟨by omega, by omega⟩ (Nat.le_of_ble_eq_true rfl) d_Mod_binders_242 (fun q H locs hN => ?_)
                          exact mg_athrow S hlocks hno E hN h d_Mod_binders_245
                    · replace h := Eq.trans (if_neg c19).symm h
                      refine lv_aload_n hx hb d_Mod_binders_149 rfl (lv_at hl 4 rfl) ?_
                      refine mf_heldAt S E hI vt_1318 d_Mod_binders_150 ?_
                      refine lv_iload hx hb d_Mod_binders_153 (lv_at hl 1 rfl) ?_
                      refine lv_iload hx hb d_Mod_binders_155 (lv_at hl 0 rfl) ?_
                      refine lv_iadd hx hb d_Mod_binders_157 ?_
                      refine lv_aload_n hx hb d_Mod_binders_158 rfl (lv_at hl 4 rfl) ?_
                      refine mf_pendingAt S E hI vt_1316 d_Mod_binders_159 ?_
                      refine lv_iload hx hb d_Mod_binders_162 (lv_at hl 0 rfl) ?_
                      by_cases c40 : x7_142 < 0 ∨ 3100 ≤ (x7_142 : Int32).toNatClampNeg
                      · replace h := Eq.trans (if_pos c40).symm h
                        cases h
                      · replace h := Eq.trans (if_neg c40).symm h
                        refine ml_pendingAt S E hI c40 d_Mod_binders_164 ?_
                        by_cases c41 : (x6_142 + x7_142) < 0 ∨ 3400 ≤ ((x6_142 + x7_142) : Int32).toNatClampNeg
                        · replace h := Eq.trans (if_pos c41).symm h
                          cases h
                        · replace h := Eq.trans (if_neg c41).symm h
                          refine ms_heldAt S E hI c41 d_Mod_binders_165 (fun H locs hI => ?_)
                          refine lv_aload_n hx hb d_Mod_binders_166 rfl (lv_at hl 4 rfl) ?_
                          refine mf_heldSize S E hI vt_1319 d_Mod_binders_167 ?_
                          refine lv_iload hx hb d_Mod_binders_170 (lv_at hl 1 rfl) ?_
                          refine lv_iload hx hb d_Mod_binders_172 (lv_at hl 0 rfl) ?_
                          refine lv_iadd hx hb d_Mod_binders_174 ?_
                          refine lv_aload_n hx hb d_Mod_binders_175 rfl (lv_at hl 4 rfl) ?_
                          refine mf_pendingSize S E hI vt_1317 d_Mod_binders_176 ?_
                          refine lv_iload hx hb d_Mod_binders_179 (lv_at hl 0 rfl) ?_
                          by_cases c42 : x7_142 < 0 ∨ 3100 ≤ (x7_142 : Int32).toNatClampNeg
                          · replace h := Eq.trans (if_pos c42).symm h
                            cases h
                          · replace h := Eq.trans (if_neg c42).symm h
                            refine ml_pendingSize S E hI c42 d_Mod_binders_181 ?_
                            by_cases c43 : (x6_142 + x7_142) < 0 ∨ 3400 ≤ ((x6_142 + x7_142) : Int32).toNatClampNeg
                            · replace h := Eq.trans (if_pos c43).symm h
                              cases h
                            · replace h := Eq.trans (if_neg c43).symm h
                              refine ms_heldSize S E hI c43 d_Mod_binders_182 (fun H locs hI => ?_)
                              refine lv_iinc (v := (x7_142 + 1)) (lv' := [(7, .int (x7_142 + 1)), (6, .int x6_142), (5, .int x5_142), (2, .int x2_142), (0, .ref (mad g 0)), (1, .int x1_142)]) hx hb d_Mod_binders_183 hl (k := 0) rfl rfl (by decide) rfl (fun ls hl => ?_)
                              refine lv_goto (tgt := 142) hx hb d_Mod_binders_186 (by decide) ?_
                              exact ih142 (x7_142 + 1) x6_142 x5_142 x2_142 x1_142 _ _ _ _ h hI (lv_sub hl [0, 1, 2, 3, 4, 5] rfl)
                exact L142 N 0 (α17.1 20) (y4 - y3) y2 y1 _ _ _ _ h hI (lv_sub hl [0, 1, 2, 5, 6, 7] rfl)
              refine lv_aload_n hx hb d_Mod_binders_39 rfl (lv_at hl 3 rfl) ?_
              refine mg_cI (As := []) (rest := []) h (k_Mod_peek (l := l) (g := g) (α := β39) N) S hlocks hno E hI kw_Mod_273 ⟨by omega, by omega⟩ (mv_Mod E hI) rfl hl.1 rfl (Nat.le_of_ble_eq_true rfl) d_Mod_binders_40 (fun v15 α13 H locs e14 h hI => ?_)
              refine lv_iconst (v := 1) hx hb d_Mod_binders_43 (by decide) ?_
              refine lv_icmp_ne (tgt := 121) hx hb d_Mod_binders_44 (by decide) (fun c16 => ?_) (fun c16 => ?_)
              · replace h := Eq.trans (if_neg c16).symm h
                exact J121 x4_39 x3_39 x2_39 x1_39 _ _ _ _ h hI (lv_sub hl [0, 1, 2, 3, 4] rfl)
              · replace h := Eq.trans (if_pos c16).symm h
                refine lv_aload_n hx hb d_Mod_binders_47 rfl (lv_at hl 3 rfl) ?_
                refine mg_cI (As := []) (rest := []) h (k_Mod_reserved (l := l) (g := g) (α := α13) N) S hlocks hno E hI kw_Mod_380 ⟨by omega, by omega⟩ (mv_Mod E hI) rfl hl.1 rfl (Nat.le_of_ble_eq_true rfl) d_Mod_binders_48 (fun v46 α44 H locs e45 h hI => ?_)
                refine lv_if_ne (tgt := 121) hx hb d_Mod_binders_51 (by decide) (fun c47 => ?_) (fun c47 => ?_)
                · replace h := Eq.trans (if_neg c47).symm h
                  exact J121 x4_39 x3_39 x2_39 x1_39 _ _ _ _ h hI (lv_sub hl [0, 1, 2, 3, 4] rfl)
                · replace h := Eq.trans (if_pos c47).symm h
                  refine lv_aload_n hx hb d_Mod_binders_54 rfl (lv_at hl 3 rfl) ?_
                  refine mf_scopes S E hI vt_1314 d_Mod_binders_55 ?_
                  refine lv_aload_n hx hb d_Mod_binders_58 rfl (lv_at hl 3 rfl) ?_
                  refine mf_pendingHeld S E hI vt_1320 d_Mod_binders_59 ?_
                  refine lv_iadd hx hb d_Mod_binders_62 ?_
                  refine lv_iload hx hb d_Mod_binders_63 (lv_at hl 0 rfl) ?_
                  refine lv_iadd hx hb d_Mod_binders_65 ?_
                  refine lv_iload_n hx hb d_Mod_binders_66 rfl (lv_at hl 1 rfl) ?_
                  refine lv_isub hx hb d_Mod_binders_67 ?_
                  refine lv_sipush (v := 3000) hx hb d_Mod_binders_68 (by decide) ?_
                  refine lv_icmp_lt (tgt := 80) hx hb d_Mod_binders_71 (by decide) (fun c48 => ?_) (fun c48 => ?_)
                  · replace h := Eq.trans (if_pos c48).symm h
                    refine lv_aload_n hx hb d_Mod_binders_80 rfl (lv_at hl 3 rfl) ?_
                    refine mf_pendingAt S E hI vt_1316 d_Mod_binders_81 ?_
                    refine lv_iload hx hb d_Mod_binders_84 (lv_at hl 0 rfl) ?_
                    refine lv_iload_n hx hb d_Mod_binders_86 rfl (lv_at hl 1 rfl) ?_
                    refine lv_isub hx hb d_Mod_binders_87 ?_
                    refine lv_aload_n hx hb d_Mod_binders_88 rfl (lv_at hl 3 rfl) ?_
                    refine mf_tokenAt S E hI vt_1275 d_Mod_binders_89 ?_
                    by_cases c49 : (x4_39 - x3_39) < 0 ∨ 3100 ≤ ((x4_39 - x3_39) : Int32).toNatClampNeg
                    · replace h := Eq.trans (if_pos c49).symm h
                      cases h
                    · replace h := Eq.trans (if_neg c49).symm h
                      refine ms_pendingAt S E hI c49 d_Mod_binders_92 (fun H locs hI => ?_)
                      refine lv_aload_n hx hb d_Mod_binders_93 rfl (lv_at hl 3 rfl) ?_
                      refine mf_pendingSize S E hI vt_1317 d_Mod_binders_94 ?_
                      refine lv_iload hx hb d_Mod_binders_97 (lv_at hl 0 rfl) ?_
                      refine lv_iload_n hx hb d_Mod_binders_99 rfl (lv_at hl 1 rfl) ?_
                      refine lv_isub hx hb d_Mod_binders_100 ?_
                      refine lv_aload_n hx hb d_Mod_binders_101 rfl (lv_at hl 3 rfl) ?_
                      refine mf_tokenEnd S E hI vt_1276 d_Mod_binders_102 ?_
                      refine lv_aload_n hx hb d_Mod_binders_105 rfl (lv_at hl 3 rfl) ?_
                      refine mf_tokenAt S E hI vt_1275 d_Mod_binders_106 ?_
                      refine lv_isub hx hb d_Mod_binders_109 ?_
                      by_cases c50 : (x4_39 - x3_39) < 0 ∨ 3100 ≤ ((x4_39 - x3_39) : Int32).toNatClampNeg
                      · replace h := Eq.trans (if_pos c50).symm h
                        cases h
                      · replace h := Eq.trans (if_neg c50).symm h
                        refine ms_pendingSize S E hI c50 d_Mod_binders_110 (fun H locs hI => ?_)
                        refine lv_iinc (v := (x4_39 + 1)) (lv' := [(4, .int (x4_39 + 1)), (3, .int x3_39), (2, .int x2_39), (0, .ref (mad g 0)), (1, .int x1_39)]) hx hb d_Mod_binders_111 hl (k := 0) rfl rfl (by decide) rfl (fun ls hl => ?_)
                        refine lv_aload_n hx hb d_Mod_binders_114 rfl (lv_at hl 3 rfl) ?_
                        refine mg_cV (As := []) (rest := []) h (k_Mod_take (l := l) (g := g) (α := (mSA (mSA α44 28 (upd (α44.2 28) ((x4_39 - x3_39) : Int32).toNatClampNeg (α44.1 7))) 29 (upd ((mSA α44 28 (upd (α44.2 28) ((x4_39 - x3_39) : Int32).toNatClampNeg (α44.1 7))).2 29) ((x4_39 - x3_39) : Int32).toNatClampNeg ((α44.1 8) - (α44.1 7))))) N) S hlocks hno E hI kw_Mod_281 ⟨by omega, by omega⟩ (mv_Mod E hI) rfl hl.1 rfl (Nat.le_of_ble_eq_true rfl) d_Mod_binders_115 (fun α51 H locs e52 h hI => ?_)
                        refine lv_goto (tgt := 39) hx hb d_Mod_binders_118 (by decide) ?_
                        exact ih39 (x4_39 + 1) x3_39 x2_39 x1_39 _ _ _ _ h hI (lv_sub hl [0, 1, 2, 3, 4] rfl)
                  · replace h := Eq.trans (if_neg c48).symm h
                    refine lv_bipush (v := 10) hx hb d_Mod_binders_74 (by decide) ?_
                    refine mg_fails S E hI kw_Mod_323 hl.1 ⟨by omega, by omega⟩ (Nat.le_of_ble_eq_true rfl) d_Mod_binders_76 (fun q H locs hN => ?_)
                    exact mg_athrow S hlocks hno E hN h d_Mod_binders_79
          exact L39 N (α1.1 19) (α1.1 19) x2_2 x1_2 _ _ _ _ h hI (lv_sub hl [0, 1, 2, 3, 4] rfl)
        · replace h := Eq.trans (if_neg c12).symm h
          refine lv_aload_n hx hb d_Mod_binders_34 rfl (lv_at hl 3 rfl) ?_
          obtain ⟨α53, e54, h⟩ := Option.bind_eq_some_iff.mp h
          refine mg_cant (As := []) (rest := []) ((k_Mod_cant (l := l) (g := g) (α := α9) N) _ e54) S hlocks hno E hI kw_Mod_277 ⟨by omega, by omega⟩ (mv_Mod E hI) rfl hl.1 rfl (Nat.le_of_ble_eq_true rfl) d_Mod_binders_35 (fun q H locs hN => ?_)
          exact mg_athrow S hlocks hno E hN h d_Mod_binders_38
  exact L2 N 0 a1 _ _ _ _ h hI (lv_sub hl [0, 1, 2] rfl)
theorem kw_Mod_409 : kWv "FamilyKernelModel" 409 "FamilyKernelModel" y_Mod_binders b_Mod_binders 9 (some .int) 1 := ⟨vt_1504, vt_1505, vt_1506, vt_1349, vt_1507, by decide, by decide, by decide +kernel⟩
def f_Mod_binding_51 (N : Nat)  (kk : (Int32 → mS → Option (kO × mS)) × (Int32 → mS → Option (kO × mS)) × (Int32 → mS → Option (kO × mS)) × (Int32 → Int32 → mS → Option (kO × mS)) × (Int32 → mS → Option (kO × mS)) × (Int32 → mS → Option (kO × mS))) : Nat → Int32 → Int32 → Int32 → Int32 → mS → Option (kO × mS)
  | 0, _, _, _, _, _ => none
  | n + 1, x6_51, x5_51, x3_51, x2_51, β51 => if x6_51 < 0 then (some (some (some x5_51), (mSi β51 19 x3_51))) else (if (x3_51 + x6_51) < 0 ∨ 3400 ≤ ((x3_51 + x6_51) : Int32).toNatClampNeg then none else (mBi (f_Mod_node N x2_51 (β51.2 27 ((x3_51 + x6_51) : Int32).toNatClampNeg) x5_51 0 β51) fun v19 α17 => (mBi (f_Mod_fits N v19 α17) fun v22 α20 => (f_Mod_binding_51 N kk n (x6_51 + (-1)) v22 x3_51 x2_51 α20))))
def f_Mod_binding_j31 (N : Nat)  (kk : (Int32 → mS → Option (kO × mS)) × (Int32 → mS → Option (kO × mS)) × (Int32 → mS → Option (kO × mS)) × (Int32 → Int32 → mS → Option (kO × mS)) × (Int32 → mS → Option (kO × mS)) × (Int32 → mS → Option (kO × mS))) (y4 : Int32) (y3 : Int32) (y1 : Int32) (y2 : Int32) (t0 : Int32) (γ : mS) : Option (kO × mS) := mBv (f_Mod_must N t0 γ) fun α7 => (mBi (f_Mod_nest N y1 α7) fun v11 α9 => (mBi (kk.2.2.2.2.2 v11 α9) fun v14 α12 => (f_Mod_binding_51 N kk N (y4 - 1) v14 y3 y2 α12)))
def f_Mod_binding (N : Nat) (kk : (Int32 → mS → Option (kO × mS)) × (Int32 → mS → Option (kO × mS)) × (Int32 → mS → Option (kO × mS)) × (Int32 → Int32 → mS → Option (kO × mS)) × (Int32 → mS → Option (kO × mS)) × (Int32 → mS → Option (kO × mS))) (a1 : Int32) (a2 : Int32) (α : mS) : Option (kO × mS) := mBv (f_Mod_take N α) fun α1 => (mBi (kk.2.2.1 a1 α1) fun v5 α3 => (if a2 = 7 then (f_Mod_binding_j31 N kk v5 (α1.1 19) a1 a2 301 α3) else (f_Mod_binding_j31 N kk v5 (α1.1 19) a1 a2 44 α3)))
set_option maxHeartbeats 4000000 in
set_option maxRecDepth 100000 in
theorem k_Mod_binding {l : Launch} {g : mG} {α : mS} (N : Nat) (kk : (Int32 → mS → Option (kO × mS)) × (Int32 → mS → Option (kO × mS)) × (Int32 → mS → Option (kO × mS)) × (Int32 → Int32 → mS → Option (kO × mS)) × (Int32 → mS → Option (kO × mS)) × (Int32 → mS → Option (kO × mS))) (d : Nat) (hk : hk_applied l g kk (45 + d) (1307 + 28 * d)) (a1 : Int32) (a2 : Int32)  : ∀ x, f_Mod_binding N kk a1 a2 α = some x → mC l g y_Mod_binding b_Mod_binding 7 (some .int) (45 + (d + 1)) (1307 + 28 * (d + 1)) [.ref (mad g 0), .int a1, .int a2] α (mQr x) := by
  intro x h
  unfold f_Mod_binding at h
  refine mc_ofW (by decide) (fun A p e s m args below meth c S hr hlocks hno hargs E hI => ?_)
  have hx := S.1
  have hb := S.2.1
  have hown := S.2.2.2.1
  have hT := S.2.2.2.2
  subst hargs
  have hl := lv_entry ([.ref (mad g 0), .int a1, .int a2]) (n := 7) (Nat.le_of_ble_eq_true rfl)
  rw [lg_entry_eq]
  generalize (lg_sl ([.ref (mad g 0), .int a1, .int a2]) ++ List.replicate (7 - (lg_sl ([.ref (mad g 0), .int a1, .int a2])).length) Slot.unset).toArray = ls at hl ⊢
  have hl : lv_has ls 7 [(0, .ref (mad g 0)), (1, .int a1), (2, .int a2)] := hl
  have J31 : ∀ (y4 : Int32) (y3 : Int32) (y1 : Int32) (y2 : Int32) (t0 : Int32) (γ : mS) (H : Heap) (locs : List Loc) (ls : Array Slot), f_Mod_binding_j31 N kk y4 y3 y1 y2 t0 γ = some x → mI g A s γ H locs → lv_has ls 7 [(4, .int y4), (3, .int y3), (0, .ref (mad g 0)), (1, .int y1), (2, .int y2)] → W p l e (mR (45 + (d + 1)) (1307 + 28 * (d + 1))) s m ([.ref (mad g 0), .int a1, .int a2]).toArray below meth c H locs 0 0 (vEQ below (mQ g A (mQr x)) ([.ref (mad g 0), .int a1, .int a2]).toArray s A) (F0 m 31 ls [.int t0, .ref (mad g 0)]) := by
    intro y4 y3 y1 y2 t0 γ H locs ls h hI hl
    unfold f_Mod_binding_j31 at h
    refine mg_cV (As := [.int t0]) (rest := []) h (k_Mod_must (l := l) (g := g) (α := γ) N t0) S hlocks hno E hI kw_Mod_405 ⟨by omega, by omega⟩ (mv_Mod E hI) rfl hl.1 rfl (Nat.le_of_ble_eq_true rfl) d_Mod_binding_31 (fun α7 H locs e8 h hI => ?_)
    refine lv_aload_n hx hb d_Mod_binding_34 rfl (lv_at hl 2 rfl) ?_
    refine lv_aload_n hx hb d_Mod_binding_35 rfl (lv_at hl 2 rfl) ?_
    refine lv_iload_n hx hb d_Mod_binding_36 rfl (lv_at hl 3 rfl) ?_
    refine mg_cI (As := [.int y1]) (rest := [.ref (mad g 0)]) h (k_Mod_nest (l := l) (g := g) (α := α7) N y1) S hlocks hno E hI kw_Mod_396 ⟨by omega, by omega⟩ (mv_Mod E hI) rfl hl.1 rfl (Nat.le_of_ble_eq_true rfl) d_Mod_binding_37 (fun v11 α9 H locs e10 h hI => ?_)
    refine mg_cI (As := [.int v11]) (rest := []) h (hk.2.2.2.2.2 v11 α9) S hlocks hno E hI kw_Mod_399 ⟨by omega, by omega⟩ (mv_Mod E hI) rfl hl.1 rfl (Nat.le_of_ble_eq_true rfl) d_Mod_binding_40 (fun v14 α12 H locs e13 h hI => ?_)
    refine lv_istore (lv' := [(5, .int v14), (4, .int y4), (3, .int y3), (0, .ref (mad g 0)), (1, .int y1), (2, .int y2)]) hx hb d_Mod_binding_43 hl (by decide) rfl (fun ls hl => ?_)
    refine lv_iload hx hb d_Mod_binding_45 (lv_at hl 1 rfl) ?_
    refine lv_iconst (v := 1) hx hb d_Mod_binding_47 (by decide) ?_
    refine lv_isub hx hb d_Mod_binding_48 ?_
    refine lv_istore (lv' := [(6, .int (y4 - 1)), (5, .int v14), (4, .int y4), (3, .int y3), (0, .ref (mad g 0)), (1, .int y1), (2, .int y2)]) hx hb d_Mod_binding_49 hl (by decide) rfl (fun ls hl => ?_)
    have L51 : ∀ (n51 : Nat) (x6_51 : Int32) (x5_51 : Int32) (x3_51 : Int32) (x2_51 : Int32) (β51 : mS) (H : Heap) (locs : List Loc) (ls : Array Slot), f_Mod_binding_51 N kk n51 x6_51 x5_51 x3_51 x2_51 β51 = some x → mI g A s β51 H locs → lv_has ls 7 [(6, .int x6_51), (5, .int x5_51), (3, .int x3_51), (0, .ref (mad g 0)), (2, .int x2_51)] → W p l e (mR (45 + (d + 1)) (1307 + 28 * (d + 1))) s m ([.ref (mad g 0), .int a1, .int a2]).toArray below meth c H locs 0 0 (vEQ below (mQ g A (mQr x)) ([.ref (mad g 0), .int a1, .int a2]).toArray s A) (F0 m 51 ls []) := by
      intro n51
      induction n51 with
      | zero => intro x6_51 x5_51 x3_51 x2_51 β51 H locs ls h hI hl; rw [f_Mod_binding_51] at h; cases h
      | succ n51 ih51 =>
        intro x6_51 x5_51 x3_51 x2_51 β51 H locs ls h hI hl
        rw [f_Mod_binding_51] at h
        refine lv_iload hx hb d_Mod_binding_51 (lv_at hl 0 rfl) ?_
        refine lv_if_lt (tgt := 85) hx hb d_Mod_binding_53 (by decide) (fun c15 => ?_) (fun c15 => ?_)
        · replace h := Eq.trans (if_pos c15).symm h
          refine lv_aload_n hx hb d_Mod_binding_85 rfl (lv_at hl 3 rfl) ?_
          refine lv_iload_n hx hb d_Mod_binding_86 rfl (lv_at hl 2 rfl) ?_
          refine mp_scopes S E hI vt_1314 d_Mod_binding_87 (fun H locs hI => ?_)
          refine lv_iload hx hb d_Mod_binding_90 (lv_at hl 1 rfl) ?_
          exact mc_iret (w := x5_51) hx hb hr rfl hlocks E hI h d_Mod_binding_92
        · replace h := Eq.trans (if_neg c15).symm h
          refine lv_aload_n hx hb d_Mod_binding_56 rfl (lv_at hl 3 rfl) ?_
          refine lv_aload_n hx hb d_Mod_binding_57 rfl (lv_at hl 3 rfl) ?_
          refine lv_iload_n hx hb d_Mod_binding_58 rfl (lv_at hl 4 rfl) ?_
          refine lv_aload_n hx hb d_Mod_binding_59 rfl (lv_at hl 3 rfl) ?_
          refine mf_typeStack S E hI vt_1315 d_Mod_binding_60 ?_
          refine lv_iload_n hx hb d_Mod_binding_63 rfl (lv_at hl 2 rfl) ?_
          refine lv_iload hx hb d_Mod_binding_64 (lv_at hl 0 rfl) ?_
          refine lv_iadd hx hb d_Mod_binding_66 ?_
          by_cases c16 : (x3_51 + x6_51) < 0 ∨ 3400 ≤ ((x3_51 + x6_51) : Int32).toNatClampNeg
          · replace h := Eq.trans (if_pos c16).symm h
            cases h
          · replace h := Eq.trans (if_neg c16).symm h
            refine ml_typeStack S E hI c16 d_Mod_binding_67 ?_
            refine lv_iload hx hb d_Mod_binding_68 (lv_at hl 1 rfl) ?_
            refine lv_iconst (v := 0) hx hb d_Mod_binding_70 (by decide) ?_
            refine mg_cI (As := [.int x2_51, .int (β51.2 27 ((x3_51 + x6_51) : Int32).toNatClampNeg), .int x5_51, .int 0]) (rest := [.ref (mad g 0)]) h (k_Mod_node (l := l) (g := g) (α := β51) N x2_51 (β51.2 27 ((x3_51 + x6_51) : Int32).toNatClampNeg) x5_51 0) S hlocks hno E hI kw_Mod_336 ⟨by omega, by omega⟩ (mv_Mod E hI) rfl hl.1 rfl (Nat.le_of_ble_eq_true rfl) d_Mod_binding_71 (fun v19 α17 H locs e18 h hI => ?_)
            refine mg_cI (As := [.int v19]) (rest := []) h (k_Mod_fits (l := l) (g := g) (α := α17) N v19) S hlocks hno E hI kw_Mod_402 ⟨by omega, by omega⟩ (mv_Mod E hI) rfl hl.1 rfl (Nat.le_of_ble_eq_true rfl) d_Mod_binding_74 (fun v22 α20 H locs e21 h hI => ?_)
            refine lv_istore (lv' := [(5, .int v22), (6, .int x6_51), (3, .int x3_51), (0, .ref (mad g 0)), (2, .int x2_51)]) hx hb d_Mod_binding_77 hl (by decide) rfl (fun ls hl => ?_)
            refine lv_iinc (v := (x6_51 + (-1))) (lv' := [(6, .int (x6_51 + (-1))), (5, .int v22), (3, .int x3_51), (0, .ref (mad g 0)), (2, .int x2_51)]) hx hb d_Mod_binding_79 hl (k := 1) rfl rfl (by decide) rfl (fun ls hl => ?_)
            refine lv_goto (tgt := 51) hx hb d_Mod_binding_82 (by decide) ?_
            exact ih51 (x6_51 + (-1)) v22 x3_51 x2_51 _ _ _ _ h hI (lv_sub hl [0, 1, 2, 3, 4] rfl)
    exact L51 N (y4 - 1) v14 y3 y2 _ _ _ _ h hI (lv_sub hl [0, 1, 3, 4, 6] rfl)
  refine lv_aload_n hx hb d_Mod_binding_0 rfl (lv_at hl 0 rfl) ?_
  refine mg_cV (As := []) (rest := []) h (k_Mod_take (l := l) (g := g) (α := α) N) S hlocks hno E hI kw_Mod_281 ⟨by omega, by omega⟩ (mv_Mod E hI) rfl hl.1 rfl (Nat.le_of_ble_eq_true rfl) d_Mod_binding_1 (fun α1 H locs e2 h hI => ?_)
  refine lv_aload_n hx hb d_Mod_binding_4 rfl (lv_at hl 0 rfl) ?_
  refine mf_scopes S E hI vt_1314 d_Mod_binding_5 ?_
  refine lv_istore_n (lv' := [(3, .int (α1.1 19)), (0, .ref (mad g 0)), (1, .int a1), (2, .int a2)]) hx hb d_Mod_binding_8 rfl hl (by decide) rfl (fun ls hl => ?_)
  refine lv_aload_n hx hb d_Mod_binding_9 rfl (lv_at hl 1 rfl) ?_
  refine lv_iload_n hx hb d_Mod_binding_10 rfl (lv_at hl 2 rfl) ?_
  refine mg_cI (As := [.int a1]) (rest := []) h (hk.2.2.1 a1 α1) S hlocks hno E hI kw_Mod_409 ⟨by omega, by omega⟩ (mv_Mod E hI) rfl hl.1 rfl (Nat.le_of_ble_eq_true rfl) d_Mod_binding_11 (fun v5 α3 H locs e4 h hI => ?_)
  refine lv_istore (lv' := [(4, .int v5), (3, .int (α1.1 19)), (0, .ref (mad g 0)), (1, .int a1), (2, .int a2)]) hx hb d_Mod_binding_14 hl (by decide) rfl (fun ls hl => ?_)
  refine lv_aload_n hx hb d_Mod_binding_16 rfl (lv_at hl 2 rfl) ?_
  refine lv_iload_n hx hb d_Mod_binding_17 rfl (lv_at hl 4 rfl) ?_
  refine lv_bipush (v := 7) hx hb d_Mod_binding_18 (by decide) ?_
  refine lv_icmp_ne (tgt := 29) hx hb d_Mod_binding_20 (by decide) (fun c6 => ?_) (fun c6 => ?_)
  · replace h := Eq.trans (if_neg c6).symm h
    refine lv_bipush (v := 44) hx hb d_Mod_binding_29 (by decide) ?_
    exact J31 v5 (α1.1 19) a1 a2 44 _ _ _ _ h hI (lv_sub hl [0, 1, 2, 3, 4] rfl)
  · replace h := Eq.trans (if_pos c6).symm h
    refine lv_sipush (v := 301) hx hb d_Mod_binding_23 (by decide) ?_
    refine lv_goto (tgt := 31) hx hb d_Mod_binding_26 (by decide) ?_
    exact J31 v5 (α1.1 19) a1 a2 301 _ _ _ _ h hI (lv_sub hl [0, 1, 2, 3, 4] rfl)
def f_Mod_letting (N : Nat) (kk : (Int32 → mS → Option (kO × mS)) × (Int32 → mS → Option (kO × mS)) × (Int32 → mS → Option (kO × mS)) × (Int32 → Int32 → mS → Option (kO × mS)) × (Int32 → mS → Option (kO × mS)) × (Int32 → mS → Option (kO × mS))) (a1 : Int32) (α : mS) : Option (kO × mS) := mBv (f_Mod_take N α) fun α1 => (mBi (f_Mod_peek N α1) fun v5 α3 => (if v5 = 1 then (mBi (f_Mod_reserved N α3) fun v11 α9 => (if v11 = 0 then (mBv (f_Mod_take N α9) fun α13 => (mBv (f_Mod_must N 58 α13) fun α15 => (mBi (f_Mod_nest N a1 α15) fun v19 α17 => (mBi (kk.2.2.2.2.2 v19 α17) fun v22 α20 => (mBv (f_Mod_must N 300 α20) fun α23 => (mBi (f_Mod_nest N a1 α23) fun v27 α25 => (mBi (kk.2.2.2.2.2 v27 α25) fun v30 α28 => (mBv (f_Mod_mustBe N 36 α28) fun α31 => (mBv (f_Mod_bindName N (α9.1 7) ((α9.1 8) - (α9.1 7)) α31) fun α33 => (mBi (f_Mod_nest N a1 α33) fun v37 α35 => (mBi (kk.2.2.2.2.2 v37 α35) fun v40 α38 => (mBi (f_Mod_node N 9 v22 v30 v40 (mSi α38 19 ((α38.1 19) - 1))) fun v43 α41 => (mBi (f_Mod_fits N v43 α41) fun v46 α44 => (some (some (some v46), α44))))))))))))))) else (((f_Mod_cant N α9)).bind fun α47 => (some (none, (mTh α47 (α47.1 100) (α47.1 101))))))) else (((f_Mod_cant N α3)).bind fun α7 => (some (none, (mTh α7 (α7.1 100) (α7.1 101)))))))
set_option maxHeartbeats 4000000 in
set_option maxRecDepth 100000 in
theorem k_Mod_letting {l : Launch} {g : mG} {α : mS} (N : Nat) (kk : (Int32 → mS → Option (kO × mS)) × (Int32 → mS → Option (kO × mS)) × (Int32 → mS → Option (kO × mS)) × (Int32 → Int32 → mS → Option (kO × mS)) × (Int32 → mS → Option (kO × mS)) × (Int32 → mS → Option (kO × mS))) (d : Nat) (hk : hk_applied l g kk (45 + d) (1307 + 28 * d)) (a1 : Int32)  : ∀ x, f_Mod_letting N kk a1 α = some x → mC l g y_Mod_letting b_Mod_letting 7 (some .int) (45 + (d + 1)) (1307 + 28 * (d + 1)) [.ref (mad g 0), .int a1] α (mQr x) := by
  intro x h
  unfold f_Mod_letting at h
  refine mc_ofW (by decide) (fun A p e s m args below meth c S hr hlocks hno hargs E hI => ?_)
  have hx := S.1
  have hb := S.2.1
  have hown := S.2.2.2.1
  have hT := S.2.2.2.2
  subst hargs
  have hl := lv_entry ([.ref (mad g 0), .int a1]) (n := 7) (Nat.le_of_ble_eq_true rfl)
  rw [lg_entry_eq]
  generalize (lg_sl ([.ref (mad g 0), .int a1]) ++ List.replicate (7 - (lg_sl ([.ref (mad g 0), .int a1])).length) Slot.unset).toArray = ls at hl ⊢
  have hl : lv_has ls 7 [(0, .ref (mad g 0)), (1, .int a1)] := hl
  refine lv_aload_n hx hb d_Mod_letting_0 rfl (lv_at hl 0 rfl) ?_
  refine mg_cV (As := []) (rest := []) h (k_Mod_take (l := l) (g := g) (α := α) N) S hlocks hno E hI kw_Mod_281 ⟨by omega, by omega⟩ (mv_Mod E hI) rfl hl.1 rfl (Nat.le_of_ble_eq_true rfl) d_Mod_letting_1 (fun α1 H locs e2 h hI => ?_)
  refine lv_aload_n hx hb d_Mod_letting_4 rfl (lv_at hl 0 rfl) ?_
  refine mg_cI (As := []) (rest := []) h (k_Mod_peek (l := l) (g := g) (α := α1) N) S hlocks hno E hI kw_Mod_273 ⟨by omega, by omega⟩ (mv_Mod E hI) rfl hl.1 rfl (Nat.le_of_ble_eq_true rfl) d_Mod_letting_5 (fun v5 α3 H locs e4 h hI => ?_)
  refine lv_iconst (v := 1) hx hb d_Mod_letting_8 (by decide) ?_
  refine lv_icmp_ne (tgt := 19) hx hb d_Mod_letting_9 (by decide) (fun c6 => ?_) (fun c6 => ?_)
  · replace h := Eq.trans (if_neg c6).symm h
    refine lv_aload_n hx hb d_Mod_letting_19 rfl (lv_at hl 0 rfl) ?_
    obtain ⟨α7, e8, h⟩ := Option.bind_eq_some_iff.mp h
    refine mg_cant (As := []) (rest := []) ((k_Mod_cant (l := l) (g := g) (α := α3) N) _ e8) S hlocks hno E hI kw_Mod_277 ⟨by omega, by omega⟩ (mv_Mod E hI) rfl hl.1 rfl (Nat.le_of_ble_eq_true rfl) d_Mod_letting_20 (fun q H locs hN => ?_)
    exact mg_athrow S hlocks hno E hN h d_Mod_letting_23
  · replace h := Eq.trans (if_pos c6).symm h
    refine lv_aload_n hx hb d_Mod_letting_12 rfl (lv_at hl 0 rfl) ?_
    refine mg_cI (As := []) (rest := []) h (k_Mod_reserved (l := l) (g := g) (α := α3) N) S hlocks hno E hI kw_Mod_380 ⟨by omega, by omega⟩ (mv_Mod E hI) rfl hl.1 rfl (Nat.le_of_ble_eq_true rfl) d_Mod_letting_13 (fun v11 α9 H locs e10 h hI => ?_)
    refine lv_if_eq (tgt := 24) hx hb d_Mod_letting_16 (by decide) (fun c12 => ?_) (fun c12 => ?_)
    · replace h := Eq.trans (if_pos c12).symm h
      refine lv_aload_n hx hb d_Mod_letting_24 rfl (lv_at hl 0 rfl) ?_
      refine mf_tokenAt S E hI vt_1275 d_Mod_letting_25 ?_
      refine lv_istore_n (lv' := [(2, .int (α9.1 7)), (0, .ref (mad g 0)), (1, .int a1)]) hx hb d_Mod_letting_28 rfl hl (by decide) rfl (fun ls hl => ?_)
      refine lv_aload_n hx hb d_Mod_letting_29 rfl (lv_at hl 1 rfl) ?_
      refine mf_tokenEnd S E hI vt_1276 d_Mod_letting_30 ?_
      refine lv_aload_n hx hb d_Mod_letting_33 rfl (lv_at hl 1 rfl) ?_
      refine mf_tokenAt S E hI vt_1275 d_Mod_letting_34 ?_
      refine lv_isub hx hb d_Mod_letting_37 ?_
      refine lv_istore_n (lv' := [(3, .int ((α9.1 8) - (α9.1 7))), (2, .int (α9.1 7)), (0, .ref (mad g 0)), (1, .int a1)]) hx hb d_Mod_letting_38 rfl hl (by decide) rfl (fun ls hl => ?_)
      refine lv_aload_n hx hb d_Mod_letting_39 rfl (lv_at hl 2 rfl) ?_
      refine mg_cV (As := []) (rest := []) h (k_Mod_take (l := l) (g := g) (α := α9) N) S hlocks hno E hI kw_Mod_281 ⟨by omega, by omega⟩ (mv_Mod E hI) rfl hl.1 rfl (Nat.le_of_ble_eq_true rfl) d_Mod_letting_40 (fun α13 H locs e14 h hI => ?_)
      refine lv_aload_n hx hb d_Mod_letting_43 rfl (lv_at hl 2 rfl) ?_
      refine lv_bipush (v := 58) hx hb d_Mod_letting_44 (by decide) ?_
      refine mg_cV (As := [.int 58]) (rest := []) h (k_Mod_must (l := l) (g := g) (α := α13) N 58) S hlocks hno E hI kw_Mod_405 ⟨by omega, by omega⟩ (mv_Mod E hI) rfl hl.1 rfl (Nat.le_of_ble_eq_true rfl) d_Mod_letting_46 (fun α15 H locs e16 h hI => ?_)
      refine lv_aload_n hx hb d_Mod_letting_49 rfl (lv_at hl 2 rfl) ?_
      refine lv_aload_n hx hb d_Mod_letting_50 rfl (lv_at hl 2 rfl) ?_
      refine lv_iload_n hx hb d_Mod_letting_51 rfl (lv_at hl 3 rfl) ?_
      refine mg_cI (As := [.int a1]) (rest := [.ref (mad g 0)]) h (k_Mod_nest (l := l) (g := g) (α := α15) N a1) S hlocks hno E hI kw_Mod_396 ⟨by omega, by omega⟩ (mv_Mod E hI) rfl hl.1 rfl (Nat.le_of_ble_eq_true rfl) d_Mod_letting_52 (fun v19 α17 H locs e18 h hI => ?_)
      refine mg_cI (As := [.int v19]) (rest := []) h (hk.2.2.2.2.2 v19 α17) S hlocks hno E hI kw_Mod_399 ⟨by omega, by omega⟩ (mv_Mod E hI) rfl hl.1 rfl (Nat.le_of_ble_eq_true rfl) d_Mod_letting_55 (fun v22 α20 H locs e21 h hI => ?_)
      refine lv_istore (lv' := [(4, .int v22), (3, .int ((α9.1 8) - (α9.1 7))), (2, .int (α9.1 7)), (0, .ref (mad g 0)), (1, .int a1)]) hx hb d_Mod_letting_58 hl (by decide) rfl (fun ls hl => ?_)
      refine lv_aload_n hx hb d_Mod_letting_60 rfl (lv_at hl 3 rfl) ?_
      refine lv_sipush (v := 300) hx hb d_Mod_letting_61 (by decide) ?_
      refine mg_cV (As := [.int 300]) (rest := []) h (k_Mod_must (l := l) (g := g) (α := α20) N 300) S hlocks hno E hI kw_Mod_405 ⟨by omega, by omega⟩ (mv_Mod E hI) rfl hl.1 rfl (Nat.le_of_ble_eq_true rfl) d_Mod_letting_64 (fun α23 H locs e24 h hI => ?_)
      refine lv_aload_n hx hb d_Mod_letting_67 rfl (lv_at hl 3 rfl) ?_
      refine lv_aload_n hx hb d_Mod_letting_68 rfl (lv_at hl 3 rfl) ?_
      refine lv_iload_n hx hb d_Mod_letting_69 rfl (lv_at hl 4 rfl) ?_
      refine mg_cI (As := [.int a1]) (rest := [.ref (mad g 0)]) h (k_Mod_nest (l := l) (g := g) (α := α23) N a1) S hlocks hno E hI kw_Mod_396 ⟨by omega, by omega⟩ (mv_Mod E hI) rfl hl.1 rfl (Nat.le_of_ble_eq_true rfl) d_Mod_letting_70 (fun v27 α25 H locs e26 h hI => ?_)
      refine mg_cI (As := [.int v27]) (rest := []) h (hk.2.2.2.2.2 v27 α25) S hlocks hno E hI kw_Mod_399 ⟨by omega, by omega⟩ (mv_Mod E hI) rfl hl.1 rfl (Nat.le_of_ble_eq_true rfl) d_Mod_letting_73 (fun v30 α28 H locs e29 h hI => ?_)
      refine lv_istore (lv' := [(5, .int v30), (4, .int v22), (3, .int ((α9.1 8) - (α9.1 7))), (2, .int (α9.1 7)), (0, .ref (mad g 0)), (1, .int a1)]) hx hb d_Mod_letting_76 hl (by decide) rfl (fun ls hl => ?_)
      refine lv_aload_n hx hb d_Mod_letting_78 rfl (lv_at hl 4 rfl) ?_
      refine mg_ldcw hx hb hown (E.2.2.2.2.1 36 (by decide)) d_Mod_letting_79 ?_
      refine mg_cV (As := [.ref (kst g.1 36)]) (rest := []) h (k_Mod_mustBe (l := l) (g := g) (α := α28) N 36 (by decide)) S hlocks hno E hI kw_Mod_412 ⟨by omega, by omega⟩ (mv_Mod E hI) rfl hl.1 rfl (Nat.le_of_ble_eq_true rfl) d_Mod_letting_82 (fun α31 H locs e32 h hI => ?_)
      refine lv_aload_n hx hb d_Mod_letting_85 rfl (lv_at hl 4 rfl) ?_
      refine lv_iload_n hx hb d_Mod_letting_86 rfl (lv_at hl 3 rfl) ?_
      refine lv_iload_n hx hb d_Mod_letting_87 rfl (lv_at hl 2 rfl) ?_
      refine mg_cV (As := [.int (α9.1 7), .int ((α9.1 8) - (α9.1 7))]) (rest := []) h (k_Mod_bindName (l := l) (g := g) (α := α31) N (α9.1 7) ((α9.1 8) - (α9.1 7))) S hlocks hno E hI kw_Mod_393 ⟨by omega, by omega⟩ (mv_Mod E hI) rfl hl.1 rfl (Nat.le_of_ble_eq_true rfl) d_Mod_letting_88 (fun α33 H locs e34 h hI => ?_)
      refine lv_aload_n hx hb d_Mod_letting_91 rfl (lv_at hl 4 rfl) ?_
      refine lv_aload_n hx hb d_Mod_letting_92 rfl (lv_at hl 4 rfl) ?_
      refine lv_iload_n hx hb d_Mod_letting_93 rfl (lv_at hl 5 rfl) ?_
      refine mg_cI (As := [.int a1]) (rest := [.ref (mad g 0)]) h (k_Mod_nest (l := l) (g := g) (α := α33) N a1) S hlocks hno E hI kw_Mod_396 ⟨by omega, by omega⟩ (mv_Mod E hI) rfl hl.1 rfl (Nat.le_of_ble_eq_true rfl) d_Mod_letting_94 (fun v37 α35 H locs e36 h hI => ?_)
      refine mg_cI (As := [.int v37]) (rest := []) h (hk.2.2.2.2.2 v37 α35) S hlocks hno E hI kw_Mod_399 ⟨by omega, by omega⟩ (mv_Mod E hI) rfl hl.1 rfl (Nat.le_of_ble_eq_true rfl) d_Mod_letting_97 (fun v40 α38 H locs e39 h hI => ?_)
      refine lv_istore (lv' := [(6, .int v40), (5, .int v30), (4, .int v22), (3, .int ((α9.1 8) - (α9.1 7))), (2, .int (α9.1 7)), (0, .ref (mad g 0)), (1, .int a1)]) hx hb d_Mod_letting_100 hl (by decide) rfl (fun ls hl => ?_)
      refine lv_aload_n hx hb d_Mod_letting_102 rfl (lv_at hl 5 rfl) ?_
      refine lv_dup hx hb d_Mod_letting_103 rfl ?_
      refine mf_scopes S E hI vt_1314 d_Mod_letting_104 ?_
      refine lv_iconst (v := 1) hx hb d_Mod_letting_107 (by decide) ?_
      refine lv_isub hx hb d_Mod_letting_108 ?_
      refine mp_scopes S E hI vt_1314 d_Mod_letting_109 (fun H locs hI => ?_)
      refine lv_aload_n hx hb d_Mod_letting_112 rfl (lv_at hl 5 rfl) ?_
      refine lv_aload_n hx hb d_Mod_letting_113 rfl (lv_at hl 5 rfl) ?_
      refine lv_bipush (v := 9) hx hb d_Mod_letting_114 (by decide) ?_
      refine lv_iload hx hb d_Mod_letting_116 (lv_at hl 2 rfl) ?_
      refine lv_iload hx hb d_Mod_letting_118 (lv_at hl 1 rfl) ?_
      refine lv_iload hx hb d_Mod_letting_120 (lv_at hl 0 rfl) ?_
      refine mg_cI (As := [.int 9, .int v22, .int v30, .int v40]) (rest := [.ref (mad g 0)]) h (k_Mod_node (l := l) (g := g) (α := (mSi α38 19 ((α38.1 19) - 1))) N 9 v22 v30 v40) S hlocks hno E hI kw_Mod_336 ⟨by omega, by omega⟩ (mv_Mod E hI) rfl hl.1 rfl (Nat.le_of_ble_eq_true rfl) d_Mod_letting_122 (fun v43 α41 H locs e42 h hI => ?_)
      refine mg_cI (As := [.int v43]) (rest := []) h (k_Mod_fits (l := l) (g := g) (α := α41) N v43) S hlocks hno E hI kw_Mod_402 ⟨by omega, by omega⟩ (mv_Mod E hI) rfl hl.1 rfl (Nat.le_of_ble_eq_true rfl) d_Mod_letting_125 (fun v46 α44 H locs e45 h hI => ?_)
      exact mc_iret (w := v46) hx hb hr rfl hlocks E hI h d_Mod_letting_128
    · replace h := Eq.trans (if_neg c12).symm h
      refine lv_aload_n hx hb d_Mod_letting_19 rfl (lv_at hl 0 rfl) ?_
      obtain ⟨α47, e48, h⟩ := Option.bind_eq_some_iff.mp h
      refine mg_cant (As := []) (rest := []) ((k_Mod_cant (l := l) (g := g) (α := α9) N) _ e48) S hlocks hno E hI kw_Mod_277 ⟨by omega, by omega⟩ (mv_Mod E hI) rfl hl.1 rfl (Nat.le_of_ble_eq_true rfl) d_Mod_letting_20 (fun q H locs hN => ?_)
      exact mg_athrow S hlocks hno E hN h d_Mod_letting_23
theorem kw_Mod_384 : kWv "FamilyKernelModel" 384 "FamilyKernelModel" y_Mod_binding b_Mod_binding 7 (some .int) 2 := ⟨vt_1476, vt_1477, vt_1478, vt_1349, vt_1479, by decide, by decide, by decide +kernel⟩
theorem kw_Mod_390 : kWv "FamilyKernelModel" 390 "FamilyKernelModel" y_Mod_applied b_Mod_applied 3 (some .int) 1 := ⟨vt_1484, vt_1485, vt_1486, vt_1349, vt_1487, by decide, by decide, by decide +kernel⟩
theorem kw_Mod_387 : kWv "FamilyKernelModel" 387 "FamilyKernelModel" y_Mod_letting b_Mod_letting 7 (some .int) 1 := ⟨vt_1480, vt_1481, vt_1482, vt_1349, vt_1483, by decide, by decide, by decide +kernel⟩
def f_Mod_term_j20 (N : Nat)  (kk : (Int32 → mS → Option (kO × mS)) × (Int32 → mS → Option (kO × mS)) × (Int32 → mS → Option (kO × mS)) × (Int32 → Int32 → mS → Option (kO × mS)) × (Int32 → mS → Option (kO × mS)) × (Int32 → mS → Option (kO × mS))) (y1 : Int32) (γ : mS) : Option (kO × mS) := mBi (f_Mod_is N 33 γ) fun v7 α5 => (if v7 = 0 then (mBi (kk.2.2.2.1 y1 6 α5) fun v11 α9 => (some (some (some v11), α9))) else (mBi (kk.2.2.2.1 y1 7 α5) fun v14 α12 => (some (some (some v14), α12))))
def f_Mod_term (N : Nat) (kk : (Int32 → mS → Option (kO × mS)) × (Int32 → mS → Option (kO × mS)) × (Int32 → mS → Option (kO × mS)) × (Int32 → Int32 → mS → Option (kO × mS)) × (Int32 → mS → Option (kO × mS)) × (Int32 → mS → Option (kO × mS))) (a1 : Int32) (α : mS) : Option (kO × mS) := mBi (f_Mod_is N 33 α) fun v3 α1 => (if v3 = 0 then (mBi (f_Mod_is N 34 α1) fun v17 α15 => (if v17 = 0 then (mBi (f_Mod_is N 35 α15) fun v21 α19 => (if v21 = 0 then (mBi (kk.1 a1 α19) fun v25 α23 => (mBi (f_Mod_peek N α23) fun v28 α26 => (if v28 = 302 then (mBv (f_Mod_take N α26) fun α30 => (mBv (f_Mod_bindName N 0 0 α30) fun α32 => (mBi (f_Mod_nest N a1 α32) fun v36 α34 => (mBi (kk.2.2.2.2.2 v36 α34) fun v39 α37 => (mBi (f_Mod_node N 6 v25 v39 0 (mSi α37 19 ((α37.1 19) - 1))) fun v42 α40 => (mBi (f_Mod_fits N v42 α40) fun v45 α43 => (some (some (some v45), α43)))))))) else (some (some (some v25), α26))))) else (mBi (kk.2.2.2.2.1 a1 α19) fun v48 α46 => (some (some (some v48), α46))))) else (f_Mod_term_j20 N kk a1 α15))) else (f_Mod_term_j20 N kk a1 α1))
set_option maxHeartbeats 4000000 in
set_option maxRecDepth 100000 in
theorem k_Mod_term {l : Launch} {g : mG} {α : mS} (N : Nat) (kk : (Int32 → mS → Option (kO × mS)) × (Int32 → mS → Option (kO × mS)) × (Int32 → mS → Option (kO × mS)) × (Int32 → Int32 → mS → Option (kO × mS)) × (Int32 → mS → Option (kO × mS)) × (Int32 → mS → Option (kO × mS))) (d : Nat) (hk : hk_applied l g kk (45 + d) (1307 + 28 * d)) (a1 : Int32)  : ∀ x, f_Mod_term N kk a1 α = some x → mC l g y_Mod_term b_Mod_term 4 (some .int) (45 + (d + 1)) (1307 + 28 * (d + 1)) [.ref (mad g 0), .int a1] α (mQr x) := by
  intro x h
  unfold f_Mod_term at h
  refine mc_ofW (by decide) (fun A p e s m args below meth c S hr hlocks hno hargs E hI => ?_)
  have hx := S.1
  have hb := S.2.1
  have hown := S.2.2.2.1
  have hT := S.2.2.2.2
  subst hargs
  have hl := lv_entry ([.ref (mad g 0), .int a1]) (n := 4) (Nat.le_of_ble_eq_true rfl)
  rw [lg_entry_eq]
  generalize (lg_sl ([.ref (mad g 0), .int a1]) ++ List.replicate (4 - (lg_sl ([.ref (mad g 0), .int a1])).length) Slot.unset).toArray = ls at hl ⊢
  have hl : lv_has ls 4 [(0, .ref (mad g 0)), (1, .int a1)] := hl
  have J20 : ∀ (y1 : Int32) (γ : mS) (H : Heap) (locs : List Loc) (ls : Array Slot), f_Mod_term_j20 N kk y1 γ = some x → mI g A s γ H locs → lv_has ls 4 [(0, .ref (mad g 0)), (1, .int y1)] → W p l e (mR (45 + (d + 1)) (1307 + 28 * (d + 1))) s m ([.ref (mad g 0), .int a1]).toArray below meth c H locs 0 0 (vEQ below (mQ g A (mQr x)) ([.ref (mad g 0), .int a1]).toArray s A) (F0 m 20 ls []) := by
    intro y1 γ H locs ls h hI hl
    unfold f_Mod_term_j20 at h
    refine lv_aload_n hx hb d_Mod_term_20 rfl (lv_at hl 0 rfl) ?_
    refine lv_iload_n hx hb d_Mod_term_21 rfl (lv_at hl 1 rfl) ?_
    refine lv_aload_n hx hb d_Mod_term_22 rfl (lv_at hl 0 rfl) ?_
    refine mg_ldcw hx hb hown (E.2.2.2.2.1 33 (by decide)) d_Mod_term_23 ?_
    refine mg_cI (As := [.ref (kst g.1 33)]) (rest := [.int y1, .ref (mad g 0)]) h (k_Mod_is (l := l) (g := g) (α := γ) N 33 (by decide)) S hlocks hno E hI kw_Mod_293 ⟨by omega, by omega⟩ (mv_Mod E hI) rfl hl.1 rfl (Nat.le_of_ble_eq_true rfl) d_Mod_term_26 (fun v7 α5 H locs e6 h hI => ?_)
    refine lv_if_eq (tgt := 37) hx hb d_Mod_term_29 (by decide) (fun c8 => ?_) (fun c8 => ?_)
    · replace h := Eq.trans (if_pos c8).symm h
      refine lv_bipush (v := 6) hx hb d_Mod_term_37 (by decide) ?_
      refine mg_cI (As := [.int y1, .int 6]) (rest := []) h (hk.2.2.2.1 y1 6 α5) S hlocks hno E hI kw_Mod_384 ⟨by omega, by omega⟩ (mv_Mod E hI) rfl hl.1 rfl (Nat.le_of_ble_eq_true rfl) d_Mod_term_39 (fun v11 α9 H locs e10 h hI => ?_)
      exact mc_iret (w := v11) hx hb hr rfl hlocks E hI h d_Mod_term_42
    · replace h := Eq.trans (if_neg c8).symm h
      refine lv_bipush (v := 7) hx hb d_Mod_term_32 (by decide) ?_
      refine lv_goto (tgt := 39) hx hb d_Mod_term_34 (by decide) ?_
      refine mg_cI (As := [.int y1, .int 7]) (rest := []) h (hk.2.2.2.1 y1 7 α5) S hlocks hno E hI kw_Mod_384 ⟨by omega, by omega⟩ (mv_Mod E hI) rfl hl.1 rfl (Nat.le_of_ble_eq_true rfl) d_Mod_term_39 (fun v14 α12 H locs e13 h hI => ?_)
      exact mc_iret (w := v14) hx hb hr rfl hlocks E hI h d_Mod_term_42
  refine lv_aload_n hx hb d_Mod_term_0 rfl (lv_at hl 0 rfl) ?_
  refine mg_ldcw hx hb hown (E.2.2.2.2.1 33 (by decide)) d_Mod_term_1 ?_
  refine mg_cI (As := [.ref (kst g.1 33)]) (rest := []) h (k_Mod_is (l := l) (g := g) (α := α) N 33 (by decide)) S hlocks hno E hI kw_Mod_293 ⟨by omega, by omega⟩ (mv_Mod E hI) rfl hl.1 rfl (Nat.le_of_ble_eq_true rfl) d_Mod_term_4 (fun v3 α1 H locs e2 h hI => ?_)
  refine lv_if_ne (tgt := 20) hx hb d_Mod_term_7 (by decide) (fun c4 => ?_) (fun c4 => ?_)
  · replace h := Eq.trans (if_neg c4).symm h
    exact J20 a1 _ _ _ _ h hI (lv_sub hl [0, 1] rfl)
  · replace h := Eq.trans (if_pos c4).symm h
    refine lv_aload_n hx hb d_Mod_term_10 rfl (lv_at hl 0 rfl) ?_
    refine mg_ldcw hx hb hown (E.2.2.2.2.1 34 (by decide)) d_Mod_term_11 ?_
    refine mg_cI (As := [.ref (kst g.1 34)]) (rest := []) h (k_Mod_is (l := l) (g := g) (α := α1) N 34 (by decide)) S hlocks hno E hI kw_Mod_293 ⟨by omega, by omega⟩ (mv_Mod E hI) rfl hl.1 rfl (Nat.le_of_ble_eq_true rfl) d_Mod_term_14 (fun v17 α15 H locs e16 h hI => ?_)
    refine lv_if_eq (tgt := 43) hx hb d_Mod_term_17 (by decide) (fun c18 => ?_) (fun c18 => ?_)
    · replace h := Eq.trans (if_pos c18).symm h
      refine lv_aload_n hx hb d_Mod_term_43 rfl (lv_at hl 0 rfl) ?_
      refine mg_ldcw hx hb hown (E.2.2.2.2.1 35 (by decide)) d_Mod_term_44 ?_
      refine mg_cI (As := [.ref (kst g.1 35)]) (rest := []) h (k_Mod_is (l := l) (g := g) (α := α15) N 35 (by decide)) S hlocks hno E hI kw_Mod_293 ⟨by omega, by omega⟩ (mv_Mod E hI) rfl hl.1 rfl (Nat.le_of_ble_eq_true rfl) d_Mod_term_47 (fun v21 α19 H locs e20 h hI => ?_)
      refine lv_if_eq (tgt := 59) hx hb d_Mod_term_50 (by decide) (fun c22 => ?_) (fun c22 => ?_)
      · replace h := Eq.trans (if_pos c22).symm h
        refine lv_aload_n hx hb d_Mod_term_59 rfl (lv_at hl 0 rfl) ?_
        refine lv_iload_n hx hb d_Mod_term_60 rfl (lv_at hl 1 rfl) ?_
        refine mg_cI (As := [.int a1]) (rest := []) h (hk.1 a1 α19) S hlocks hno E hI kw_Mod_390 ⟨by omega, by omega⟩ (mv_Mod E hI) rfl hl.1 rfl (Nat.le_of_ble_eq_true rfl) d_Mod_term_61 (fun v25 α23 H locs e24 h hI => ?_)
        refine lv_istore_n (lv' := [(2, .int v25), (0, .ref (mad g 0)), (1, .int a1)]) hx hb d_Mod_term_64 rfl hl (by decide) rfl (fun ls hl => ?_)
        refine lv_aload_n hx hb d_Mod_term_65 rfl (lv_at hl 1 rfl) ?_
        refine mg_cI (As := []) (rest := []) h (k_Mod_peek (l := l) (g := g) (α := α23) N) S hlocks hno E hI kw_Mod_273 ⟨by omega, by omega⟩ (mv_Mod E hI) rfl hl.1 rfl (Nat.le_of_ble_eq_true rfl) d_Mod_term_66 (fun v28 α26 H locs e27 h hI => ?_)
        refine lv_sipush (v := 302) hx hb d_Mod_term_69 (by decide) ?_
        refine lv_icmp_eq (tgt := 77) hx hb d_Mod_term_72 (by decide) (fun c29 => ?_) (fun c29 => ?_)
        · replace h := Eq.trans (if_pos c29).symm h
          refine lv_aload_n hx hb d_Mod_term_77 rfl (lv_at hl 1 rfl) ?_
          refine mg_cV (As := []) (rest := []) h (k_Mod_take (l := l) (g := g) (α := α26) N) S hlocks hno E hI kw_Mod_281 ⟨by omega, by omega⟩ (mv_Mod E hI) rfl hl.1 rfl (Nat.le_of_ble_eq_true rfl) d_Mod_term_78 (fun α30 H locs e31 h hI => ?_)
          refine lv_aload_n hx hb d_Mod_term_81 rfl (lv_at hl 1 rfl) ?_
          refine lv_iconst (v := 0) hx hb d_Mod_term_82 (by decide) ?_
          refine lv_iconst (v := 0) hx hb d_Mod_term_83 (by decide) ?_
          refine mg_cV (As := [.int 0, .int 0]) (rest := []) h (k_Mod_bindName (l := l) (g := g) (α := α30) N 0 0) S hlocks hno E hI kw_Mod_393 ⟨by omega, by omega⟩ (mv_Mod E hI) rfl hl.1 rfl (Nat.le_of_ble_eq_true rfl) d_Mod_term_84 (fun α32 H locs e33 h hI => ?_)
          refine lv_aload_n hx hb d_Mod_term_87 rfl (lv_at hl 1 rfl) ?_
          refine lv_aload_n hx hb d_Mod_term_88 rfl (lv_at hl 1 rfl) ?_
          refine lv_iload_n hx hb d_Mod_term_89 rfl (lv_at hl 2 rfl) ?_
          refine mg_cI (As := [.int a1]) (rest := [.ref (mad g 0)]) h (k_Mod_nest (l := l) (g := g) (α := α32) N a1) S hlocks hno E hI kw_Mod_396 ⟨by omega, by omega⟩ (mv_Mod E hI) rfl hl.1 rfl (Nat.le_of_ble_eq_true rfl) d_Mod_term_90 (fun v36 α34 H locs e35 h hI => ?_)
          refine mg_cI (As := [.int v36]) (rest := []) h (hk.2.2.2.2.2 v36 α34) S hlocks hno E hI kw_Mod_399 ⟨by omega, by omega⟩ (mv_Mod E hI) rfl hl.1 rfl (Nat.le_of_ble_eq_true rfl) d_Mod_term_93 (fun v39 α37 H locs e38 h hI => ?_)
          refine lv_istore_n (lv' := [(3, .int v39), (2, .int v25), (0, .ref (mad g 0)), (1, .int a1)]) hx hb d_Mod_term_96 rfl hl (by decide) rfl (fun ls hl => ?_)
          refine lv_aload_n hx hb d_Mod_term_97 rfl (lv_at hl 2 rfl) ?_
          refine lv_dup hx hb d_Mod_term_98 rfl ?_
          refine mf_scopes S E hI vt_1314 d_Mod_term_99 ?_
          refine lv_iconst (v := 1) hx hb d_Mod_term_102 (by decide) ?_
          refine lv_isub hx hb d_Mod_term_103 ?_
          refine mp_scopes S E hI vt_1314 d_Mod_term_104 (fun H locs hI => ?_)
          refine lv_aload_n hx hb d_Mod_term_107 rfl (lv_at hl 2 rfl) ?_
          refine lv_aload_n hx hb d_Mod_term_108 rfl (lv_at hl 2 rfl) ?_
          refine lv_bipush (v := 6) hx hb d_Mod_term_109 (by decide) ?_
          refine lv_iload_n hx hb d_Mod_term_111 rfl (lv_at hl 1 rfl) ?_
          refine lv_iload_n hx hb d_Mod_term_112 rfl (lv_at hl 0 rfl) ?_
          refine lv_iconst (v := 0) hx hb d_Mod_term_113 (by decide) ?_
          refine mg_cI (As := [.int 6, .int v25, .int v39, .int 0]) (rest := [.ref (mad g 0)]) h (k_Mod_node (l := l) (g := g) (α := (mSi α37 19 ((α37.1 19) - 1))) N 6 v25 v39 0) S hlocks hno E hI kw_Mod_336 ⟨by omega, by omega⟩ (mv_Mod E hI) rfl hl.1 rfl (Nat.le_of_ble_eq_true rfl) d_Mod_term_114 (fun v42 α40 H locs e41 h hI => ?_)
          refine mg_cI (As := [.int v42]) (rest := []) h (k_Mod_fits (l := l) (g := g) (α := α40) N v42) S hlocks hno E hI kw_Mod_402 ⟨by omega, by omega⟩ (mv_Mod E hI) rfl hl.1 rfl (Nat.le_of_ble_eq_true rfl) d_Mod_term_117 (fun v45 α43 H locs e44 h hI => ?_)
          exact mc_iret (w := v45) hx hb hr rfl hlocks E hI h d_Mod_term_120
        · replace h := Eq.trans (if_neg c29).symm h
          refine lv_iload_n hx hb d_Mod_term_75 rfl (lv_at hl 0 rfl) ?_
          exact mc_iret (w := v25) hx hb hr rfl hlocks E hI h d_Mod_term_76
      · replace h := Eq.trans (if_neg c22).symm h
        refine lv_aload_n hx hb d_Mod_term_53 rfl (lv_at hl 0 rfl) ?_
        refine lv_iload_n hx hb d_Mod_term_54 rfl (lv_at hl 1 rfl) ?_
        refine mg_cI (As := [.int a1]) (rest := []) h (hk.2.2.2.2.1 a1 α19) S hlocks hno E hI kw_Mod_387 ⟨by omega, by omega⟩ (mv_Mod E hI) rfl hl.1 rfl (Nat.le_of_ble_eq_true rfl) d_Mod_term_55 (fun v48 α46 H locs e47 h hI => ?_)
        exact mc_iret (w := v48) hx hb hr rfl hlocks E hI h d_Mod_term_58
    · replace h := Eq.trans (if_neg c18).symm h
      exact J20 a1 _ _ _ _ h hI (lv_sub hl [0, 1] rfl)
def G_applied (N : Nat) : Nat → (Int32 → mS → Option (kO × mS)) × (Int32 → mS → Option (kO × mS)) × (Int32 → mS → Option (kO × mS)) × (Int32 → Int32 → mS → Option (kO × mS)) × (Int32 → mS → Option (kO × mS)) × (Int32 → mS → Option (kO × mS))
  | 0 => (fun _ _ => none, fun _ _ => none, fun _ _ => none, fun _ _ _ => none, fun _ _ => none, fun _ _ => none)
  | d + 1 => (f_Mod_applied N (G_applied N d), f_Mod_atom N (G_applied N d), f_Mod_binders N (G_applied N d), f_Mod_binding N (G_applied N d), f_Mod_letting N (G_applied N d), f_Mod_term N (G_applied N d))
theorem ok_applied {l : Launch} {g : mG} (N : Nat) : ∀ d, hk_applied l g (G_applied N d) (45 + d) (1307 + 28 * d)
  | 0 => ⟨(fun a1  α x h => by cases h), (fun a1  α x h => by cases h), (fun a1  α x h => by cases h), (fun a1 a2  α x h => by cases h), (fun a1  α x h => by cases h), (fun a1  α x h => by cases h)⟩
  | d + 1 => by
    have ih := ok_applied (l := l) (g := g) N d
    exact ⟨(fun a1  α x h => k_Mod_applied (α := α) N _ d ih a1  x h), (fun a1  α x h => k_Mod_atom (α := α) N _ d ih a1  x h), (fun a1  α x h => k_Mod_binders (α := α) N _ d ih a1  x h), (fun a1 a2  α x h => k_Mod_binding (α := α) N _ d ih a1 a2  x h), (fun a1  α x h => k_Mod_letting (α := α) N _ d ih a1  x h), (fun a1  α x h => k_Mod_term (α := α) N _ d ih a1  x h)⟩
def dp_applied : Nat := 340
