def f_Mod_whole (N : Nat) (a1 : Int32) (a2 : Int32) (a3 : Int32) (α : mS) : Option (kO × mS) := mBi (f_Mod_mapped N 0 a1 a2 0 a3 α) fun v3 α1 => (some (some (some v3), α1))
set_option maxHeartbeats 4000000 in
set_option maxRecDepth 100000 in
theorem k_Mod_whole {l : Launch} {g : mG} {α : mS} (N : Nat) (a1 : Int32) (a2 : Int32) (a3 : Int32)  : ∀ x, f_Mod_whole N a1 a2 a3 α = some x → mC l g y_Mod_whole b_Mod_whole 4 (some .int) (848) (23782) [.ref (mad g 0), .int a1, .int a2, .int a3] α (mQr x) := by
  intro x h
  unfold f_Mod_whole at h
  refine mc_ofW (by decide) (fun A p e s m args below meth c S hr hlocks hno hargs E hI => ?_)
  have hx := S.1
  have hb := S.2.1
  have hown := S.2.2.2.1
  have hT := S.2.2.2.2
  subst hargs
  have hl := lv_entry ([.ref (mad g 0), .int a1, .int a2, .int a3]) (n := 4) (Nat.le_of_ble_eq_true rfl)
  rw [lg_entry_eq]
  generalize (lg_sl ([.ref (mad g 0), .int a1, .int a2, .int a3]) ++ List.replicate (4 - (lg_sl ([.ref (mad g 0), .int a1, .int a2, .int a3])).length) Slot.unset).toArray = ls at hl ⊢
  have hl : lv_has ls 4 [(0, .ref (mad g 0)), (1, .int a1), (2, .int a2), (3, .int a3)] := hl
  refine lv_aload_n hx hb d_Mod_whole_0 rfl (lv_at hl 0 rfl) ?_
  refine lv_iconst (v := 0) hx hb d_Mod_whole_1 (by decide) ?_
  refine lv_iload_n hx hb d_Mod_whole_2 rfl (lv_at hl 1 rfl) ?_
  refine lv_iload_n hx hb d_Mod_whole_3 rfl (lv_at hl 2 rfl) ?_
  refine lv_iconst (v := 0) hx hb d_Mod_whole_4 (by decide) ?_
  refine lv_iload_n hx hb d_Mod_whole_5 rfl (lv_at hl 3 rfl) ?_
  refine mg_cI (As := [.int 0, .int a1, .int a2, .int 0, .int a3]) (rest := []) h (k_Mod_mapped (l := l) (g := g) (α := α) N 0 a1 a2 0 a3) S hlocks hno E hI kw_Mod_359 ⟨Nat.le_of_ble_eq_true rfl, Nat.le_of_ble_eq_true rfl⟩ (mv_Mod E hI) rfl hl.1 rfl (Nat.le_of_ble_eq_true rfl) d_Mod_whole_6 (fun v3 α1 H locs e2 h hI => ?_)
  exact mc_iret (w := v3) hx hb hr rfl hlocks E hI h d_Mod_whole_9
theorem kw_Mod_513 : kWv "FamilyKernelModel" 513 "FamilyKernelModel" y_Mod_whole b_Mod_whole 4 (some .int) 3 := ⟨vt_1539, vt_1540, vt_1541, vt_1349, vt_1542, by decide, by decide, by decide +kernel⟩
def f_Mod_alone (N : Nat) (a1 : Int32) (α : mS) : Option (kO × mS) := mBi (f_Mod_fits N a1 α) fun v3 α1 => (mBi (f_Mod_whole N v3 0 0 α1) fun v6 α4 => (some (some (some v6), α4)))
set_option maxHeartbeats 4000000 in
set_option maxRecDepth 100000 in
theorem k_Mod_alone {l : Launch} {g : mG} {α : mS} (N : Nat) (a1 : Int32)  : ∀ x, f_Mod_alone N a1 α = some x → mC l g y_Mod_alone b_Mod_alone 2 (some .int) (849) (23805) [.ref (mad g 0), .int a1] α (mQr x) := by
  intro x h
  unfold f_Mod_alone at h
  refine mc_ofW (by decide) (fun A p e s m args below meth c S hr hlocks hno hargs E hI => ?_)
  have hx := S.1
  have hb := S.2.1
  have hown := S.2.2.2.1
  have hT := S.2.2.2.2
  subst hargs
  have hl := lv_entry ([.ref (mad g 0), .int a1]) (n := 2) (Nat.le_of_ble_eq_true rfl)
  rw [lg_entry_eq]
  generalize (lg_sl ([.ref (mad g 0), .int a1]) ++ List.replicate (2 - (lg_sl ([.ref (mad g 0), .int a1])).length) Slot.unset).toArray = ls at hl ⊢
  have hl : lv_has ls 2 [(0, .ref (mad g 0)), (1, .int a1)] := hl
  refine lv_aload_n hx hb d_Mod_alone_0 rfl (lv_at hl 0 rfl) ?_
  refine lv_aload_n hx hb d_Mod_alone_1 rfl (lv_at hl 0 rfl) ?_
  refine lv_iload_n hx hb d_Mod_alone_2 rfl (lv_at hl 1 rfl) ?_
  refine mg_cI (As := [.int a1]) (rest := [.ref (mad g 0)]) h (k_Mod_fits (l := l) (g := g) (α := α) N a1) S hlocks hno E hI kw_Mod_402 ⟨Nat.le_of_ble_eq_true rfl, Nat.le_of_ble_eq_true rfl⟩ (mv_Mod E hI) rfl hl.1 rfl (Nat.le_of_ble_eq_true rfl) d_Mod_alone_3 (fun v3 α1 H locs e2 h hI => ?_)
  refine lv_iconst (v := 0) hx hb d_Mod_alone_6 (by decide) ?_
  refine lv_iconst (v := 0) hx hb d_Mod_alone_7 (by decide) ?_
  refine mg_cI (As := [.int v3, .int 0, .int 0]) (rest := []) h (k_Mod_whole (l := l) (g := g) (α := α1) N v3 0 0) S hlocks hno E hI kw_Mod_513 ⟨Nat.le_of_ble_eq_true rfl, Nat.le_of_ble_eq_true rfl⟩ (mv_Mod E hI) rfl hl.1 rfl (Nat.le_of_ble_eq_true rfl) d_Mod_alone_8 (fun v6 α4 H locs e5 h hI => ?_)
  exact mc_iret (w := v6) hx hb hr rfl hlocks E hI h d_Mod_alone_11
def f_Mod_parts_j89 (N : Nat)  (k0 : mS → Option (kO × mS)) (γ : mS) : Option (kO × mS) := k0  (mSi γ 5 ((γ.1 5) + 1))
def f_Mod_parts_27 (N : Nat)  (k0 : mS → Option (kO × mS)) : Nat → mS → Option (kO × mS)
  | 0, _ => none
  | n + 1, β27 => if (β27.1 0) ≤ (β27.1 5) then (k0  β27) else (if (β27.1 5) < 0 ∨ 65536 ≤ ((β27.1 5) : Int32).toNatClampNeg then none else (if (β27.2 0 ((β27.1 5) : Int32).toNatClampNeg) = 10 then (k0  β27) else (f_Mod_parts_27 N k0 n  (mSi β27 5 ((β27.1 5) + 1)))))
def f_Mod_parts_0 (N : Nat)  : Nat → mS → Option (kO × mS)
  | 0, _ => none
  | n + 1, β0 => if (β0.1 0) ≤ (β0.1 5) then (some (some none, β0)) else (if (β0.1 5) < 0 ∨ 65536 ≤ ((β0.1 5) : Int32).toNatClampNeg then none else (if (β0.2 0 ((β0.1 5) : Int32).toNatClampNeg) = 37 then (f_Mod_parts_27 N (f_Mod_parts_0 N n) N  β0) else (if (β0.2 0 ((β0.1 5) : Int32).toNatClampNeg) = 32 then (f_Mod_parts_j89 N (f_Mod_parts_0 N n)  β0) else (if (β0.2 0 ((β0.1 5) : Int32).toNatClampNeg) = 9 then (f_Mod_parts_j89 N (f_Mod_parts_0 N n)  β0) else (if (β0.2 0 ((β0.1 5) : Int32).toNatClampNeg) = 10 then (f_Mod_parts_j89 N (f_Mod_parts_0 N n)  β0) else (if (β0.2 0 ((β0.1 5) : Int32).toNatClampNeg) = 13 then (f_Mod_parts_j89 N (f_Mod_parts_0 N n)  β0) else (some (some none, β0))))))))
def f_Mod_parts (N : Nat)  (α : mS) : Option (kO × mS) := f_Mod_parts_0 N N  α
set_option maxHeartbeats 4000000 in
set_option maxRecDepth 100000 in
theorem k_Mod_parts {l : Launch} {g : mG} {α : mS} (N : Nat)   : ∀ x, f_Mod_parts N α = some x → mC l g y_Mod_parts b_Mod_parts 2 none (1) (1) [.ref (mad g 0)] α (mQr x) := by
  intro x h
  unfold f_Mod_parts at h
  refine mc_ofW (by decide) (fun A p e s m args below meth c S hr hlocks hno hargs E hI => ?_)
  have hx := S.1
  have hb := S.2.1
  have hown := S.2.2.2.1
  have hT := S.2.2.2.2
  subst hargs
  have hl := lv_entry ([.ref (mad g 0)]) (n := 2) (Nat.le_of_ble_eq_true rfl)
  rw [lg_entry_eq]
  generalize (lg_sl ([.ref (mad g 0)]) ++ List.replicate (2 - (lg_sl ([.ref (mad g 0)])).length) Slot.unset).toArray = ls at hl ⊢
  have hl : lv_has ls 2 [(0, .ref (mad g 0))] := hl
  have L0 : ∀ (n0 : Nat)  (β0 : mS) (H : Heap) (locs : List Loc) (ls : Array Slot), f_Mod_parts_0 N n0 β0 = some x → mI g A s β0 H locs → lv_has ls 2 [(0, .ref (mad g 0))] → W p l e (mR (1) (1)) s m ([.ref (mad g 0)]).toArray below meth c H locs 0 0 (vEQ below (mQ g A (mQr x)) ([.ref (mad g 0)]).toArray s A) (F0 m 0 ls []) := by
    intro n0
    induction n0 with
    | zero => intro  β0 H locs ls h hI hl; rw [f_Mod_parts_0] at h; cases h
    | succ n0 ih0 =>
      intro  β0 H locs ls h hI hl
      rw [f_Mod_parts_0] at h
      have J89 : ∀ (γ : mS) (H : Heap) (locs : List Loc) (ls : Array Slot), f_Mod_parts_j89 N (f_Mod_parts_0 N n0) γ = some x → mI g A s γ H locs → lv_has ls 2 [(0, .ref (mad g 0))] → W p l e (mR (1) (1)) s m ([.ref (mad g 0)]).toArray below meth c H locs 0 0 (vEQ below (mQ g A (mQr x)) ([.ref (mad g 0)]).toArray s A) (F0 m 89 ls []) := by
        intro  γ H locs ls h hI hl
        unfold f_Mod_parts_j89 at h
        refine lv_aload_n hx hb d_Mod_parts_89 rfl (lv_at hl 0 rfl) ?_
        refine lv_dup hx hb d_Mod_parts_90 rfl ?_
        refine mf_pos S E hI vt_1273 d_Mod_parts_91 ?_
        refine lv_iconst (v := 1) hx hb d_Mod_parts_94 (by decide) ?_
        refine lv_iadd hx hb d_Mod_parts_95 ?_
        refine mp_pos S E hI vt_1273 d_Mod_parts_96 (fun H locs hI => ?_)
        refine lv_goto (tgt := 103) hx hb d_Mod_parts_99 (by decide) ?_
        refine lv_goto (tgt := 0) hx hb d_Mod_parts_103 (by decide) ?_
        exact ih0  _ _ _ _ h hI (lv_sub hl [0] rfl)
      refine lv_aload_n hx hb d_Mod_parts_0 rfl (lv_at hl 0 rfl) ?_
      refine mf_pos S E hI vt_1273 d_Mod_parts_1 ?_
      refine lv_aload_n hx hb d_Mod_parts_4 rfl (lv_at hl 0 rfl) ?_
      refine mf_size S E hI vt_1268 d_Mod_parts_5 ?_
      refine lv_icmp_ge (tgt := 106) hx hb d_Mod_parts_8 (by decide) (fun c1 => ?_) (fun c1 => ?_)
      · replace h := Eq.trans (if_pos c1).symm h
        exact mc_vret hx hb hr hlocks E hI h d_Mod_parts_106
      · replace h := Eq.trans (if_neg c1).symm h
        refine lv_aload_n hx hb d_Mod_parts_11 rfl (lv_at hl 0 rfl) ?_
        refine mf_tape S E hI vt_1266 d_Mod_parts_12 ?_
        refine lv_aload_n hx hb d_Mod_parts_15 rfl (lv_at hl 0 rfl) ?_
        refine mf_pos S E hI vt_1273 d_Mod_parts_16 ?_
        by_cases c2 : (β0.1 5) < 0 ∨ 65536 ≤ ((β0.1 5) : Int32).toNatClampNeg
        · replace h := Eq.trans (if_pos c2).symm h
          cases h
        · replace h := Eq.trans (if_neg c2).symm h
          refine ml_tape S E hI c2 d_Mod_parts_19 ?_
          refine lv_istore_n (lv' := [(1, .int (β0.2 0 ((β0.1 5) : Int32).toNatClampNeg)), (0, .ref (mad g 0))]) hx hb d_Mod_parts_20 rfl hl (by decide) rfl (fun ls hl => ?_)
          refine lv_iload_n hx hb d_Mod_parts_21 rfl (lv_at hl 0 rfl) ?_
          refine lv_bipush (v := 37) hx hb d_Mod_parts_22 (by decide) ?_
          refine lv_icmp_ne (tgt := 65) hx hb d_Mod_parts_24 (by decide) (fun c3 => ?_) (fun c3 => ?_)
          · replace h := Eq.trans (if_neg c3).symm h
            refine lv_iload_n hx hb d_Mod_parts_65 rfl (lv_at hl 0 rfl) ?_
            refine lv_bipush (v := 32) hx hb d_Mod_parts_66 (by decide) ?_
            refine lv_icmp_eq (tgt := 89) hx hb d_Mod_parts_68 (by decide) (fun c4 => ?_) (fun c4 => ?_)
            · replace h := Eq.trans (if_pos c4).symm h
              exact J89  _ _ _ _ h hI (lv_sub hl [1] rfl)
            · replace h := Eq.trans (if_neg c4).symm h
              refine lv_iload_n hx hb d_Mod_parts_71 rfl (lv_at hl 0 rfl) ?_
              refine lv_bipush (v := 9) hx hb d_Mod_parts_72 (by decide) ?_
              refine lv_icmp_eq (tgt := 89) hx hb d_Mod_parts_74 (by decide) (fun c5 => ?_) (fun c5 => ?_)
              · replace h := Eq.trans (if_pos c5).symm h
                exact J89  _ _ _ _ h hI (lv_sub hl [1] rfl)
              · replace h := Eq.trans (if_neg c5).symm h
                refine lv_iload_n hx hb d_Mod_parts_77 rfl (lv_at hl 0 rfl) ?_
                refine lv_bipush (v := 10) hx hb d_Mod_parts_78 (by decide) ?_
                refine lv_icmp_eq (tgt := 89) hx hb d_Mod_parts_80 (by decide) (fun c6 => ?_) (fun c6 => ?_)
                · replace h := Eq.trans (if_pos c6).symm h
                  exact J89  _ _ _ _ h hI (lv_sub hl [1] rfl)
                · replace h := Eq.trans (if_neg c6).symm h
                  refine lv_iload_n hx hb d_Mod_parts_83 rfl (lv_at hl 0 rfl) ?_
                  refine lv_bipush (v := 13) hx hb d_Mod_parts_84 (by decide) ?_
                  refine lv_icmp_ne (tgt := 102) hx hb d_Mod_parts_86 (by decide) (fun c7 => ?_) (fun c7 => ?_)
                  · replace h := Eq.trans (if_neg c7).symm h
                    exact mc_vret hx hb hr hlocks E hI h d_Mod_parts_102
                  · replace h := Eq.trans (if_pos c7).symm h
                    exact J89  _ _ _ _ h hI (lv_sub hl [1] rfl)
          · replace h := Eq.trans (if_pos c3).symm h
            have L27 : ∀ (n27 : Nat)  (β27 : mS) (H : Heap) (locs : List Loc) (ls : Array Slot), f_Mod_parts_27 N (f_Mod_parts_0 N n0) n27 β27 = some x → mI g A s β27 H locs → lv_has ls 2 [(0, .ref (mad g 0))] → W p l e (mR (1) (1)) s m ([.ref (mad g 0)]).toArray below meth c H locs 0 0 (vEQ below (mQ g A (mQr x)) ([.ref (mad g 0)]).toArray s A) (F0 m 27 ls []) := by
              intro n27
              induction n27 with
              | zero => intro  β27 H locs ls h hI hl; rw [f_Mod_parts_27] at h; cases h
              | succ n27 ih27 =>
                intro  β27 H locs ls h hI hl
                rw [f_Mod_parts_27] at h
                refine lv_aload_n hx hb d_Mod_parts_27 rfl (lv_at hl 0 rfl) ?_
                refine mf_pos S E hI vt_1273 d_Mod_parts_28 ?_
                refine lv_aload_n hx hb d_Mod_parts_31 rfl (lv_at hl 0 rfl) ?_
                refine mf_size S E hI vt_1268 d_Mod_parts_32 ?_
                refine lv_icmp_ge (tgt := 103) hx hb d_Mod_parts_35 (by decide) (fun c8 => ?_) (fun c8 => ?_)
                · replace h := Eq.trans (if_pos c8).symm h
                  refine lv_goto (tgt := 0) hx hb d_Mod_parts_103 (by decide) ?_
                  exact ih0  _ _ _ _ h hI (lv_sub hl [0] rfl)
                · replace h := Eq.trans (if_neg c8).symm h
                  refine lv_aload_n hx hb d_Mod_parts_38 rfl (lv_at hl 0 rfl) ?_
                  refine mf_tape S E hI vt_1266 d_Mod_parts_39 ?_
                  refine lv_aload_n hx hb d_Mod_parts_42 rfl (lv_at hl 0 rfl) ?_
                  refine mf_pos S E hI vt_1273 d_Mod_parts_43 ?_
                  by_cases c9 : (β27.1 5) < 0 ∨ 65536 ≤ ((β27.1 5) : Int32).toNatClampNeg
                  · replace h := Eq.trans (if_pos c9).symm h
                    cases h
                  · replace h := Eq.trans (if_neg c9).symm h
                    refine ml_tape S E hI c9 d_Mod_parts_46 ?_
                    refine lv_bipush (v := 10) hx hb d_Mod_parts_47 (by decide) ?_
                    refine lv_icmp_eq (tgt := 103) hx hb d_Mod_parts_49 (by decide) (fun c10 => ?_) (fun c10 => ?_)
                    · replace h := Eq.trans (if_pos c10).symm h
                      refine lv_goto (tgt := 0) hx hb d_Mod_parts_103 (by decide) ?_
                      exact ih0  _ _ _ _ h hI (lv_sub hl [0] rfl)
                    · replace h := Eq.trans (if_neg c10).symm h
                      refine lv_aload_n hx hb d_Mod_parts_52 rfl (lv_at hl 0 rfl) ?_
                      refine lv_dup hx hb d_Mod_parts_53 rfl ?_
                      refine mf_pos S E hI vt_1273 d_Mod_parts_54 ?_
                      refine lv_iconst (v := 1) hx hb d_Mod_parts_57 (by decide) ?_
                      refine lv_iadd hx hb d_Mod_parts_58 ?_
                      refine mp_pos S E hI vt_1273 d_Mod_parts_59 (fun H locs hI => ?_)
                      refine lv_goto (tgt := 27) hx hb d_Mod_parts_62 (by decide) ?_
                      exact ih27  _ _ _ _ h hI (lv_sub hl [0] rfl)
            exact L27 N  _ _ _ _ h hI (lv_sub hl [1] rfl)
  exact L0 N  _ _ _ _ h hI (lv_sub hl [0] rfl)
def f_Mod_letter_j12  (y0 : Int32) (α : mS) : Int32 := if y0 < 65 then (0) else (if 90 < y0 then (0) else (1))
def f_Mod_letter (a1 : Int32) (α : mS) : Int32 := if a1 < 97 then (f_Mod_letter_j12 a1 α) else (if a1 ≤ 122 then (1) else (f_Mod_letter_j12 a1 α))
set_option maxHeartbeats 4000000 in
set_option maxRecDepth 100000 in
theorem k_Mod_letter {l : Launch} {g : mG} {α : mS} (a1 : Int32)  : mV l g y_Mod_letter b_Mod_letter 1 (some .boolean) (1) (1) [.int a1] α (f_Mod_letter a1 α) := by
  generalize h : f_Mod_letter a1 α = x
  unfold f_Mod_letter at h
  refine mv_ofW (by decide) (fun A p e s m args below meth c S hr hlocks hargs E hI => ?_)
  have hx := S.1
  have hb := S.2.1
  have hown := S.2.2.2.1
  have hT := S.2.2.2.2
  subst hargs
  have hl := lv_entry ([.int a1]) (n := 1) (Nat.le_of_ble_eq_true rfl)
  rw [lg_entry_eq]
  generalize (lg_sl ([.int a1]) ++ List.replicate (1 - (lg_sl ([.int a1])).length) Slot.unset).toArray = ls at hl ⊢
  have hl : lv_has ls 1 [(0, .int a1)] := hl
  have J12 : ∀ (y0 : Int32) (ls : Array Slot), f_Mod_letter_j12 y0 α = x → lv_has ls 1 [(0, .int y0)] → W p l e (mP (1) (1)) s m ([.int a1]).toArray below meth c s.heap [] 0 0 (MQ below (QcRead x) ([.int a1]).toArray s 0 0 (fun _ => False)) (F0 m 12 ls []) := by
    intro y0 ls h hl
    unfold f_Mod_letter_j12 at h
    refine lv_iload_n hx hb d_Mod_letter_12 rfl (lv_at hl 0 rfl) ?_
    refine lv_bipush (v := 65) hx hb d_Mod_letter_13 (by decide) ?_
    refine lv_icmp_lt (tgt := 28) hx hb d_Mod_letter_15 (by decide) (fun c2 => ?_) (fun c2 => ?_)
    · replace h := Eq.trans (if_pos c2).symm h
      refine lv_iconst (v := 0) hx hb d_Mod_letter_28 (by decide) ?_
      exact kv_iret (w := 0) hx hb hr (by decide) hlocks h d_Mod_letter_29
    · replace h := Eq.trans (if_neg c2).symm h
      refine lv_iload_n hx hb d_Mod_letter_18 rfl (lv_at hl 0 rfl) ?_
      refine lv_bipush (v := 90) hx hb d_Mod_letter_19 (by decide) ?_
      refine lv_icmp_gt (tgt := 28) hx hb d_Mod_letter_21 (by decide) (fun c3 => ?_) (fun c3 => ?_)
      · replace h := Eq.trans (if_pos c3).symm h
        refine lv_iconst (v := 0) hx hb d_Mod_letter_28 (by decide) ?_
        exact kv_iret (w := 0) hx hb hr (by decide) hlocks h d_Mod_letter_29
      · replace h := Eq.trans (if_neg c3).symm h
        refine lv_iconst (v := 1) hx hb d_Mod_letter_24 (by decide) ?_
        refine lv_goto (tgt := 29) hx hb d_Mod_letter_25 (by decide) ?_
        exact kv_iret (w := 1) hx hb hr (by decide) hlocks h d_Mod_letter_29
  refine lv_iload_n hx hb d_Mod_letter_0 rfl (lv_at hl 0 rfl) ?_
  refine lv_bipush (v := 97) hx hb d_Mod_letter_1 (by decide) ?_
  refine lv_icmp_lt (tgt := 12) hx hb d_Mod_letter_3 (by decide) (fun c1 => ?_) (fun c1 => ?_)
  · replace h := Eq.trans (if_pos c1).symm h
    exact J12 a1 _ h (lv_sub hl [0] rfl)
  · replace h := Eq.trans (if_neg c1).symm h
    refine lv_iload_n hx hb d_Mod_letter_6 rfl (lv_at hl 0 rfl) ?_
    refine lv_bipush (v := 122) hx hb d_Mod_letter_7 (by decide) ?_
    refine lv_icmp_le (tgt := 24) hx hb d_Mod_letter_9 (by decide) (fun c4 => ?_) (fun c4 => ?_)
    · replace h := Eq.trans (if_pos c4).symm h
      refine lv_iconst (v := 1) hx hb d_Mod_letter_24 (by decide) ?_
      refine lv_goto (tgt := 29) hx hb d_Mod_letter_25 (by decide) ?_
      exact kv_iret (w := 1) hx hb hr (by decide) hlocks h d_Mod_letter_29
    · replace h := Eq.trans (if_neg c4).symm h
      exact J12 a1 _ h (lv_sub hl [0] rfl)
def f_Mod_digit (a1 : Int32) (α : mS) : Int32 := if a1 < 48 then (0) else (if 57 < a1 then (0) else (1))
set_option maxHeartbeats 4000000 in
set_option maxRecDepth 100000 in
theorem k_Mod_digit {l : Launch} {g : mG} {α : mS} (a1 : Int32)  : mV l g y_Mod_digit b_Mod_digit 1 (some .boolean) (1) (1) [.int a1] α (f_Mod_digit a1 α) := by
  generalize h : f_Mod_digit a1 α = x
  unfold f_Mod_digit at h
  refine mv_ofW (by decide) (fun A p e s m args below meth c S hr hlocks hargs E hI => ?_)
  have hx := S.1
  have hb := S.2.1
  have hown := S.2.2.2.1
  have hT := S.2.2.2.2
  subst hargs
  have hl := lv_entry ([.int a1]) (n := 1) (Nat.le_of_ble_eq_true rfl)
  rw [lg_entry_eq]
  generalize (lg_sl ([.int a1]) ++ List.replicate (1 - (lg_sl ([.int a1])).length) Slot.unset).toArray = ls at hl ⊢
  have hl : lv_has ls 1 [(0, .int a1)] := hl
  refine lv_iload_n hx hb d_Mod_digit_0 rfl (lv_at hl 0 rfl) ?_
  refine lv_bipush (v := 48) hx hb d_Mod_digit_1 (by decide) ?_
  refine lv_icmp_lt (tgt := 16) hx hb d_Mod_digit_3 (by decide) (fun c1 => ?_) (fun c1 => ?_)
  · replace h := Eq.trans (if_pos c1).symm h
    refine lv_iconst (v := 0) hx hb d_Mod_digit_16 (by decide) ?_
    exact kv_iret (w := 0) hx hb hr (by decide) hlocks h d_Mod_digit_17
  · replace h := Eq.trans (if_neg c1).symm h
    refine lv_iload_n hx hb d_Mod_digit_6 rfl (lv_at hl 0 rfl) ?_
    refine lv_bipush (v := 57) hx hb d_Mod_digit_7 (by decide) ?_
    refine lv_icmp_gt (tgt := 16) hx hb d_Mod_digit_9 (by decide) (fun c2 => ?_) (fun c2 => ?_)
    · replace h := Eq.trans (if_pos c2).symm h
      refine lv_iconst (v := 0) hx hb d_Mod_digit_16 (by decide) ?_
      exact kv_iret (w := 0) hx hb hr (by decide) hlocks h d_Mod_digit_17
    · replace h := Eq.trans (if_neg c2).symm h
      refine lv_iconst (v := 1) hx hb d_Mod_digit_12 (by decide) ?_
      refine lv_goto (tgt := 17) hx hb d_Mod_digit_13 (by decide) ?_
      exact kv_iret (w := 1) hx hb hr (by decide) hlocks h d_Mod_digit_17
def f_Mod_byteAt (N : Nat) (a1 : Int32) (α : mS) : Option Int32 := if (α.1 0) ≤ a1 then (some 0) else (if a1 < 0 ∨ 65536 ≤ (a1 : Int32).toNatClampNeg then none else (some (α.2 0 (a1 : Int32).toNatClampNeg)))
set_option maxHeartbeats 4000000 in
set_option maxRecDepth 100000 in
theorem k_Mod_byteAt {l : Launch} {g : mG} {α : mS} (N : Nat) (a1 : Int32)  : ∀ x, f_Mod_byteAt N a1 α = some x → mV l g y_Mod_byteAt b_Mod_byteAt 2 (some .int) (1) (1) [.ref (mad g 0), .int a1] α x := by
  intro x h
  unfold f_Mod_byteAt at h
  refine mv_ofW (by decide) (fun A p e s m args below meth c S hr hlocks hargs E hI => ?_)
  have hx := S.1
  have hb := S.2.1
  have hown := S.2.2.2.1
  have hT := S.2.2.2.2
  subst hargs
  have hl := lv_entry ([.ref (mad g 0), .int a1]) (n := 2) (Nat.le_of_ble_eq_true rfl)
  rw [lg_entry_eq]
  generalize (lg_sl ([.ref (mad g 0), .int a1]) ++ List.replicate (2 - (lg_sl ([.ref (mad g 0), .int a1])).length) Slot.unset).toArray = ls at hl ⊢
  have hl : lv_has ls 2 [(0, .ref (mad g 0)), (1, .int a1)] := hl
  refine lv_iload_n hx hb d_Mod_byteAt_0 rfl (lv_at hl 1 rfl) ?_
  refine lv_aload_n hx hb d_Mod_byteAt_1 rfl (lv_at hl 0 rfl) ?_
  refine mf_size S E hI vt_1268 d_Mod_byteAt_2 ?_
  refine lv_icmp_ge (tgt := 17) hx hb d_Mod_byteAt_5 (by decide) (fun c1 => ?_) (fun c1 => ?_)
  · replace h := Eq.trans (if_pos c1).symm h
    refine lv_iconst (v := 0) hx hb d_Mod_byteAt_17 (by decide) ?_
    exact kv_iret (w := 0) hx hb hr rfl hlocks (Option.some.inj h) d_Mod_byteAt_18
  · replace h := Eq.trans (if_neg c1).symm h
    refine lv_aload_n hx hb d_Mod_byteAt_8 rfl (lv_at hl 0 rfl) ?_
    refine mf_tape S E hI vt_1266 d_Mod_byteAt_9 ?_
    refine lv_iload_n hx hb d_Mod_byteAt_12 rfl (lv_at hl 1 rfl) ?_
    by_cases c2 : a1 < 0 ∨ 65536 ≤ (a1 : Int32).toNatClampNeg
    · replace h := Eq.trans (if_pos c2).symm h
      cases h
    · replace h := Eq.trans (if_neg c2).symm h
      refine ml_tape S E hI c2 d_Mod_byteAt_13 ?_
      refine lv_goto (tgt := 18) hx hb d_Mod_byteAt_14 (by decide) ?_
      exact kv_iret (w := (α.2 0 (a1 : Int32).toNatClampNeg)) hx hb hr rfl hlocks (Option.some.inj h) d_Mod_byteAt_18
def f_Mod_sign (a1 : Int32) (a2 : Int32) (α : mS) : Int32 := if a1 = 40 then (a1) else (if a1 = 41 then (a1) else (if a1 = 44 then (a1) else (if a1 = 45 then (if a2 = 62 then (302) else (3)) else (if a1 = 46 then (a1) else (if a1 = 58 then (if a2 = 61 then (300) else (a1)) else (if a1 = 61 then (if a2 = 62 then (301) else (3)) else (if a1 = 123 then (a1) else (if a1 = 124 then (a1) else (if a1 = 125 then (a1) else (3))))))))))
set_option maxHeartbeats 4000000 in
set_option maxRecDepth 100000 in
theorem k_Mod_sign {l : Launch} {g : mG} {α : mS} (a1 : Int32) (a2 : Int32)  : mV l g y_Mod_sign b_Mod_sign 2 (some .int) (1) (1) [.int a1, .int a2] α (f_Mod_sign a1 a2 α) := by
  generalize h : f_Mod_sign a1 a2 α = x
  unfold f_Mod_sign at h
  refine mv_ofW (by decide) (fun A p e s m args below meth c S hr hlocks hargs E hI => ?_)
  have hx := S.1
  have hb := S.2.1
  have hown := S.2.2.2.1
  have hT := S.2.2.2.2
  subst hargs
  have hl := lv_entry ([.int a1, .int a2]) (n := 2) (Nat.le_of_ble_eq_true rfl)
  rw [lg_entry_eq]
  generalize (lg_sl ([.int a1, .int a2]) ++ List.replicate (2 - (lg_sl ([.int a1, .int a2])).length) Slot.unset).toArray = ls at hl ⊢
  have hl : lv_has ls 2 [(0, .int a1), (1, .int a2)] := hl
  refine lv_iload_n hx hb d_Mod_sign_0 rfl (lv_at hl 0 rfl) ?_
  by_cases c1 : a1 = 40
  · replace h := Eq.trans (if_pos c1).symm h
    refine lv_lookup (off := 91) (tgt := 92) hx hb d_Mod_sign_1 (by decide) (by rw [c1]; decide) (by decide) ?_
    refine lv_iload_n hx hb d_Mod_sign_92 rfl (lv_at hl 0 rfl) ?_
    exact kv_iret (w := a1) hx hb hr rfl hlocks h d_Mod_sign_93
  · replace h := Eq.trans (if_neg c1).symm h
    by_cases c2 : a1 = 41
    · replace h := Eq.trans (if_pos c2).symm h
      refine lv_lookup (off := 91) (tgt := 92) hx hb d_Mod_sign_1 (by decide) (by rw [c2]; decide) (by decide) ?_
      refine lv_iload_n hx hb d_Mod_sign_92 rfl (lv_at hl 0 rfl) ?_
      exact kv_iret (w := a1) hx hb hr rfl hlocks h d_Mod_sign_93
    · replace h := Eq.trans (if_neg c2).symm h
      by_cases c3 : a1 = 44
      · replace h := Eq.trans (if_pos c3).symm h
        refine lv_lookup (off := 91) (tgt := 92) hx hb d_Mod_sign_1 (by decide) (by rw [c3]; decide) (by decide) ?_
        refine lv_iload_n hx hb d_Mod_sign_92 rfl (lv_at hl 0 rfl) ?_
        exact kv_iret (w := a1) hx hb hr rfl hlocks h d_Mod_sign_93
      · replace h := Eq.trans (if_neg c3).symm h
        by_cases c4 : a1 = 45
        · replace h := Eq.trans (if_pos c4).symm h
          refine lv_lookup (off := 121) (tgt := 122) hx hb d_Mod_sign_1 (by decide) (by rw [c4]; decide) (by decide) ?_
          refine lv_iload_n hx hb d_Mod_sign_122 rfl (lv_at hl 1 rfl) ?_
          refine lv_bipush (v := 62) hx hb d_Mod_sign_123 (by decide) ?_
          refine lv_icmp_ne (tgt := 134) hx hb d_Mod_sign_125 (by decide) (fun c5 => ?_) (fun c5 => ?_)
          · replace h := Eq.trans (if_neg c5).symm h
            refine lv_iconst (v := 3) hx hb d_Mod_sign_134 (by decide) ?_
            exact kv_iret (w := 3) hx hb hr rfl hlocks h d_Mod_sign_135
          · replace h := Eq.trans (if_pos c5).symm h
            refine lv_sipush (v := 302) hx hb d_Mod_sign_128 (by decide) ?_
            refine lv_goto (tgt := 135) hx hb d_Mod_sign_131 (by decide) ?_
            exact kv_iret (w := 302) hx hb hr rfl hlocks h d_Mod_sign_135
        · replace h := Eq.trans (if_neg c4).symm h
          by_cases c6 : a1 = 46
          · replace h := Eq.trans (if_pos c6).symm h
            refine lv_lookup (off := 91) (tgt := 92) hx hb d_Mod_sign_1 (by decide) (by rw [c6]; decide) (by decide) ?_
            refine lv_iload_n hx hb d_Mod_sign_92 rfl (lv_at hl 0 rfl) ?_
            exact kv_iret (w := a1) hx hb hr rfl hlocks h d_Mod_sign_93
          · replace h := Eq.trans (if_neg c6).symm h
            by_cases c7 : a1 = 58
            · replace h := Eq.trans (if_pos c7).symm h
              refine lv_lookup (off := 93) (tgt := 94) hx hb d_Mod_sign_1 (by decide) (by rw [c7]; decide) (by decide) ?_
              refine lv_iload_n hx hb d_Mod_sign_94 rfl (lv_at hl 1 rfl) ?_
              refine lv_bipush (v := 61) hx hb d_Mod_sign_95 (by decide) ?_
              refine lv_icmp_ne (tgt := 106) hx hb d_Mod_sign_97 (by decide) (fun c8 => ?_) (fun c8 => ?_)
              · replace h := Eq.trans (if_neg c8).symm h
                refine lv_iload_n hx hb d_Mod_sign_106 rfl (lv_at hl 0 rfl) ?_
                exact kv_iret (w := a1) hx hb hr rfl hlocks h d_Mod_sign_107
              · replace h := Eq.trans (if_pos c8).symm h
                refine lv_sipush (v := 300) hx hb d_Mod_sign_100 (by decide) ?_
                refine lv_goto (tgt := 107) hx hb d_Mod_sign_103 (by decide) ?_
                exact kv_iret (w := 300) hx hb hr rfl hlocks h d_Mod_sign_107
            · replace h := Eq.trans (if_neg c7).symm h
              by_cases c9 : a1 = 61
              · replace h := Eq.trans (if_pos c9).symm h
                refine lv_lookup (off := 107) (tgt := 108) hx hb d_Mod_sign_1 (by decide) (by rw [c9]; decide) (by decide) ?_
                refine lv_iload_n hx hb d_Mod_sign_108 rfl (lv_at hl 1 rfl) ?_
                refine lv_bipush (v := 62) hx hb d_Mod_sign_109 (by decide) ?_
                refine lv_icmp_ne (tgt := 120) hx hb d_Mod_sign_111 (by decide) (fun c10 => ?_) (fun c10 => ?_)
                · replace h := Eq.trans (if_neg c10).symm h
                  refine lv_iconst (v := 3) hx hb d_Mod_sign_120 (by decide) ?_
                  exact kv_iret (w := 3) hx hb hr rfl hlocks h d_Mod_sign_121
                · replace h := Eq.trans (if_pos c10).symm h
                  refine lv_sipush (v := 301) hx hb d_Mod_sign_114 (by decide) ?_
                  refine lv_goto (tgt := 121) hx hb d_Mod_sign_117 (by decide) ?_
                  exact kv_iret (w := 301) hx hb hr rfl hlocks h d_Mod_sign_121
              · replace h := Eq.trans (if_neg c9).symm h
                by_cases c11 : a1 = 123
                · replace h := Eq.trans (if_pos c11).symm h
                  refine lv_lookup (off := 91) (tgt := 92) hx hb d_Mod_sign_1 (by decide) (by rw [c11]; decide) (by decide) ?_
                  refine lv_iload_n hx hb d_Mod_sign_92 rfl (lv_at hl 0 rfl) ?_
                  exact kv_iret (w := a1) hx hb hr rfl hlocks h d_Mod_sign_93
                · replace h := Eq.trans (if_neg c11).symm h
                  by_cases c12 : a1 = 124
                  · replace h := Eq.trans (if_pos c12).symm h
                    refine lv_lookup (off := 91) (tgt := 92) hx hb d_Mod_sign_1 (by decide) (by rw [c12]; decide) (by decide) ?_
                    refine lv_iload_n hx hb d_Mod_sign_92 rfl (lv_at hl 0 rfl) ?_
                    exact kv_iret (w := a1) hx hb hr rfl hlocks h d_Mod_sign_93
                  · replace h := Eq.trans (if_neg c12).symm h
                    by_cases c13 : a1 = 125
                    · replace h := Eq.trans (if_pos c13).symm h
                      refine lv_lookup (off := 91) (tgt := 92) hx hb d_Mod_sign_1 (by decide) (by rw [c13]; decide) (by decide) ?_
                      refine lv_iload_n hx hb d_Mod_sign_92 rfl (lv_at hl 0 rfl) ?_
                      exact kv_iret (w := a1) hx hb hr rfl hlocks h d_Mod_sign_93
                    · replace h := Eq.trans (if_neg c13).symm h
                      refine lv_lookup (off := 135) (tgt := 136) hx hb d_Mod_sign_1 (by decide) ((lv_osw c1 rfl).trans ((lv_osw c2 rfl).trans ((lv_osw c3 rfl).trans ((lv_osw c4 rfl).trans ((lv_osw c6 rfl).trans ((lv_osw c7 rfl).trans ((lv_osw c9 rfl).trans ((lv_osw c11 rfl).trans ((lv_osw c12 rfl).trans ((lv_osw c13 rfl).trans (rfl))))))))))) (by decide) ?_
                      refine lv_iconst (v := 3) hx hb d_Mod_sign_136 (by decide) ?_
                      exact kv_iret (w := 3) hx hb hr rfl hlocks h d_Mod_sign_137
theorem kw_Mod_255 : kWv "FamilyKernelModel" 255 "FamilyKernelModel" y_Mod_parts b_Mod_parts 2 none 0 := ⟨vt_1366, vt_1367, vt_1368, vt_1349, vt_1369, by decide, by decide, by decide +kernel⟩
theorem kw_Mod_258 : kWs "FamilyKernelModel" 258 y_Mod_letter b_Mod_letter 1 (some .boolean) 1 := ⟨vt_1370, vt_1371, vt_1349, vt_1372, by decide, by decide, by decide +kernel⟩
theorem kw_Mod_262 : kWs "FamilyKernelModel" 262 y_Mod_digit b_Mod_digit 1 (some .boolean) 1 := ⟨vt_1373, vt_1374, vt_1349, vt_1375, by decide, by decide, by decide +kernel⟩
theorem kw_Mod_265 : kWv "FamilyKernelModel" 265 "FamilyKernelModel" y_Mod_byteAt b_Mod_byteAt 2 (some .int) 1 := ⟨vt_1376, vt_1377, vt_1378, vt_1349, vt_1379, by decide, by decide, by decide +kernel⟩
theorem kw_Mod_269 : kWs "FamilyKernelModel" 269 y_Mod_sign b_Mod_sign 2 (some .int) 2 := ⟨vt_1380, vt_1381, vt_1349, vt_1382, by decide, by decide, by decide +kernel⟩
def f_Mod_peek_j226 (N : Nat)  (γ : mS) : Option (kO × mS) := if ((γ.1 8) - (γ.1 5)) ≤ 4 then (some (some (some 2), (mSi γ 6 2))) else (some (some (some 3), (mSi γ 6 3)))
def f_Mod_peek_187 (N : Nat)  : Nat → mS → Option (kO × mS)
  | 0, _ => none
  | n + 1, β187 => if (β187.1 0) ≤ (β187.1 8) then (f_Mod_peek_j226 N  β187) else (if (β187.1 8) < 0 ∨ 65536 ≤ ((β187.1 8) : Int32).toNatClampNeg then none else (if (f_Mod_digit (β187.2 0 ((β187.1 8) : Int32).toNatClampNeg) β187) = 0 then (f_Mod_peek_j226 N  β187) else (f_Mod_peek_187 N n  (mSi β187 8 ((β187.1 8) + 1)))))
def f_Mod_peek_j154 (N : Nat)  (γ : mS) : Option (kO × mS) := if ((γ.1 8) - (γ.1 5)) ≤ 31 then (some (some (some 1), (mSi γ 6 1))) else (some (some (some 3), (mSi γ 6 3)))
def f_Mod_peek_j141 (N : Nat)  (k72 : mS → Option (kO × mS)) (γ : mS) : Option (kO × mS) := k72  (mSi γ 8 ((γ.1 8) + 1))
def f_Mod_peek_72 (N : Nat)  : Nat → mS → Option (kO × mS)
  | 0, _ => none
  | n + 1, β72 => if (β72.1 0) ≤ (β72.1 8) then (f_Mod_peek_j154 N  β72) else (if (β72.1 8) < 0 ∨ 65536 ≤ ((β72.1 8) : Int32).toNatClampNeg then none else (if (f_Mod_letter (β72.2 0 ((β72.1 8) : Int32).toNatClampNeg) β72) = 0 then (if (β72.1 8) < 0 ∨ 65536 ≤ ((β72.1 8) : Int32).toNatClampNeg then none else (if (f_Mod_digit (β72.2 0 ((β72.1 8) : Int32).toNatClampNeg) β72) = 0 then (if (β72.1 8) < 0 ∨ 65536 ≤ ((β72.1 8) : Int32).toNatClampNeg then none else (if (β72.2 0 ((β72.1 8) : Int32).toNatClampNeg) = 95 then (f_Mod_peek_j141 N (f_Mod_peek_72 N n)  β72) else (if (β72.1 8) < 0 ∨ 65536 ≤ ((β72.1 8) : Int32).toNatClampNeg then none else (if (β72.2 0 ((β72.1 8) : Int32).toNatClampNeg) = 39 then (f_Mod_peek_j141 N (f_Mod_peek_72 N n)  β72) else (f_Mod_peek_j154 N  β72))))) else (f_Mod_peek_j141 N (f_Mod_peek_72 N n)  β72))) else (f_Mod_peek_j141 N (f_Mod_peek_72 N n)  β72)))
def f_Mod_peek (N : Nat)  (α : mS) : Option (kO × mS) := if (α.1 9) = 0 then (mBv (f_Mod_parts N α) fun α2 => (if (α2.1 5) = (α2.1 0) then (some (some (some 0), (mSi (mSi (mSi (mSi α2 9 1) 7 (α2.1 5)) 8 (α2.1 5)) 6 0))) else (if (α2.1 5) < 0 ∨ 65536 ≤ ((α2.1 5) : Int32).toNatClampNeg then none else (if (f_Mod_letter ((mSi (mSi (mSi (mSi α2 9 1) 7 (α2.1 5)) 8 (α2.1 5)) 6 0).2 0 ((α2.1 5) : Int32).toNatClampNeg) (mSi (mSi (mSi (mSi α2 9 1) 7 (α2.1 5)) 8 (α2.1 5)) 6 0)) = 0 then (if (f_Mod_digit ((mSi (mSi (mSi (mSi α2 9 1) 7 (α2.1 5)) 8 (α2.1 5)) 6 0).2 0 ((α2.1 5) : Int32).toNatClampNeg) (mSi (mSi (mSi (mSi α2 9 1) 7 (α2.1 5)) 8 (α2.1 5)) 6 0)) = 0 then (((f_Mod_byteAt N ((α2.1 5) + 1) (mSi (mSi (mSi (mSi (mSi α2 9 1) 7 (α2.1 5)) 8 (α2.1 5)) 6 0) 8 ((α2.1 5) + 1)))).bind fun v8 => (if (f_Mod_sign ((mSi (mSi (mSi (mSi α2 9 1) 7 (α2.1 5)) 8 (α2.1 5)) 6 0).2 0 ((α2.1 5) : Int32).toNatClampNeg) v8 (mSi (mSi (mSi (mSi (mSi α2 9 1) 7 (α2.1 5)) 8 (α2.1 5)) 6 0) 8 ((α2.1 5) + 1))) ≤ 299 then (some (some (some (f_Mod_sign ((mSi (mSi (mSi (mSi α2 9 1) 7 (α2.1 5)) 8 (α2.1 5)) 6 0).2 0 ((α2.1 5) : Int32).toNatClampNeg) v8 (mSi (mSi (mSi (mSi (mSi α2 9 1) 7 (α2.1 5)) 8 (α2.1 5)) 6 0) 8 ((α2.1 5) + 1)))), (mSi (mSi (mSi (mSi (mSi (mSi α2 9 1) 7 (α2.1 5)) 8 (α2.1 5)) 6 0) 8 ((α2.1 5) + 1)) 6 (f_Mod_sign ((mSi (mSi (mSi (mSi α2 9 1) 7 (α2.1 5)) 8 (α2.1 5)) 6 0).2 0 ((α2.1 5) : Int32).toNatClampNeg) v8 (mSi (mSi (mSi (mSi (mSi α2 9 1) 7 (α2.1 5)) 8 (α2.1 5)) 6 0) 8 ((α2.1 5) + 1)))))) else (some (some (some (f_Mod_sign ((mSi (mSi (mSi (mSi α2 9 1) 7 (α2.1 5)) 8 (α2.1 5)) 6 0).2 0 ((α2.1 5) : Int32).toNatClampNeg) v8 (mSi (mSi (mSi (mSi (mSi α2 9 1) 7 (α2.1 5)) 8 (α2.1 5)) 6 0) 8 ((α2.1 5) + 1)))), (mSi (mSi (mSi (mSi (mSi (mSi (mSi α2 9 1) 7 (α2.1 5)) 8 (α2.1 5)) 6 0) 8 ((α2.1 5) + 1)) 6 (f_Mod_sign ((mSi (mSi (mSi (mSi α2 9 1) 7 (α2.1 5)) 8 (α2.1 5)) 6 0).2 0 ((α2.1 5) : Int32).toNatClampNeg) v8 (mSi (mSi (mSi (mSi (mSi α2 9 1) 7 (α2.1 5)) 8 (α2.1 5)) 6 0) 8 ((α2.1 5) + 1)))) 8 (((α2.1 5) + 1) + 1)))))) else (f_Mod_peek_187 N N  (mSi (mSi (mSi (mSi α2 9 1) 7 (α2.1 5)) 8 (α2.1 5)) 6 0))) else (f_Mod_peek_72 N N  (mSi (mSi (mSi (mSi α2 9 1) 7 (α2.1 5)) 8 (α2.1 5)) 6 0)))))) else (some (some (some (α.1 6)), α))
set_option maxHeartbeats 4000000 in
set_option maxRecDepth 100000 in
theorem k_Mod_peek {l : Launch} {g : mG} {α : mS} (N : Nat)   : ∀ x, f_Mod_peek N α = some x → mC l g y_Mod_peek b_Mod_peek 2 (some .int) (2) (22) [.ref (mad g 0)] α (mQr x) := by
  intro x h
  unfold f_Mod_peek at h
  refine mc_ofW (by decide) (fun A p e s m args below meth c S hr hlocks hno hargs E hI => ?_)
  have hx := S.1
  have hb := S.2.1
  have hown := S.2.2.2.1
  have hT := S.2.2.2.2
  subst hargs
  have hl := lv_entry ([.ref (mad g 0)]) (n := 2) (Nat.le_of_ble_eq_true rfl)
  rw [lg_entry_eq]
  generalize (lg_sl ([.ref (mad g 0)]) ++ List.replicate (2 - (lg_sl ([.ref (mad g 0)])).length) Slot.unset).toArray = ls at hl ⊢
  have hl : lv_has ls 2 [(0, .ref (mad g 0))] := hl
  refine lv_aload_n hx hb d_Mod_peek_0 rfl (lv_at hl 0 rfl) ?_
  refine mf_seen S E hI vt_1277 d_Mod_peek_1 ?_
  refine lv_if_eq (tgt := 12) hx hb d_Mod_peek_4 (by decide) (fun c1 => ?_) (fun c1 => ?_)
  · replace h := Eq.trans (if_pos c1).symm h
    refine lv_aload_n hx hb d_Mod_peek_12 rfl (lv_at hl 0 rfl) ?_
    refine mg_cV (As := []) (rest := []) h (k_Mod_parts (l := l) (g := g) (α := α) N) S hlocks hno E hI kw_Mod_255 ⟨Nat.le_of_ble_eq_true rfl, Nat.le_of_ble_eq_true rfl⟩ (mv_Mod E hI) rfl hl.1 rfl (Nat.le_of_ble_eq_true rfl) d_Mod_peek_13 (fun α2 H locs e3 h hI => ?_)
    refine lv_aload_n hx hb d_Mod_peek_16 rfl (lv_at hl 0 rfl) ?_
    refine lv_iconst (v := 1) hx hb d_Mod_peek_17 (by decide) ?_
    refine mp_seen S E hI (by decide) (by decide) vt_1277 d_Mod_peek_18 (fun H locs hI => ?_)
    refine lv_aload_n hx hb d_Mod_peek_21 rfl (lv_at hl 0 rfl) ?_
    refine lv_aload_n hx hb d_Mod_peek_22 rfl (lv_at hl 0 rfl) ?_
    refine mf_pos S E hI vt_1273 d_Mod_peek_23 ?_
    refine mp_tokenAt S E hI vt_1275 d_Mod_peek_26 (fun H locs hI => ?_)
    refine lv_aload_n hx hb d_Mod_peek_29 rfl (lv_at hl 0 rfl) ?_
    refine lv_aload_n hx hb d_Mod_peek_30 rfl (lv_at hl 0 rfl) ?_
    refine mf_pos S E hI vt_1273 d_Mod_peek_31 ?_
    refine mp_tokenEnd S E hI vt_1276 d_Mod_peek_34 (fun H locs hI => ?_)
    refine lv_aload_n hx hb d_Mod_peek_37 rfl (lv_at hl 0 rfl) ?_
    refine lv_iconst (v := 0) hx hb d_Mod_peek_38 (by decide) ?_
    refine mp_token S E hI vt_1274 d_Mod_peek_39 (fun H locs hI => ?_)
    refine lv_aload_n hx hb d_Mod_peek_42 rfl (lv_at hl 0 rfl) ?_
    refine mf_pos S E hI vt_1273 d_Mod_peek_43 ?_
    refine lv_aload_n hx hb d_Mod_peek_46 rfl (lv_at hl 0 rfl) ?_
    refine mf_size S E hI vt_1268 d_Mod_peek_47 ?_
    refine lv_icmp_ne (tgt := 55) hx hb d_Mod_peek_50 (by decide) (fun c4 => ?_) (fun c4 => ?_)
    · replace h := Eq.trans (if_neg c4).symm h
      refine lv_aload_n hx hb d_Mod_peek_55 rfl (lv_at hl 0 rfl) ?_
      refine mf_tape S E hI vt_1266 d_Mod_peek_56 ?_
      refine lv_aload_n hx hb d_Mod_peek_59 rfl (lv_at hl 0 rfl) ?_
      refine mf_pos S E hI vt_1273 d_Mod_peek_60 ?_
      by_cases c5 : (α2.1 5) < 0 ∨ 65536 ≤ ((α2.1 5) : Int32).toNatClampNeg
      · replace h := Eq.trans (if_pos c5).symm h
        cases h
      · replace h := Eq.trans (if_neg c5).symm h
        refine ml_tape S E hI c5 d_Mod_peek_63 ?_
        refine lv_istore_n (lv' := [(1, .int ((mSi (mSi (mSi (mSi α2 9 1) 7 (α2.1 5)) 8 (α2.1 5)) 6 0).2 0 ((α2.1 5) : Int32).toNatClampNeg)), (0, .ref (mad g 0))]) hx hb d_Mod_peek_64 rfl hl (by decide) rfl (fun ls hl => ?_)
        refine lv_iload_n hx hb d_Mod_peek_65 rfl (lv_at hl 0 rfl) ?_
        refine mg_pS (As := [.int ((mSi (mSi (mSi (mSi α2 9 1) 7 (α2.1 5)) 8 (α2.1 5)) 6 0).2 0 ((α2.1 5) : Int32).toNatClampNeg)]) (rest := []) (k_Mod_letter (l := l) (g := g) (α := (mSi (mSi (mSi (mSi α2 9 1) 7 (α2.1 5)) 8 (α2.1 5)) 6 0)) ((mSi (mSi (mSi (mSi α2 9 1) 7 (α2.1 5)) 8 (α2.1 5)) 6 0).2 0 ((α2.1 5) : Int32).toNatClampNeg)) S E hI kw_Mod_258 (Or.inl rfl) ⟨Nat.le_of_ble_eq_true rfl, Nat.le_of_ble_eq_true rfl⟩ rfl hl.1 rfl (Nat.le_of_ble_eq_true rfl) d_Mod_peek_66 ?_
        refine lv_if_eq (tgt := 180) hx hb d_Mod_peek_69 (by decide) (fun c6 => ?_) (fun c6 => ?_)
        · replace h := Eq.trans (if_pos c6).symm h
          refine lv_iload_n hx hb d_Mod_peek_180 rfl (lv_at hl 0 rfl) ?_
          refine mg_pS (As := [.int ((mSi (mSi (mSi (mSi α2 9 1) 7 (α2.1 5)) 8 (α2.1 5)) 6 0).2 0 ((α2.1 5) : Int32).toNatClampNeg)]) (rest := []) (k_Mod_digit (l := l) (g := g) (α := (mSi (mSi (mSi (mSi α2 9 1) 7 (α2.1 5)) 8 (α2.1 5)) 6 0)) ((mSi (mSi (mSi (mSi α2 9 1) 7 (α2.1 5)) 8 (α2.1 5)) 6 0).2 0 ((α2.1 5) : Int32).toNatClampNeg)) S E hI kw_Mod_262 (Or.inl rfl) ⟨Nat.le_of_ble_eq_true rfl, Nat.le_of_ble_eq_true rfl⟩ rfl hl.1 rfl (Nat.le_of_ble_eq_true rfl) d_Mod_peek_181 ?_
          refine lv_if_eq (tgt := 251) hx hb d_Mod_peek_184 (by decide) (fun c7 => ?_) (fun c7 => ?_)
          · replace h := Eq.trans (if_pos c7).symm h
            refine lv_aload_n hx hb d_Mod_peek_251 rfl (lv_at hl 1 rfl) ?_
            refine lv_aload_n hx hb d_Mod_peek_252 rfl (lv_at hl 1 rfl) ?_
            refine mf_pos S E hI vt_1273 d_Mod_peek_253 ?_
            refine lv_iconst (v := 1) hx hb d_Mod_peek_256 (by decide) ?_
            refine lv_iadd hx hb d_Mod_peek_257 ?_
            refine mp_tokenEnd S E hI vt_1276 d_Mod_peek_258 (fun H locs hI => ?_)
            refine lv_aload_n hx hb d_Mod_peek_261 rfl (lv_at hl 1 rfl) ?_
            refine lv_iload_n hx hb d_Mod_peek_262 rfl (lv_at hl 0 rfl) ?_
            refine lv_aload_n hx hb d_Mod_peek_263 rfl (lv_at hl 1 rfl) ?_
            refine lv_aload_n hx hb d_Mod_peek_264 rfl (lv_at hl 1 rfl) ?_
            refine mf_pos S E hI vt_1273 d_Mod_peek_265 ?_
            refine lv_iconst (v := 1) hx hb d_Mod_peek_268 (by decide) ?_
            refine lv_iadd hx hb d_Mod_peek_269 ?_
            obtain ⟨v8, e9, h⟩ := Option.bind_eq_some_iff.mp h
            refine mg_p (As := [.int ((α2.1 5) + 1)]) (rest := [.int ((mSi (mSi (mSi (mSi α2 9 1) 7 (α2.1 5)) 8 (α2.1 5)) 6 0).2 0 ((α2.1 5) : Int32).toNatClampNeg), .ref (mad g 0)]) ((k_Mod_byteAt (l := l) (g := g) (α := (mSi (mSi (mSi (mSi (mSi α2 9 1) 7 (α2.1 5)) 8 (α2.1 5)) 6 0) 8 ((α2.1 5) + 1))) N ((α2.1 5) + 1)) _ e9) S E hI kw_Mod_265 (Or.inl rfl) ⟨Nat.le_of_ble_eq_true rfl, Nat.le_of_ble_eq_true rfl⟩ (mv_Mod E hI) rfl hl.1 rfl (Nat.le_of_ble_eq_true rfl) d_Mod_peek_270 rfl ?_
            refine mg_pS (As := [.int ((mSi (mSi (mSi (mSi α2 9 1) 7 (α2.1 5)) 8 (α2.1 5)) 6 0).2 0 ((α2.1 5) : Int32).toNatClampNeg), .int v8]) (rest := [.ref (mad g 0)]) (k_Mod_sign (l := l) (g := g) (α := (mSi (mSi (mSi (mSi (mSi α2 9 1) 7 (α2.1 5)) 8 (α2.1 5)) 6 0) 8 ((α2.1 5) + 1))) ((mSi (mSi (mSi (mSi α2 9 1) 7 (α2.1 5)) 8 (α2.1 5)) 6 0).2 0 ((α2.1 5) : Int32).toNatClampNeg) v8) S E hI kw_Mod_269 (Or.inl rfl) ⟨Nat.le_of_ble_eq_true rfl, Nat.le_of_ble_eq_true rfl⟩ rfl hl.1 rfl (Nat.le_of_ble_eq_true rfl) d_Mod_peek_273 ?_
            refine mp_token S E hI vt_1274 d_Mod_peek_276 (fun H locs hI => ?_)
            refine lv_aload_n hx hb d_Mod_peek_279 rfl (lv_at hl 1 rfl) ?_
            refine mf_token S E hI vt_1274 d_Mod_peek_280 ?_
            refine lv_sipush (v := 299) hx hb d_Mod_peek_283 (by decide) ?_
            refine lv_icmp_le (tgt := 299) hx hb d_Mod_peek_286 (by decide) (fun c10 => ?_) (fun c10 => ?_)
            · replace h := Eq.trans (if_pos c10).symm h
              refine lv_aload_n hx hb d_Mod_peek_299 rfl (lv_at hl 1 rfl) ?_
              refine mf_token S E hI vt_1274 d_Mod_peek_300 ?_
              exact mc_iret (w := (f_Mod_sign ((mSi (mSi (mSi (mSi α2 9 1) 7 (α2.1 5)) 8 (α2.1 5)) 6 0).2 0 ((α2.1 5) : Int32).toNatClampNeg) v8 (mSi (mSi (mSi (mSi (mSi α2 9 1) 7 (α2.1 5)) 8 (α2.1 5)) 6 0) 8 ((α2.1 5) + 1)))) hx hb hr rfl hlocks E hI h d_Mod_peek_303
            · replace h := Eq.trans (if_neg c10).symm h
              refine lv_aload_n hx hb d_Mod_peek_289 rfl (lv_at hl 1 rfl) ?_
              refine lv_dup hx hb d_Mod_peek_290 rfl ?_
              refine mf_tokenEnd S E hI vt_1276 d_Mod_peek_291 ?_
              refine lv_iconst (v := 1) hx hb d_Mod_peek_294 (by decide) ?_
              refine lv_iadd hx hb d_Mod_peek_295 ?_
              refine mp_tokenEnd S E hI vt_1276 d_Mod_peek_296 (fun H locs hI => ?_)
              refine lv_aload_n hx hb d_Mod_peek_299 rfl (lv_at hl 1 rfl) ?_
              refine mf_token S E hI vt_1274 d_Mod_peek_300 ?_
              exact mc_iret (w := (f_Mod_sign ((mSi (mSi (mSi (mSi α2 9 1) 7 (α2.1 5)) 8 (α2.1 5)) 6 0).2 0 ((α2.1 5) : Int32).toNatClampNeg) v8 (mSi (mSi (mSi (mSi (mSi α2 9 1) 7 (α2.1 5)) 8 (α2.1 5)) 6 0) 8 ((α2.1 5) + 1)))) hx hb hr rfl hlocks E hI h d_Mod_peek_303
          · replace h := Eq.trans (if_neg c7).symm h
            have L187 : ∀ (n187 : Nat)  (β187 : mS) (H : Heap) (locs : List Loc) (ls : Array Slot), f_Mod_peek_187 N n187 β187 = some x → mI g A s β187 H locs → lv_has ls 2 [(0, .ref (mad g 0))] → W p l e (mR (2) (22)) s m ([.ref (mad g 0)]).toArray below meth c H locs 0 0 (vEQ below (mQ g A (mQr x)) ([.ref (mad g 0)]).toArray s A) (F0 m 187 ls []) := by
              intro n187
              induction n187 with
              | zero => intro  β187 H locs ls h hI hl; rw [f_Mod_peek_187] at h; cases h
              | succ n187 ih187 =>
                intro  β187 H locs ls h hI hl
                rw [f_Mod_peek_187] at h
                have J226 : ∀ (γ : mS) (H : Heap) (locs : List Loc) (ls : Array Slot), f_Mod_peek_j226 N γ = some x → mI g A s γ H locs → lv_has ls 2 [(0, .ref (mad g 0))] → W p l e (mR (2) (22)) s m ([.ref (mad g 0)]).toArray below meth c H locs 0 0 (vEQ below (mQ g A (mQr x)) ([.ref (mad g 0)]).toArray s A) (F0 m 226 ls []) := by
                  intro  γ H locs ls h hI hl
                  unfold f_Mod_peek_j226 at h
                  refine lv_aload_n hx hb d_Mod_peek_226 rfl (lv_at hl 0 rfl) ?_
                  refine lv_aload_n hx hb d_Mod_peek_227 rfl (lv_at hl 0 rfl) ?_
                  refine mf_tokenEnd S E hI vt_1276 d_Mod_peek_228 ?_
                  refine lv_aload_n hx hb d_Mod_peek_231 rfl (lv_at hl 0 rfl) ?_
                  refine mf_pos S E hI vt_1273 d_Mod_peek_232 ?_
                  refine lv_isub hx hb d_Mod_peek_235 ?_
                  refine lv_iconst (v := 4) hx hb d_Mod_peek_236 (by decide) ?_
                  refine lv_icmp_le (tgt := 244) hx hb d_Mod_peek_237 (by decide) (fun c12 => ?_) (fun c12 => ?_)
                  · replace h := Eq.trans (if_pos c12).symm h
                    refine lv_iconst (v := 2) hx hb d_Mod_peek_244 (by decide) ?_
                    refine mp_token S E hI vt_1274 d_Mod_peek_245 (fun H locs hI => ?_)
                    refine lv_goto (tgt := 299) hx hb d_Mod_peek_248 (by decide) ?_
                    refine lv_aload_n hx hb d_Mod_peek_299 rfl (lv_at hl 0 rfl) ?_
                    refine mf_token S E hI vt_1274 d_Mod_peek_300 ?_
                    exact mc_iret (w := 2) hx hb hr rfl hlocks E hI h d_Mod_peek_303
                  · replace h := Eq.trans (if_neg c12).symm h
                    refine lv_iconst (v := 3) hx hb d_Mod_peek_240 (by decide) ?_
                    refine lv_goto (tgt := 245) hx hb d_Mod_peek_241 (by decide) ?_
                    refine mp_token S E hI vt_1274 d_Mod_peek_245 (fun H locs hI => ?_)
                    refine lv_goto (tgt := 299) hx hb d_Mod_peek_248 (by decide) ?_
                    refine lv_aload_n hx hb d_Mod_peek_299 rfl (lv_at hl 0 rfl) ?_
                    refine mf_token S E hI vt_1274 d_Mod_peek_300 ?_
                    exact mc_iret (w := 3) hx hb hr rfl hlocks E hI h d_Mod_peek_303
                refine lv_aload_n hx hb d_Mod_peek_187 rfl (lv_at hl 0 rfl) ?_
                refine mf_tokenEnd S E hI vt_1276 d_Mod_peek_188 ?_
                refine lv_aload_n hx hb d_Mod_peek_191 rfl (lv_at hl 0 rfl) ?_
                refine mf_size S E hI vt_1268 d_Mod_peek_192 ?_
                refine lv_icmp_ge (tgt := 226) hx hb d_Mod_peek_195 (by decide) (fun c11 => ?_) (fun c11 => ?_)
                · replace h := Eq.trans (if_pos c11).symm h
                  exact J226  _ _ _ _ h hI (lv_sub hl [0] rfl)
                · replace h := Eq.trans (if_neg c11).symm h
                  refine lv_aload_n hx hb d_Mod_peek_198 rfl (lv_at hl 0 rfl) ?_
                  refine mf_tape S E hI vt_1266 d_Mod_peek_199 ?_
                  refine lv_aload_n hx hb d_Mod_peek_202 rfl (lv_at hl 0 rfl) ?_
                  refine mf_tokenEnd S E hI vt_1276 d_Mod_peek_203 ?_
                  by_cases c13 : (β187.1 8) < 0 ∨ 65536 ≤ ((β187.1 8) : Int32).toNatClampNeg
                  · replace h := Eq.trans (if_pos c13).symm h
                    cases h
                  · replace h := Eq.trans (if_neg c13).symm h
                    refine ml_tape S E hI c13 d_Mod_peek_206 ?_
                    refine mg_pS (As := [.int (β187.2 0 ((β187.1 8) : Int32).toNatClampNeg)]) (rest := []) (k_Mod_digit (l := l) (g := g) (α := β187) (β187.2 0 ((β187.1 8) : Int32).toNatClampNeg)) S E hI kw_Mod_262 (Or.inl rfl) ⟨Nat.le_of_ble_eq_true rfl, Nat.le_of_ble_eq_true rfl⟩ rfl hl.1 rfl (Nat.le_of_ble_eq_true rfl) d_Mod_peek_207 ?_
                    refine lv_if_eq (tgt := 226) hx hb d_Mod_peek_210 (by decide) (fun c14 => ?_) (fun c14 => ?_)
                    · replace h := Eq.trans (if_pos c14).symm h
                      exact J226  _ _ _ _ h hI (lv_sub hl [0] rfl)
                    · replace h := Eq.trans (if_neg c14).symm h
                      refine lv_aload_n hx hb d_Mod_peek_213 rfl (lv_at hl 0 rfl) ?_
                      refine lv_dup hx hb d_Mod_peek_214 rfl ?_
                      refine mf_tokenEnd S E hI vt_1276 d_Mod_peek_215 ?_
                      refine lv_iconst (v := 1) hx hb d_Mod_peek_218 (by decide) ?_
                      refine lv_iadd hx hb d_Mod_peek_219 ?_
                      refine mp_tokenEnd S E hI vt_1276 d_Mod_peek_220 (fun H locs hI => ?_)
                      refine lv_goto (tgt := 187) hx hb d_Mod_peek_223 (by decide) ?_
                      exact ih187  _ _ _ _ h hI (lv_sub hl [0] rfl)
            exact L187 N  _ _ _ _ h hI (lv_sub hl [1] rfl)
        · replace h := Eq.trans (if_neg c6).symm h
          have L72 : ∀ (n72 : Nat)  (β72 : mS) (H : Heap) (locs : List Loc) (ls : Array Slot), f_Mod_peek_72 N n72 β72 = some x → mI g A s β72 H locs → lv_has ls 2 [(0, .ref (mad g 0))] → W p l e (mR (2) (22)) s m ([.ref (mad g 0)]).toArray below meth c H locs 0 0 (vEQ below (mQ g A (mQr x)) ([.ref (mad g 0)]).toArray s A) (F0 m 72 ls []) := by
            intro n72
            induction n72 with
            | zero => intro  β72 H locs ls h hI hl; rw [f_Mod_peek_72] at h; cases h
            | succ n72 ih72 =>
              intro  β72 H locs ls h hI hl
              rw [f_Mod_peek_72] at h
              have J154 : ∀ (γ : mS) (H : Heap) (locs : List Loc) (ls : Array Slot), f_Mod_peek_j154 N γ = some x → mI g A s γ H locs → lv_has ls 2 [(0, .ref (mad g 0))] → W p l e (mR (2) (22)) s m ([.ref (mad g 0)]).toArray below meth c H locs 0 0 (vEQ below (mQ g A (mQr x)) ([.ref (mad g 0)]).toArray s A) (F0 m 154 ls []) := by
                intro  γ H locs ls h hI hl
                unfold f_Mod_peek_j154 at h
                refine lv_aload_n hx hb d_Mod_peek_154 rfl (lv_at hl 0 rfl) ?_
                refine lv_aload_n hx hb d_Mod_peek_155 rfl (lv_at hl 0 rfl) ?_
                refine mf_tokenEnd S E hI vt_1276 d_Mod_peek_156 ?_
                refine lv_aload_n hx hb d_Mod_peek_159 rfl (lv_at hl 0 rfl) ?_
                refine mf_pos S E hI vt_1273 d_Mod_peek_160 ?_
                refine lv_isub hx hb d_Mod_peek_163 ?_
                refine lv_bipush (v := 31) hx hb d_Mod_peek_164 (by decide) ?_
                refine lv_icmp_le (tgt := 173) hx hb d_Mod_peek_166 (by decide) (fun c16 => ?_) (fun c16 => ?_)
                · replace h := Eq.trans (if_pos c16).symm h
                  refine lv_iconst (v := 1) hx hb d_Mod_peek_173 (by decide) ?_
                  refine mp_token S E hI vt_1274 d_Mod_peek_174 (fun H locs hI => ?_)
                  refine lv_goto (tgt := 299) hx hb d_Mod_peek_177 (by decide) ?_
                  refine lv_aload_n hx hb d_Mod_peek_299 rfl (lv_at hl 0 rfl) ?_
                  refine mf_token S E hI vt_1274 d_Mod_peek_300 ?_
                  exact mc_iret (w := 1) hx hb hr rfl hlocks E hI h d_Mod_peek_303
                · replace h := Eq.trans (if_neg c16).symm h
                  refine lv_iconst (v := 3) hx hb d_Mod_peek_169 (by decide) ?_
                  refine lv_goto (tgt := 174) hx hb d_Mod_peek_170 (by decide) ?_
                  refine mp_token S E hI vt_1274 d_Mod_peek_174 (fun H locs hI => ?_)
                  refine lv_goto (tgt := 299) hx hb d_Mod_peek_177 (by decide) ?_
                  refine lv_aload_n hx hb d_Mod_peek_299 rfl (lv_at hl 0 rfl) ?_
                  refine mf_token S E hI vt_1274 d_Mod_peek_300 ?_
                  exact mc_iret (w := 3) hx hb hr rfl hlocks E hI h d_Mod_peek_303
              have J141 : ∀ (γ : mS) (H : Heap) (locs : List Loc) (ls : Array Slot), f_Mod_peek_j141 N (f_Mod_peek_72 N n72) γ = some x → mI g A s γ H locs → lv_has ls 2 [(0, .ref (mad g 0))] → W p l e (mR (2) (22)) s m ([.ref (mad g 0)]).toArray below meth c H locs 0 0 (vEQ below (mQ g A (mQr x)) ([.ref (mad g 0)]).toArray s A) (F0 m 141 ls []) := by
                intro  γ H locs ls h hI hl
                unfold f_Mod_peek_j141 at h
                refine lv_aload_n hx hb d_Mod_peek_141 rfl (lv_at hl 0 rfl) ?_
                refine lv_dup hx hb d_Mod_peek_142 rfl ?_
                refine mf_tokenEnd S E hI vt_1276 d_Mod_peek_143 ?_
                refine lv_iconst (v := 1) hx hb d_Mod_peek_146 (by decide) ?_
                refine lv_iadd hx hb d_Mod_peek_147 ?_
                refine mp_tokenEnd S E hI vt_1276 d_Mod_peek_148 (fun H locs hI => ?_)
                refine lv_goto (tgt := 72) hx hb d_Mod_peek_151 (by decide) ?_
                exact ih72  _ _ _ _ h hI (lv_sub hl [0] rfl)
              refine lv_aload_n hx hb d_Mod_peek_72 rfl (lv_at hl 0 rfl) ?_
              refine mf_tokenEnd S E hI vt_1276 d_Mod_peek_73 ?_
              refine lv_aload_n hx hb d_Mod_peek_76 rfl (lv_at hl 0 rfl) ?_
              refine mf_size S E hI vt_1268 d_Mod_peek_77 ?_
              refine lv_icmp_ge (tgt := 154) hx hb d_Mod_peek_80 (by decide) (fun c15 => ?_) (fun c15 => ?_)
              · replace h := Eq.trans (if_pos c15).symm h
                exact J154  _ _ _ _ h hI (lv_sub hl [0] rfl)
              · replace h := Eq.trans (if_neg c15).symm h
                refine lv_aload_n hx hb d_Mod_peek_83 rfl (lv_at hl 0 rfl) ?_
                refine mf_tape S E hI vt_1266 d_Mod_peek_84 ?_
                refine lv_aload_n hx hb d_Mod_peek_87 rfl (lv_at hl 0 rfl) ?_
                refine mf_tokenEnd S E hI vt_1276 d_Mod_peek_88 ?_
                by_cases c17 : (β72.1 8) < 0 ∨ 65536 ≤ ((β72.1 8) : Int32).toNatClampNeg
                · replace h := Eq.trans (if_pos c17).symm h
                  cases h
                · replace h := Eq.trans (if_neg c17).symm h
                  refine ml_tape S E hI c17 d_Mod_peek_91 ?_
                  refine mg_pS (As := [.int (β72.2 0 ((β72.1 8) : Int32).toNatClampNeg)]) (rest := []) (k_Mod_letter (l := l) (g := g) (α := β72) (β72.2 0 ((β72.1 8) : Int32).toNatClampNeg)) S E hI kw_Mod_258 (Or.inl rfl) ⟨Nat.le_of_ble_eq_true rfl, Nat.le_of_ble_eq_true rfl⟩ rfl hl.1 rfl (Nat.le_of_ble_eq_true rfl) d_Mod_peek_92 ?_
                  refine lv_if_ne (tgt := 141) hx hb d_Mod_peek_95 (by decide) (fun c18 => ?_) (fun c18 => ?_)
                  · replace h := Eq.trans (if_neg c18).symm h
                    exact J141  _ _ _ _ h hI (lv_sub hl [0] rfl)
                  · replace h := Eq.trans (if_pos c18).symm h
                    refine lv_aload_n hx hb d_Mod_peek_98 rfl (lv_at hl 0 rfl) ?_
                    refine mf_tape S E hI vt_1266 d_Mod_peek_99 ?_
                    refine lv_aload_n hx hb d_Mod_peek_102 rfl (lv_at hl 0 rfl) ?_
                    refine mf_tokenEnd S E hI vt_1276 d_Mod_peek_103 ?_
                    by_cases c19 : (β72.1 8) < 0 ∨ 65536 ≤ ((β72.1 8) : Int32).toNatClampNeg
                    · replace h := Eq.trans (if_pos c19).symm h
                      cases h
                    · replace h := Eq.trans (if_neg c19).symm h
                      refine ml_tape S E hI c19 d_Mod_peek_106 ?_
                      refine mg_pS (As := [.int (β72.2 0 ((β72.1 8) : Int32).toNatClampNeg)]) (rest := []) (k_Mod_digit (l := l) (g := g) (α := β72) (β72.2 0 ((β72.1 8) : Int32).toNatClampNeg)) S E hI kw_Mod_262 (Or.inl rfl) ⟨Nat.le_of_ble_eq_true rfl, Nat.le_of_ble_eq_true rfl⟩ rfl hl.1 rfl (Nat.le_of_ble_eq_true rfl) d_Mod_peek_107 ?_
                      refine lv_if_ne (tgt := 141) hx hb d_Mod_peek_110 (by decide) (fun c20 => ?_) (fun c20 => ?_)
                      · replace h := Eq.trans (if_neg c20).symm h
                        exact J141  _ _ _ _ h hI (lv_sub hl [0] rfl)
                      · replace h := Eq.trans (if_pos c20).symm h
                        refine lv_aload_n hx hb d_Mod_peek_113 rfl (lv_at hl 0 rfl) ?_
                        refine mf_tape S E hI vt_1266 d_Mod_peek_114 ?_
                        refine lv_aload_n hx hb d_Mod_peek_117 rfl (lv_at hl 0 rfl) ?_
                        refine mf_tokenEnd S E hI vt_1276 d_Mod_peek_118 ?_
                        by_cases c21 : (β72.1 8) < 0 ∨ 65536 ≤ ((β72.1 8) : Int32).toNatClampNeg
                        · replace h := Eq.trans (if_pos c21).symm h
                          cases h
                        · replace h := Eq.trans (if_neg c21).symm h
                          refine ml_tape S E hI c21 d_Mod_peek_121 ?_
                          refine lv_bipush (v := 95) hx hb d_Mod_peek_122 (by decide) ?_
                          refine lv_icmp_eq (tgt := 141) hx hb d_Mod_peek_124 (by decide) (fun c22 => ?_) (fun c22 => ?_)
                          · replace h := Eq.trans (if_pos c22).symm h
                            exact J141  _ _ _ _ h hI (lv_sub hl [0] rfl)
                          · replace h := Eq.trans (if_neg c22).symm h
                            refine lv_aload_n hx hb d_Mod_peek_127 rfl (lv_at hl 0 rfl) ?_
                            refine mf_tape S E hI vt_1266 d_Mod_peek_128 ?_
                            refine lv_aload_n hx hb d_Mod_peek_131 rfl (lv_at hl 0 rfl) ?_
                            refine mf_tokenEnd S E hI vt_1276 d_Mod_peek_132 ?_
                            by_cases c23 : (β72.1 8) < 0 ∨ 65536 ≤ ((β72.1 8) : Int32).toNatClampNeg
                            · replace h := Eq.trans (if_pos c23).symm h
                              cases h
                            · replace h := Eq.trans (if_neg c23).symm h
                              refine ml_tape S E hI c23 d_Mod_peek_135 ?_
                              refine lv_bipush (v := 39) hx hb d_Mod_peek_136 (by decide) ?_
                              refine lv_icmp_ne (tgt := 154) hx hb d_Mod_peek_138 (by decide) (fun c24 => ?_) (fun c24 => ?_)
                              · replace h := Eq.trans (if_neg c24).symm h
                                exact J154  _ _ _ _ h hI (lv_sub hl [0] rfl)
                              · replace h := Eq.trans (if_pos c24).symm h
                                exact J141  _ _ _ _ h hI (lv_sub hl [0] rfl)
          exact L72 N  _ _ _ _ h hI (lv_sub hl [1] rfl)
    · replace h := Eq.trans (if_pos c4).symm h
      refine lv_iconst (v := 0) hx hb d_Mod_peek_53 (by decide) ?_
      exact mc_iret (w := 0) hx hb hr rfl hlocks E hI h d_Mod_peek_54
  · replace h := Eq.trans (if_neg c1).symm h
    refine lv_aload_n hx hb d_Mod_peek_7 rfl (lv_at hl 0 rfl) ?_
    refine mf_token S E hI vt_1274 d_Mod_peek_8 ?_
    exact mc_iret (w := (α.1 6)) hx hb hr rfl hlocks E hI h d_Mod_peek_11
theorem kw_Mod_273 : kWv "FamilyKernelModel" 273 "FamilyKernelModel" y_Mod_peek b_Mod_peek 2 (some .int) 0 := ⟨vt_1355, vt_1356, vt_1357, vt_1349, vt_1358, by decide, by decide, by decide +kernel⟩
def f_Mod_take (N : Nat)  (α : mS) : Option (kO × mS) := mBi (f_Mod_peek N α) fun v3 α1 => (some (some none, (mSi (mSi α1 5 (α1.1 8)) 9 0)))
set_option maxHeartbeats 4000000 in
set_option maxRecDepth 100000 in
theorem k_Mod_take {l : Launch} {g : mG} {α : mS} (N : Nat)   : ∀ x, f_Mod_take N α = some x → mC l g y_Mod_take b_Mod_take 1 none (3) (43) [.ref (mad g 0)] α (mQr x) := by
  intro x h
  unfold f_Mod_take at h
  refine mc_ofW (by decide) (fun A p e s m args below meth c S hr hlocks hno hargs E hI => ?_)
  have hx := S.1
  have hb := S.2.1
  have hown := S.2.2.2.1
  have hT := S.2.2.2.2
  subst hargs
  have hl := lv_entry ([.ref (mad g 0)]) (n := 1) (Nat.le_of_ble_eq_true rfl)
  rw [lg_entry_eq]
  generalize (lg_sl ([.ref (mad g 0)]) ++ List.replicate (1 - (lg_sl ([.ref (mad g 0)])).length) Slot.unset).toArray = ls at hl ⊢
  have hl : lv_has ls 1 [(0, .ref (mad g 0))] := hl
  refine lv_aload_n hx hb d_Mod_take_0 rfl (lv_at hl 0 rfl) ?_
  refine mg_cI (As := []) (rest := []) h (k_Mod_peek (l := l) (g := g) (α := α) N) S hlocks hno E hI kw_Mod_273 ⟨Nat.le_of_ble_eq_true rfl, Nat.le_of_ble_eq_true rfl⟩ (mv_Mod E hI) rfl hl.1 rfl (Nat.le_of_ble_eq_true rfl) d_Mod_take_1 (fun v3 α1 H locs e2 h hI => ?_)
  refine lv_pop hx hb d_Mod_take_4 rfl ?_
  refine lv_aload_n hx hb d_Mod_take_5 rfl (lv_at hl 0 rfl) ?_
  refine lv_aload_n hx hb d_Mod_take_6 rfl (lv_at hl 0 rfl) ?_
  refine mf_tokenEnd S E hI vt_1276 d_Mod_take_7 ?_
  refine mp_pos S E hI vt_1273 d_Mod_take_10 (fun H locs hI => ?_)
  refine lv_aload_n hx hb d_Mod_take_13 rfl (lv_at hl 0 rfl) ?_
  refine lv_iconst (v := 0) hx hb d_Mod_take_14 (by decide) ?_
  refine mp_seen S E hI (by decide) (by decide) vt_1277 d_Mod_take_15 (fun H locs hI => ?_)
  exact mc_vret hx hb hr hlocks E hI h d_Mod_take_18
def f_Mod_nest (N : Nat) (a1 : Int32) (α : mS) : Option (kO × mS) := if 100 ≤ a1 then (mBi (f_Mod_peek N α) fun v4 α2 => (some (none, (mTh α2 3 (α2.1 7))))) else (some (some (some (a1 + 1)), α))
set_option maxHeartbeats 4000000 in
set_option maxRecDepth 100000 in
theorem k_Mod_nest {l : Launch} {g : mG} {α : mS} (N : Nat) (a1 : Int32)  : ∀ x, f_Mod_nest N a1 α = some x → mC l g y_Mod_nest b_Mod_nest 2 (some .int) (41) (1222) [.ref (mad g 0), .int a1] α (mQr x) := by
  intro x h
  unfold f_Mod_nest at h
  refine mc_ofW (by decide) (fun A p e s m args below meth c S hr hlocks hno hargs E hI => ?_)
  have hx := S.1
  have hb := S.2.1
  have hown := S.2.2.2.1
  have hT := S.2.2.2.2
  subst hargs
  have hl := lv_entry ([.ref (mad g 0), .int a1]) (n := 2) (Nat.le_of_ble_eq_true rfl)
  rw [lg_entry_eq]
  generalize (lg_sl ([.ref (mad g 0), .int a1]) ++ List.replicate (2 - (lg_sl ([.ref (mad g 0), .int a1])).length) Slot.unset).toArray = ls at hl ⊢
  have hl : lv_has ls 2 [(0, .ref (mad g 0)), (1, .int a1)] := hl
  refine lv_iload_n hx hb d_Mod_nest_0 rfl (lv_at hl 1 rfl) ?_
  refine lv_bipush (v := 100) hx hb d_Mod_nest_1 (by decide) ?_
  refine lv_icmp_ge (tgt := 10) hx hb d_Mod_nest_3 (by decide) (fun c1 => ?_) (fun c1 => ?_)
  · replace h := Eq.trans (if_pos c1).symm h
    refine lv_aload_n hx hb d_Mod_nest_10 rfl (lv_at hl 0 rfl) ?_
    refine mg_cI (As := []) (rest := []) h (k_Mod_peek (l := l) (g := g) (α := α) N) S hlocks hno E hI kw_Mod_273 ⟨Nat.le_of_ble_eq_true rfl, Nat.le_of_ble_eq_true rfl⟩ (mv_Mod E hI) rfl hl.1 rfl (Nat.le_of_ble_eq_true rfl) d_Mod_nest_11 (fun v4 α2 H locs e3 h hI => ?_)
    refine lv_pop hx hb d_Mod_nest_14 rfl ?_
    refine mg_new S E hI vt_1457 d_Mod_nest_15 (fun q H hN => ?_)
    have hI := hN.i
    refine lv_dup hx hb d_Mod_nest_18 rfl ?_
    refine lv_iconst (v := 3) hx hb d_Mod_nest_19 (by decide) ?_
    refine lv_aload_n hx hb d_Mod_nest_20 rfl (lv_at hl 0 rfl) ?_
    refine mf_tokenAt S E hI vt_1275 d_Mod_nest_21 ?_
    refine mg_init S E hN vt_1460 hl.1 ⟨Nat.le_of_ble_eq_true rfl, Nat.le_of_ble_eq_true rfl⟩ (Nat.le_of_ble_eq_true rfl) d_Mod_nest_24 (fun H locs hN => ?_)
    exact mg_athrow S hlocks hno E hN h d_Mod_nest_27
  · replace h := Eq.trans (if_neg c1).symm h
    refine lv_iload_n hx hb d_Mod_nest_6 rfl (lv_at hl 1 rfl) ?_
    refine lv_iconst (v := 1) hx hb d_Mod_nest_7 (by decide) ?_
    refine lv_iadd hx hb d_Mod_nest_8 ?_
    exact mc_iret (w := (a1 + 1)) hx hb hr rfl hlocks E hI h d_Mod_nest_9
theorem kw_Mod_284 : kWv "FamilyKernelModel" 284 "java/lang/String" y_Str_length b_Str_length 1 (some .int) 0 := ⟨vt_1407, vt_304, vt_305, vt_303, vt_306, by decide, by decide, by decide +kernel⟩
theorem kw_Mod_289 : kWv "FamilyKernelModel" 289 "java/lang/String" y_Str_charAt b_Str_charAt 2 (some .char) 1 := ⟨vt_1408, vt_308, vt_309, vt_303, vt_310, by decide, by decide, by decide +kernel⟩
def f_Mod_is_28 (N : Nat) (r1 : Nat) : Nat → Int32 → mS → Option (kO × mS)
  | 0, _, _ => none
  | n + 1, x2_28, β28 => if (sLn r1) ≤ x2_28 then (some (some (some 1), β28)) else (if ((β28.1 7) + x2_28) < 0 ∨ 65536 ≤ (((β28.1 7) + x2_28) : Int32).toNatClampNeg then none else (((sCh r1 x2_28)).bind fun v8 => (if (β28.2 0 (((β28.1 7) + x2_28) : Int32).toNatClampNeg) = v8 then (f_Mod_is_28 N r1 n (x2_28 + 1) β28) else (some (some (some 0), β28)))))
def f_Mod_is (N : Nat) (r1 : Nat) (α : mS) : Option (kO × mS) := mBi (f_Mod_peek N α) fun v3 α1 => (if v3 = 1 then (if ((α1.1 8) - (α1.1 7)) = (sLn r1) then (f_Mod_is_28 N r1 N 0 α1) else (some (some (some 0), α1))) else (some (some (some 0), α1)))
set_option maxHeartbeats 4000000 in
set_option maxRecDepth 100000 in
theorem k_Mod_is {l : Launch} {g : mG} {α : mS} (N : Nat) (r1 : Nat) (hr1 : r1 < 51) : ∀ x, f_Mod_is N r1 α = some x → mC l g y_Mod_is b_Mod_is 3 (some .boolean) (5) (111) [.ref (mad g 0), .ref (kst g.1 r1)] α (mQr x) := by
  intro x h
  unfold f_Mod_is at h
  refine mc_ofW (by decide) (fun A p e s m args below meth c S hr hlocks hno hargs E hI => ?_)
  have hx := S.1
  have hb := S.2.1
  have hown := S.2.2.2.1
  have hT := S.2.2.2.2
  subst hargs
  have hl := lv_entry ([.ref (mad g 0), .ref (kst g.1 r1)]) (n := 3) (Nat.le_of_ble_eq_true rfl)
  rw [lg_entry_eq]
  generalize (lg_sl ([.ref (mad g 0), .ref (kst g.1 r1)]) ++ List.replicate (3 - (lg_sl ([.ref (mad g 0), .ref (kst g.1 r1)])).length) Slot.unset).toArray = ls at hl ⊢
  have hl : lv_has ls 3 [(0, .ref (mad g 0)), (1, .ref (kst g.1 r1))] := hl
  refine lv_aload_n hx hb d_Mod_is_0 rfl (lv_at hl 0 rfl) ?_
  refine mg_cI (As := []) (rest := []) h (k_Mod_peek (l := l) (g := g) (α := α) N) S hlocks hno E hI kw_Mod_273 ⟨Nat.le_of_ble_eq_true rfl, Nat.le_of_ble_eq_true rfl⟩ (mv_Mod E hI) rfl hl.1 rfl (Nat.le_of_ble_eq_true rfl) d_Mod_is_1 (fun v3 α1 H locs e2 h hI => ?_)
  refine lv_iconst (v := 1) hx hb d_Mod_is_4 (by decide) ?_
  refine lv_icmp_ne (tgt := 24) hx hb d_Mod_is_5 (by decide) (fun c4 => ?_) (fun c4 => ?_)
  · replace h := Eq.trans (if_neg c4).symm h
    refine lv_iconst (v := 0) hx hb d_Mod_is_24 (by decide) ?_
    exact mc_iret (w := 0) hx hb hr (by decide) hlocks E hI h d_Mod_is_25
  · replace h := Eq.trans (if_pos c4).symm h
    refine lv_aload_n hx hb d_Mod_is_8 rfl (lv_at hl 0 rfl) ?_
    refine mf_tokenEnd S E hI vt_1276 d_Mod_is_9 ?_
    refine lv_aload_n hx hb d_Mod_is_12 rfl (lv_at hl 0 rfl) ?_
    refine mf_tokenAt S E hI vt_1275 d_Mod_is_13 ?_
    refine lv_isub hx hb d_Mod_is_16 ?_
    refine lv_aload_n hx hb d_Mod_is_17 rfl (lv_at hl 1 rfl) ?_
    refine mg_p (As := []) (rest := [.int ((α1.1 8) - (α1.1 7))]) (m_Str_length (l := l) (g := g) (α := α1) hr1) S E hI kw_Mod_284 (Or.inl rfl) ⟨Nat.le_of_ble_eq_true rfl, Nat.le_of_ble_eq_true rfl⟩ (mv_Str hr1 E hI) rfl hl.1 rfl (Nat.le_of_ble_eq_true rfl) d_Mod_is_18 rfl ?_
    refine lv_icmp_eq (tgt := 26) hx hb d_Mod_is_21 (by decide) (fun c5 => ?_) (fun c5 => ?_)
    · replace h := Eq.trans (if_pos c5).symm h
      refine lv_iconst (v := 0) hx hb d_Mod_is_26 (by decide) ?_
      refine lv_istore_n (lv' := [(2, .int 0), (0, .ref (mad g 0)), (1, .ref (kst g.1 r1))]) hx hb d_Mod_is_27 rfl hl (by decide) rfl (fun ls hl => ?_)
      have L28 : ∀ (n28 : Nat) (x2_28 : Int32) (β28 : mS) (H : Heap) (locs : List Loc) (ls : Array Slot), f_Mod_is_28 N r1 n28 x2_28 β28 = some x → mI g A s β28 H locs → lv_has ls 3 [(2, .int x2_28), (0, .ref (mad g 0)), (1, .ref (kst g.1 r1))] → W p l e (mR (5) (111)) s m ([.ref (mad g 0), .ref (kst g.1 r1)]).toArray below meth c H locs 0 0 (vEQ below (mQ g A (mQr x)) ([.ref (mad g 0), .ref (kst g.1 r1)]).toArray s A) (F0 m 28 ls []) := by
        intro n28
        induction n28 with
        | zero => intro x2_28 β28 H locs ls h hI hl; rw [f_Mod_is_28] at h; cases h
        | succ n28 ih28 =>
          intro x2_28 β28 H locs ls h hI hl
          rw [f_Mod_is_28] at h
          refine lv_iload_n hx hb d_Mod_is_28 rfl (lv_at hl 0 rfl) ?_
          refine lv_aload_n hx hb d_Mod_is_29 rfl (lv_at hl 2 rfl) ?_
          refine mg_p (As := []) (rest := [.int x2_28]) (m_Str_length (l := l) (g := g) (α := β28) hr1) S E hI kw_Mod_284 (Or.inl rfl) ⟨Nat.le_of_ble_eq_true rfl, Nat.le_of_ble_eq_true rfl⟩ (mv_Str hr1 E hI) rfl hl.1 rfl (Nat.le_of_ble_eq_true rfl) d_Mod_is_30 rfl ?_
          refine lv_icmp_ge (tgt := 63) hx hb d_Mod_is_33 (by decide) (fun c6 => ?_) (fun c6 => ?_)
          · replace h := Eq.trans (if_pos c6).symm h
            refine lv_iconst (v := 1) hx hb d_Mod_is_63 (by decide) ?_
            exact mc_iret (w := 1) hx hb hr (by decide) hlocks E hI h d_Mod_is_64
          · replace h := Eq.trans (if_neg c6).symm h
            refine lv_aload_n hx hb d_Mod_is_36 rfl (lv_at hl 1 rfl) ?_
            refine mf_tape S E hI vt_1266 d_Mod_is_37 ?_
            refine lv_aload_n hx hb d_Mod_is_40 rfl (lv_at hl 1 rfl) ?_
            refine mf_tokenAt S E hI vt_1275 d_Mod_is_41 ?_
            refine lv_iload_n hx hb d_Mod_is_44 rfl (lv_at hl 0 rfl) ?_
            refine lv_iadd hx hb d_Mod_is_45 ?_
            by_cases c7 : ((β28.1 7) + x2_28) < 0 ∨ 65536 ≤ (((β28.1 7) + x2_28) : Int32).toNatClampNeg
            · replace h := Eq.trans (if_pos c7).symm h
              cases h
            · replace h := Eq.trans (if_neg c7).symm h
              refine ml_tape S E hI c7 d_Mod_is_46 ?_
              refine lv_aload_n hx hb d_Mod_is_47 rfl (lv_at hl 2 rfl) ?_
              refine lv_iload_n hx hb d_Mod_is_48 rfl (lv_at hl 0 rfl) ?_
              obtain ⟨v8, e9, h⟩ := Option.bind_eq_some_iff.mp h
              refine mg_p (As := [.int x2_28]) (rest := [.int (β28.2 0 (((β28.1 7) + x2_28) : Int32).toNatClampNeg)]) ((m_Str_charAt (l := l) (g := g) (α := β28) hr1 x2_28) _ e9) S E hI kw_Mod_289 (Or.inl rfl) ⟨Nat.le_of_ble_eq_true rfl, Nat.le_of_ble_eq_true rfl⟩ (mv_Str hr1 E hI) rfl hl.1 rfl (Nat.le_of_ble_eq_true rfl) d_Mod_is_49 rfl ?_
              refine lv_icmp_eq (tgt := 57) hx hb d_Mod_is_52 (by decide) (fun c10 => ?_) (fun c10 => ?_)
              · replace h := Eq.trans (if_pos c10).symm h
                refine lv_iinc (v := (x2_28 + 1)) (lv' := [(2, .int (x2_28 + 1)), (0, .ref (mad g 0)), (1, .ref (kst g.1 r1))]) hx hb d_Mod_is_57 hl (k := 0) rfl rfl (by decide) rfl (fun ls hl => ?_)
                refine lv_goto (tgt := 28) hx hb d_Mod_is_60 (by decide) ?_
                exact ih28 (x2_28 + 1) _ _ _ _ h hI (lv_sub hl [0, 1, 2] rfl)
              · replace h := Eq.trans (if_neg c10).symm h
                refine lv_iconst (v := 0) hx hb d_Mod_is_55 (by decide) ?_
                exact mc_iret (w := 0) hx hb hr (by decide) hlocks E hI h d_Mod_is_56
      exact L28 N 0 _ _ _ _ h hI (lv_sub hl [0, 1, 2] rfl)
    · replace h := Eq.trans (if_neg c5).symm h
      refine lv_iconst (v := 0) hx hb d_Mod_is_24 (by decide) ?_
      exact mc_iret (w := 0) hx hb hr (by decide) hlocks E hI h d_Mod_is_25
def f_Mod_cant (N : Nat)  (α : mS) : Option mS := mBw (f_Mod_peek N α) fun v3 α1 => (some (mTh α1 1 (α1.1 7)))
set_option maxHeartbeats 4000000 in
set_option maxRecDepth 100000 in
theorem k_Mod_cant {l : Launch} {g : mG} {α : mS} (N : Nat)   : ∀ x, f_Mod_cant N α = some x → mCW l g y_Mod_cant b_Mod_cant 1 (some (.object "FamilyKernelModel$Wrong")) (41) (1222) [.ref (mad g 0)] α x := by
  intro x h
  unfold f_Mod_cant at h
  refine mw_ofW (by decide) (fun A p e s m args below meth c S hr hlocks hno hargs E hI => ?_)
  have hx := S.1
  have hb := S.2.1
  have hown := S.2.2.2.1
  have hT := S.2.2.2.2
  subst hargs
  have hl := lv_entry ([.ref (mad g 0)]) (n := 1) (Nat.le_of_ble_eq_true rfl)
  rw [lg_entry_eq]
  generalize (lg_sl ([.ref (mad g 0)]) ++ List.replicate (1 - (lg_sl ([.ref (mad g 0)])).length) Slot.unset).toArray = ls at hl ⊢
  have hl : lv_has ls 1 [(0, .ref (mad g 0))] := hl
  refine lv_aload_n hx hb d_Mod_cant_0 rfl (lv_at hl 0 rfl) ?_
  refine mg_cIw (As := []) (rest := []) h (k_Mod_peek (l := l) (g := g) (α := α) N) S hlocks hno E hI kw_Mod_273 ⟨Nat.le_of_ble_eq_true rfl, Nat.le_of_ble_eq_true rfl⟩ (mv_Mod E hI) rfl hl.1 rfl (Nat.le_of_ble_eq_true rfl) d_Mod_cant_1 (fun v3 α1 H locs e2 h hI => ?_)
  refine lv_pop hx hb d_Mod_cant_4 rfl ?_
  refine mg_new S E hI vt_1457 d_Mod_cant_5 (fun q H hN => ?_)
  have hI := hN.i
  refine lv_dup hx hb d_Mod_cant_8 rfl ?_
  refine lv_iconst (v := 1) hx hb d_Mod_cant_9 (by decide) ?_
  refine lv_aload_n hx hb d_Mod_cant_10 rfl (lv_at hl 0 rfl) ?_
  refine mf_tokenAt S E hI vt_1275 d_Mod_cant_11 ?_
  refine mg_init S E hN vt_1460 hl.1 ⟨Nat.le_of_ble_eq_true rfl, Nat.le_of_ble_eq_true rfl⟩ (Nat.le_of_ble_eq_true rfl) d_Mod_cant_14 (fun H locs hN => ?_)
  exact mg_aret hx hb hr rfl hlocks E hN h d_Mod_cant_17
