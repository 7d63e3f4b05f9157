def f_Mod_say_0 (N : Nat) (a1 : Int32) (α : mS) : Option (kO × mS) := if 65536 ≤ (α.1 1) then (some (some none, α)) else (if (α.1 1) < 0 ∨ 65536 ≤ ((α.1 1) : Int32).toNatClampNeg then none else (some (some none, (mSA (mSi α 1 ((α.1 1) + 1)) 1 (upd ((mSi α 1 ((α.1 1) + 1)).2 1) ((α.1 1) : Int32).toNatClampNeg (vp_nar .byte (a1).toInt8.toInt32))))))
set_option maxHeartbeats 4000000 in
set_option maxRecDepth 100000 in
theorem k_Mod_say_0 {l : Launch} {g : mG} {α : mS} (N : Nat) (a1 : Int32)  : ∀ x, f_Mod_say_0 N a1 α = some x → mC l g y_Mod_say_0 b_Mod_say_0 2 none (1) (1) [.ref (mad g 0), .int a1] α (mQr x) := by
  intro x h
  unfold f_Mod_say_0 at h
  refine mc_ofW (by decide) (fun A p e s m args below meth c S hr hlocks hno hargs E hI => ?_)
  have hx := S.1
  have hb := S.2.1
  have hown := S.2.2.2.1
  have hT := S.2.2.2.2
  subst hargs
  have hl := lv_entry ([.ref (mad g 0), .int a1]) (n := 2) (Nat.le_of_ble_eq_true rfl)
  rw [lg_entry_eq]
  generalize (lg_sl ([.ref (mad g 0), .int a1]) ++ List.replicate (2 - (lg_sl ([.ref (mad g 0), .int a1])).length) Slot.unset).toArray = ls at hl ⊢
  have hl : lv_has ls 2 [(0, .ref (mad g 0)), (1, .int a1)] := hl
  refine lv_aload_n hx hb d_Mod_say_0_0 rfl (lv_at hl 0 rfl) ?_
  refine mf_outSize S E hI vt_1269 d_Mod_say_0_1 ?_
  refine lv_ldc (v := 65536) hx hb hown (hT _ vt_1264) d_Mod_say_0_4 ?_
  refine lv_icmp_ge (tgt := 27) hx hb d_Mod_say_0_6 (by decide) (fun c1 => ?_) (fun c1 => ?_)
  · replace h := Eq.trans (if_pos c1).symm h
    exact mc_vret hx hb hr hlocks E hI h d_Mod_say_0_27
  · replace h := Eq.trans (if_neg c1).symm h
    refine lv_aload_n hx hb d_Mod_say_0_9 rfl (lv_at hl 0 rfl) ?_
    refine mf_out S E hI vt_1267 d_Mod_say_0_10 ?_
    refine lv_aload_n hx hb d_Mod_say_0_13 rfl (lv_at hl 0 rfl) ?_
    refine lv_dup hx hb d_Mod_say_0_14 rfl ?_
    refine mf_outSize S E hI vt_1269 d_Mod_say_0_15 ?_
    refine lv_dup_x1 hx hb d_Mod_say_0_18 rfl rfl ?_
    refine lv_iconst (v := 1) hx hb d_Mod_say_0_19 (by decide) ?_
    refine lv_iadd hx hb d_Mod_say_0_20 ?_
    refine mp_outSize S E hI vt_1269 d_Mod_say_0_21 (fun H locs hI => ?_)
    refine lv_iload_n hx hb d_Mod_say_0_24 rfl (lv_at hl 1 rfl) ?_
    refine lv_i2b (v := (a1).toInt8.toInt32) hx hb d_Mod_say_0_25 rfl ?_
    by_cases c2 : (α.1 1) < 0 ∨ 65536 ≤ ((α.1 1) : Int32).toNatClampNeg
    · replace h := Eq.trans (if_pos c2).symm h
      cases h
    · replace h := Eq.trans (if_neg c2).symm h
      refine ms_out S E hI c2 d_Mod_say_0_26 (fun H locs hI => ?_)
      exact mc_vret hx hb hr hlocks E hI h d_Mod_say_0_27
theorem kw_Mod_580 : kWv "FamilyKernelModel" 580 "FamilyKernelModel" y_Mod_say_0 b_Mod_say_0 2 none 1 := ⟨vt_1721, vt_1722, vt_1723, vt_1349, vt_1724, by decide, by decide, by decide +kernel⟩
def f_Mod_say_2_2 (N : Nat) (r1 : Nat) : Nat → Int32 → mS → Option (kO × mS)
  | 0, _, _ => none
  | n + 1, x2_2, β2 => if (sLn r1) ≤ x2_2 then (some (some none, β2)) else (((sCh r1 x2_2)).bind fun v2 => (mBv (f_Mod_say_0 N v2 β2) fun α4 => (f_Mod_say_2_2 N r1 n (x2_2 + 1) α4)))
def f_Mod_say_2 (N : Nat) (r1 : Nat) (α : mS) : Option (kO × mS) := f_Mod_say_2_2 N r1 N 0 α
set_option maxHeartbeats 4000000 in
set_option maxRecDepth 100000 in
theorem k_Mod_say_2 {l : Launch} {g : mG} {α : mS} (N : Nat) (r1 : Nat) (hr1 : r1 < 51) : ∀ x, f_Mod_say_2 N r1 α = some x → mC l g y_Mod_say_2 b_Mod_say_2 3 none (5) (111) [.ref (mad g 0), .ref (kst g.1 r1)] α (mQr x) := by
  intro x h
  unfold f_Mod_say_2 at h
  refine mc_ofW (by decide) (fun A p e s m args below meth c S hr hlocks hno hargs E hI => ?_)
  have hx := S.1
  have hb := S.2.1
  have hown := S.2.2.2.1
  have hT := S.2.2.2.2
  subst hargs
  have hl := lv_entry ([.ref (mad g 0), .ref (kst g.1 r1)]) (n := 3) (Nat.le_of_ble_eq_true rfl)
  rw [lg_entry_eq]
  generalize (lg_sl ([.ref (mad g 0), .ref (kst g.1 r1)]) ++ List.replicate (3 - (lg_sl ([.ref (mad g 0), .ref (kst g.1 r1)])).length) Slot.unset).toArray = ls at hl ⊢
  have hl : lv_has ls 3 [(0, .ref (mad g 0)), (1, .ref (kst g.1 r1))] := hl
  refine lv_iconst (v := 0) hx hb d_Mod_say_2_0 (by decide) ?_
  refine lv_istore_n (lv' := [(2, .int 0), (0, .ref (mad g 0)), (1, .ref (kst g.1 r1))]) hx hb d_Mod_say_2_1 rfl hl (by decide) rfl (fun ls hl => ?_)
  have L2 : ∀ (n2 : Nat) (x2_2 : Int32) (β2 : mS) (H : Heap) (locs : List Loc) (ls : Array Slot), f_Mod_say_2_2 N r1 n2 x2_2 β2 = some x → mI g A s β2 H locs → lv_has ls 3 [(2, .int x2_2), (0, .ref (mad g 0)), (1, .ref (kst g.1 r1))] → W p l e (mR (5) (111)) s m ([.ref (mad g 0), .ref (kst g.1 r1)]).toArray below meth c H locs 0 0 (vEQ below (mQ g A (mQr x)) ([.ref (mad g 0), .ref (kst g.1 r1)]).toArray s A) (F0 m 2 ls []) := by
    intro n2
    induction n2 with
    | zero => intro x2_2 β2 H locs ls h hI hl; rw [f_Mod_say_2_2] at h; cases h
    | succ n2 ih2 =>
      intro x2_2 β2 H locs ls h hI hl
      rw [f_Mod_say_2_2] at h
      refine lv_iload_n hx hb d_Mod_say_2_2 rfl (lv_at hl 0 rfl) ?_
      refine lv_aload_n hx hb d_Mod_say_2_3 rfl (lv_at hl 2 rfl) ?_
      refine mg_p (As := []) (rest := [.int x2_2]) (m_Str_length (l := l) (g := g) (α := β2) hr1) S E hI kw_Mod_284 (Or.inl rfl) ⟨Nat.le_of_ble_eq_true rfl, Nat.le_of_ble_eq_true rfl⟩ (mv_Str hr1 E hI) rfl hl.1 rfl (Nat.le_of_ble_eq_true rfl) d_Mod_say_2_4 rfl ?_
      refine lv_icmp_ge (tgt := 25) hx hb d_Mod_say_2_7 (by decide) (fun c1 => ?_) (fun c1 => ?_)
      · replace h := Eq.trans (if_pos c1).symm h
        exact mc_vret hx hb hr hlocks E hI h d_Mod_say_2_25
      · replace h := Eq.trans (if_neg c1).symm h
        refine lv_aload_n hx hb d_Mod_say_2_10 rfl (lv_at hl 1 rfl) ?_
        refine lv_aload_n hx hb d_Mod_say_2_11 rfl (lv_at hl 2 rfl) ?_
        refine lv_iload_n hx hb d_Mod_say_2_12 rfl (lv_at hl 0 rfl) ?_
        obtain ⟨v2, e3, h⟩ := Option.bind_eq_some_iff.mp h
        refine mg_p (As := [.int x2_2]) (rest := [.ref (mad g 0)]) ((m_Str_charAt (l := l) (g := g) (α := β2) hr1 x2_2) _ e3) S E hI kw_Mod_289 (Or.inl rfl) ⟨Nat.le_of_ble_eq_true rfl, Nat.le_of_ble_eq_true rfl⟩ (mv_Str hr1 E hI) rfl hl.1 rfl (Nat.le_of_ble_eq_true rfl) d_Mod_say_2_13 rfl ?_
        refine mg_cV (As := [.int v2]) (rest := []) h (k_Mod_say_0 (l := l) (g := g) (α := β2) N v2) S hlocks hno E hI kw_Mod_580 ⟨Nat.le_of_ble_eq_true rfl, Nat.le_of_ble_eq_true rfl⟩ (mv_Mod E hI) rfl hl.1 rfl (Nat.le_of_ble_eq_true rfl) d_Mod_say_2_16 (fun α4 H locs e5 h hI => ?_)
        refine lv_iinc (v := (x2_2 + 1)) (lv' := [(2, .int (x2_2 + 1)), (0, .ref (mad g 0)), (1, .ref (kst g.1 r1))]) hx hb d_Mod_say_2_19 hl (k := 0) rfl rfl (by decide) rfl (fun ls hl => ?_)
        refine lv_goto (tgt := 2) hx hb d_Mod_say_2_22 (by decide) ?_
        exact ih2 (x2_2 + 1) _ _ _ _ h hI (lv_sub hl [0, 1, 2] rfl)
  exact L2 N 0 _ _ _ _ h hI (lv_sub hl [0, 1, 2] rfl)
