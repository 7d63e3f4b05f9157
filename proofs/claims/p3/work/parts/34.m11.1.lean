theorem kw_Mod_281 : kWv "FamilyKernelModel" 281 "FamilyKernelModel" y_Mod_take b_Mod_take 1 none 0 := ⟨vt_1409, vt_1410, vt_1411, vt_1349, vt_1412, by decide, by decide, by decide +kernel⟩
theorem kw_Mod_277 : kWv "FamilyKernelModel" 277 "FamilyKernelModel" y_Mod_cant b_Mod_cant 1 (some (.object "FamilyKernelModel$Wrong")) 0 := ⟨vt_1403, vt_1404, vt_1405, vt_1349, vt_1406, by decide, by decide, by decide +kernel⟩
def f_Mod_must (N : Nat) (a1 : Int32) (α : mS) : Option (kO × mS) := mBi (f_Mod_peek N α) fun v3 α1 => (if v3 = a1 then (mBv (f_Mod_take N α1) fun α5 => (some (some none, α5))) else (((f_Mod_cant N α1)).bind fun α7 => (some (none, (mTh α7 (α7.1 100) (α7.1 101))))))
set_option maxHeartbeats 4000000 in
set_option maxRecDepth 100000 in
theorem k_Mod_must {l : Launch} {g : mG} {α : mS} (N : Nat) (a1 : Int32)  : ∀ x, f_Mod_must N a1 α = some x → mC l g y_Mod_must b_Mod_must 2 none (42) (1242) [.ref (mad g 0), .int a1] α (mQr x) := by
  intro x h
  unfold f_Mod_must at h
  refine mc_ofW (by decide) (fun A p e s m args below meth c S hr hlocks hno hargs E hI => ?_)
  have hx := S.1
  have hb := S.2.1
  have hown := S.2.2.2.1
  have hT := S.2.2.2.2
  subst hargs
  have hl := lv_entry ([.ref (mad g 0), .int a1]) (n := 2) (Nat.le_of_ble_eq_true rfl)
  rw [lg_entry_eq]
  generalize (lg_sl ([.ref (mad g 0), .int a1]) ++ List.replicate (2 - (lg_sl ([.ref (mad g 0), .int a1])).length) Slot.unset).toArray = ls at hl ⊢
  have hl : lv_has ls 2 [(0, .ref (mad g 0)), (1, .int a1)] := hl
  refine lv_aload_n hx hb d_Mod_must_0 rfl (lv_at hl 0 rfl) ?_
  refine mg_cI (As := []) (rest := []) h (k_Mod_peek (l := l) (g := g) (α := α) N) S hlocks hno E hI kw_Mod_273 ⟨Nat.le_of_ble_eq_true rfl, Nat.le_of_ble_eq_true rfl⟩ (mv_Mod E hI) rfl hl.1 rfl (Nat.le_of_ble_eq_true rfl) d_Mod_must_1 (fun v3 α1 H locs e2 h hI => ?_)
  refine lv_iload_n hx hb d_Mod_must_4 rfl (lv_at hl 1 rfl) ?_
  refine lv_icmp_eq (tgt := 13) hx hb d_Mod_must_5 (by decide) (fun c4 => ?_) (fun c4 => ?_)
  · replace h := Eq.trans (if_pos c4).symm h
    refine lv_aload_n hx hb d_Mod_must_13 rfl (lv_at hl 0 rfl) ?_
    refine mg_cV (As := []) (rest := []) h (k_Mod_take (l := l) (g := g) (α := α1) N) S hlocks hno E hI kw_Mod_281 ⟨Nat.le_of_ble_eq_true rfl, Nat.le_of_ble_eq_true rfl⟩ (mv_Mod E hI) rfl hl.1 rfl (Nat.le_of_ble_eq_true rfl) d_Mod_must_14 (fun α5 H locs e6 h hI => ?_)
    exact mc_vret hx hb hr hlocks E hI h d_Mod_must_17
  · replace h := Eq.trans (if_neg c4).symm h
    refine lv_aload_n hx hb d_Mod_must_8 rfl (lv_at hl 0 rfl) ?_
    obtain ⟨α7, e8, h⟩ := Option.bind_eq_some_iff.mp h
    refine mg_cant (As := []) (rest := []) ((k_Mod_cant (l := l) (g := g) (α := α1) N) _ e8) S hlocks hno E hI kw_Mod_277 ⟨Nat.le_of_ble_eq_true rfl, Nat.le_of_ble_eq_true rfl⟩ (mv_Mod E hI) rfl hl.1 rfl (Nat.le_of_ble_eq_true rfl) d_Mod_must_9 (fun q H locs hN => ?_)
    exact mg_athrow S hlocks hno E hN h d_Mod_must_12
theorem kw_Mod_293 : kWv "FamilyKernelModel" 293 "FamilyKernelModel" y_Mod_is b_Mod_is 3 (some .boolean) 1 := ⟨vt_1383, vt_1384, vt_1385, vt_1349, vt_1386, by decide, by decide, by decide +kernel⟩
def f_Mod_reserved (N : Nat)  (α : mS) : Option (kO × mS) := mBi (f_Mod_is N 27 α) fun v3 α1 => (if v3 = 0 then (mBi (f_Mod_is N 28 α1) fun v7 α5 => (if v7 = 0 then (mBi (f_Mod_is N 29 α5) fun v11 α9 => (if v11 = 0 then (mBi (f_Mod_is N 30 α9) fun v15 α13 => (if v15 = 0 then (mBi (f_Mod_is N 31 α13) fun v19 α17 => (if v19 = 0 then (mBi (f_Mod_is N 32 α17) fun v23 α21 => (if v23 = 0 then (mBi (f_Mod_is N 33 α21) fun v27 α25 => (if v27 = 0 then (mBi (f_Mod_is N 34 α25) fun v31 α29 => (if v31 = 0 then (mBi (f_Mod_is N 35 α29) fun v35 α33 => (if v35 = 0 then (mBi (f_Mod_is N 36 α33) fun v39 α37 => (if v39 = 0 then (mBi (f_Mod_is N 37 α37) fun v43 α41 => (if v43 = 0 then (mBi (f_Mod_is N 38 α41) fun v47 α45 => (if v47 = 0 then (mBi (f_Mod_is N 39 α45) fun v51 α49 => (if v51 = 0 then (some (some (some 0), α49)) else (some (some (some 1), α49)))) else (some (some (some 1), α45)))) else (some (some (some 1), α41)))) else (some (some (some 1), α37)))) else (some (some (some 1), α33)))) else (some (some (some 1), α29)))) else (some (some (some 1), α25)))) else (some (some (some 1), α21)))) else (some (some (some 1), α17)))) else (some (some (some 1), α13)))) else (some (some (some 1), α9)))) else (some (some (some 1), α5)))) else (some (some (some 1), α1)))
set_option maxHeartbeats 4000000 in
set_option maxRecDepth 100000 in
theorem k_Mod_reserved {l : Launch} {g : mG} {α : mS} (N : Nat)   : ∀ x, f_Mod_reserved N α = some x → mC l g y_Mod_reserved b_Mod_reserved 1 (some .boolean) (6) (133) [.ref (mad g 0)] α (mQr x) := by
  intro x h
  unfold f_Mod_reserved at h
  refine mc_ofW (by decide) (fun A p e s m args below meth c S hr hlocks hno hargs E hI => ?_)
  have hx := S.1
  have hb := S.2.1
  have hown := S.2.2.2.1
  have hT := S.2.2.2.2
  subst hargs
  have hl := lv_entry ([.ref (mad g 0)]) (n := 1) (Nat.le_of_ble_eq_true rfl)
  rw [lg_entry_eq]
  generalize (lg_sl ([.ref (mad g 0)]) ++ List.replicate (1 - (lg_sl ([.ref (mad g 0)])).length) Slot.unset).toArray = ls at hl ⊢
  have hl : lv_has ls 1 [(0, .ref (mad g 0))] := hl
  refine lv_aload_n hx hb d_Mod_reserved_0 rfl (lv_at hl 0 rfl) ?_
  refine mg_ldcw hx hb hown (E.2.2.2.2.1 27 (by decide)) d_Mod_reserved_1 ?_
  refine mg_cI (As := [.ref (kst g.1 27)]) (rest := []) h (k_Mod_is (l := l) (g := g) (α := α) N 27 (by decide)) S hlocks hno E hI kw_Mod_293 ⟨Nat.le_of_ble_eq_true rfl, Nat.le_of_ble_eq_true rfl⟩ (mv_Mod E hI) rfl hl.1 rfl (Nat.le_of_ble_eq_true rfl) d_Mod_reserved_4 (fun v3 α1 H locs e2 h hI => ?_)
  refine lv_if_ne (tgt := 130) hx hb d_Mod_reserved_7 (by decide) (fun c4 => ?_) (fun c4 => ?_)
  · replace h := Eq.trans (if_neg c4).symm h
    refine lv_iconst (v := 1) hx hb d_Mod_reserved_130 (by decide) ?_
    refine lv_goto (tgt := 135) hx hb d_Mod_reserved_131 (by decide) ?_
    exact mc_iret (w := 1) hx hb hr (by decide) hlocks E hI h d_Mod_reserved_135
  · replace h := Eq.trans (if_pos c4).symm h
    refine lv_aload_n hx hb d_Mod_reserved_10 rfl (lv_at hl 0 rfl) ?_
    refine mg_ldcw hx hb hown (E.2.2.2.2.1 28 (by decide)) d_Mod_reserved_11 ?_
    refine mg_cI (As := [.ref (kst g.1 28)]) (rest := []) h (k_Mod_is (l := l) (g := g) (α := α1) N 28 (by decide)) S hlocks hno E hI kw_Mod_293 ⟨Nat.le_of_ble_eq_true rfl, Nat.le_of_ble_eq_true rfl⟩ (mv_Mod E hI) rfl hl.1 rfl (Nat.le_of_ble_eq_true rfl) d_Mod_reserved_14 (fun v7 α5 H locs e6 h hI => ?_)
    refine lv_if_ne (tgt := 130) hx hb d_Mod_reserved_17 (by decide) (fun c8 => ?_) (fun c8 => ?_)
    · replace h := Eq.trans (if_neg c8).symm h
      refine lv_iconst (v := 1) hx hb d_Mod_reserved_130 (by decide) ?_
      refine lv_goto (tgt := 135) hx hb d_Mod_reserved_131 (by decide) ?_
      exact mc_iret (w := 1) hx hb hr (by decide) hlocks E hI h d_Mod_reserved_135
    · replace h := Eq.trans (if_pos c8).symm h
      refine lv_aload_n hx hb d_Mod_reserved_20 rfl (lv_at hl 0 rfl) ?_
      refine mg_ldcw hx hb hown (E.2.2.2.2.1 29 (by decide)) d_Mod_reserved_21 ?_
      refine mg_cI (As := [.ref (kst g.1 29)]) (rest := []) h (k_Mod_is (l := l) (g := g) (α := α5) N 29 (by decide)) S hlocks hno E hI kw_Mod_293 ⟨Nat.le_of_ble_eq_true rfl, Nat.le_of_ble_eq_true rfl⟩ (mv_Mod E hI) rfl hl.1 rfl (Nat.le_of_ble_eq_true rfl) d_Mod_reserved_24 (fun v11 α9 H locs e10 h hI => ?_)
      refine lv_if_ne (tgt := 130) hx hb d_Mod_reserved_27 (by decide) (fun c12 => ?_) (fun c12 => ?_)
      · replace h := Eq.trans (if_neg c12).symm h
        refine lv_iconst (v := 1) hx hb d_Mod_reserved_130 (by decide) ?_
        refine lv_goto (tgt := 135) hx hb d_Mod_reserved_131 (by decide) ?_
        exact mc_iret (w := 1) hx hb hr (by decide) hlocks E hI h d_Mod_reserved_135
      · replace h := Eq.trans (if_pos c12).symm h
        refine lv_aload_n hx hb d_Mod_reserved_30 rfl (lv_at hl 0 rfl) ?_
        refine mg_ldcw hx hb hown (E.2.2.2.2.1 30 (by decide)) d_Mod_reserved_31 ?_
        refine mg_cI (As := [.ref (kst g.1 30)]) (rest := []) h (k_Mod_is (l := l) (g := g) (α := α9) N 30 (by decide)) S hlocks hno E hI kw_Mod_293 ⟨Nat.le_of_ble_eq_true rfl, Nat.le_of_ble_eq_true rfl⟩ (mv_Mod E hI) rfl hl.1 rfl (Nat.le_of_ble_eq_true rfl) d_Mod_reserved_34 (fun v15 α13 H locs e14 h hI => ?_)
        refine lv_if_ne (tgt := 130) hx hb d_Mod_reserved_37 (by decide) (fun c16 => ?_) (fun c16 => ?_)
        · replace h := Eq.trans (if_neg c16).symm h
          refine lv_iconst (v := 1) hx hb d_Mod_reserved_130 (by decide) ?_
          refine lv_goto (tgt := 135) hx hb d_Mod_reserved_131 (by decide) ?_
          exact mc_iret (w := 1) hx hb hr (by decide) hlocks E hI h d_Mod_reserved_135
        · replace h := Eq.trans (if_pos c16).symm h
          refine lv_aload_n hx hb d_Mod_reserved_40 rfl (lv_at hl 0 rfl) ?_
          refine mg_ldcw hx hb hown (E.2.2.2.2.1 31 (by decide)) d_Mod_reserved_41 ?_
          refine mg_cI (As := [.ref (kst g.1 31)]) (rest := []) h (k_Mod_is (l := l) (g := g) (α := α13) N 31 (by decide)) S hlocks hno E hI kw_Mod_293 ⟨Nat.le_of_ble_eq_true rfl, Nat.le_of_ble_eq_true rfl⟩ (mv_Mod E hI) rfl hl.1 rfl (Nat.le_of_ble_eq_true rfl) d_Mod_reserved_44 (fun v19 α17 H locs e18 h hI => ?_)
          refine lv_if_ne (tgt := 130) hx hb d_Mod_reserved_47 (by decide) (fun c20 => ?_) (fun c20 => ?_)
          · replace h := Eq.trans (if_neg c20).symm h
            refine lv_iconst (v := 1) hx hb d_Mod_reserved_130 (by decide) ?_
            refine lv_goto (tgt := 135) hx hb d_Mod_reserved_131 (by decide) ?_
            exact mc_iret (w := 1) hx hb hr (by decide) hlocks E hI h d_Mod_reserved_135
          · replace h := Eq.trans (if_pos c20).symm h
            refine lv_aload_n hx hb d_Mod_reserved_50 rfl (lv_at hl 0 rfl) ?_
            refine mg_ldcw hx hb hown (E.2.2.2.2.1 32 (by decide)) d_Mod_reserved_51 ?_
            refine mg_cI (As := [.ref (kst g.1 32)]) (rest := []) h (k_Mod_is (l := l) (g := g) (α := α17) N 32 (by decide)) S hlocks hno E hI kw_Mod_293 ⟨Nat.le_of_ble_eq_true rfl, Nat.le_of_ble_eq_true rfl⟩ (mv_Mod E hI) rfl hl.1 rfl (Nat.le_of_ble_eq_true rfl) d_Mod_reserved_54 (fun v23 α21 H locs e22 h hI => ?_)
            refine lv_if_ne (tgt := 130) hx hb d_Mod_reserved_57 (by decide) (fun c24 => ?_) (fun c24 => ?_)
            · replace h := Eq.trans (if_neg c24).symm h
              refine lv_iconst (v := 1) hx hb d_Mod_reserved_130 (by decide) ?_
              refine lv_goto (tgt := 135) hx hb d_Mod_reserved_131 (by decide) ?_
              exact mc_iret (w := 1) hx hb hr (by decide) hlocks E hI h d_Mod_reserved_135
            · replace h := Eq.trans (if_pos c24).symm h
              refine lv_aload_n hx hb d_Mod_reserved_60 rfl (lv_at hl 0 rfl) ?_
              refine mg_ldcw hx hb hown (E.2.2.2.2.1 33 (by decide)) d_Mod_reserved_61 ?_
              refine mg_cI (As := [.ref (kst g.1 33)]) (rest := []) h (k_Mod_is (l := l) (g := g) (α := α21) N 33 (by decide)) S hlocks hno E hI kw_Mod_293 ⟨Nat.le_of_ble_eq_true rfl, Nat.le_of_ble_eq_true rfl⟩ (mv_Mod E hI) rfl hl.1 rfl (Nat.le_of_ble_eq_true rfl) d_Mod_reserved_64 (fun v27 α25 H locs e26 h hI => ?_)
              refine lv_if_ne (tgt := 130) hx hb d_Mod_reserved_67 (by decide) (fun c28 => ?_) (fun c28 => ?_)
              · replace h := Eq.trans (if_neg c28).symm h
                refine lv_iconst (v := 1) hx hb d_Mod_reserved_130 (by decide) ?_
                refine lv_goto (tgt := 135) hx hb d_Mod_reserved_131 (by decide) ?_
                exact mc_iret (w := 1) hx hb hr (by decide) hlocks E hI h d_Mod_reserved_135
              · replace h := Eq.trans (if_pos c28).symm h
                refine lv_aload_n hx hb d_Mod_reserved_70 rfl (lv_at hl 0 rfl) ?_
                refine mg_ldcw hx hb hown (E.2.2.2.2.1 34 (by decide)) d_Mod_reserved_71 ?_
                refine mg_cI (As := [.ref (kst g.1 34)]) (rest := []) h (k_Mod_is (l := l) (g := g) (α := α25) N 34 (by decide)) S hlocks hno E hI kw_Mod_293 ⟨Nat.le_of_ble_eq_true rfl, Nat.le_of_ble_eq_true rfl⟩ (mv_Mod E hI) rfl hl.1 rfl (Nat.le_of_ble_eq_true rfl) d_Mod_reserved_74 (fun v31 α29 H locs e30 h hI => ?_)
                refine lv_if_ne (tgt := 130) hx hb d_Mod_reserved_77 (by decide) (fun c32 => ?_) (fun c32 => ?_)
                · replace h := Eq.trans (if_neg c32).symm h
                  refine lv_iconst (v := 1) hx hb d_Mod_reserved_130 (by decide) ?_
                  refine lv_goto (tgt := 135) hx hb d_Mod_reserved_131 (by decide) ?_
                  exact mc_iret (w := 1) hx hb hr (by decide) hlocks E hI h d_Mod_reserved_135
                · replace h := Eq.trans (if_pos c32).symm h
                  refine lv_aload_n hx hb d_Mod_reserved_80 rfl (lv_at hl 0 rfl) ?_
                  refine mg_ldcw hx hb hown (E.2.2.2.2.1 35 (by decide)) d_Mod_reserved_81 ?_
                  refine mg_cI (As := [.ref (kst g.1 35)]) (rest := []) h (k_Mod_is (l := l) (g := g) (α := α29) N 35 (by decide)) S hlocks hno E hI kw_Mod_293 ⟨Nat.le_of_ble_eq_true rfl, Nat.le_of_ble_eq_true rfl⟩ (mv_Mod E hI) rfl hl.1 rfl (Nat.le_of_ble_eq_true rfl) d_Mod_reserved_84 (fun v35 α33 H locs e34 h hI => ?_)
                  refine lv_if_ne (tgt := 130) hx hb d_Mod_reserved_87 (by decide) (fun c36 => ?_) (fun c36 => ?_)
                  · replace h := Eq.trans (if_neg c36).symm h
                    refine lv_iconst (v := 1) hx hb d_Mod_reserved_130 (by decide) ?_
                    refine lv_goto (tgt := 135) hx hb d_Mod_reserved_131 (by decide) ?_
                    exact mc_iret (w := 1) hx hb hr (by decide) hlocks E hI h d_Mod_reserved_135
                  · replace h := Eq.trans (if_pos c36).symm h
                    refine lv_aload_n hx hb d_Mod_reserved_90 rfl (lv_at hl 0 rfl) ?_
                    refine mg_ldcw hx hb hown (E.2.2.2.2.1 36 (by decide)) d_Mod_reserved_91 ?_
                    refine mg_cI (As := [.ref (kst g.1 36)]) (rest := []) h (k_Mod_is (l := l) (g := g) (α := α33) N 36 (by decide)) S hlocks hno E hI kw_Mod_293 ⟨Nat.le_of_ble_eq_true rfl, Nat.le_of_ble_eq_true rfl⟩ (mv_Mod E hI) rfl hl.1 rfl (Nat.le_of_ble_eq_true rfl) d_Mod_reserved_94 (fun v39 α37 H locs e38 h hI => ?_)
                    refine lv_if_ne (tgt := 130) hx hb d_Mod_reserved_97 (by decide) (fun c40 => ?_) (fun c40 => ?_)
                    · replace h := Eq.trans (if_neg c40).symm h
                      refine lv_iconst (v := 1) hx hb d_Mod_reserved_130 (by decide) ?_
                      refine lv_goto (tgt := 135) hx hb d_Mod_reserved_131 (by decide) ?_
                      exact mc_iret (w := 1) hx hb hr (by decide) hlocks E hI h d_Mod_reserved_135
                    · replace h := Eq.trans (if_pos c40).symm h
                      refine lv_aload_n hx hb d_Mod_reserved_100 rfl (lv_at hl 0 rfl) ?_
                      refine mg_ldcw hx hb hown (E.2.2.2.2.1 37 (by decide)) d_Mod_reserved_101 ?_
                      refine mg_cI (As := [.ref (kst g.1 37)]) (rest := []) h (k_Mod_is (l := l) (g := g) (α := α37) N 37 (by decide)) S hlocks hno E hI kw_Mod_293 ⟨Nat.le_of_ble_eq_true rfl, Nat.le_of_ble_eq_true rfl⟩ (mv_Mod E hI) rfl hl.1 rfl (Nat.le_of_ble_eq_true rfl) d_Mod_reserved_104 (fun v43 α41 H locs e42 h hI => ?_)
                      refine lv_if_ne (tgt := 130) hx hb d_Mod_reserved_107 (by decide) (fun c44 => ?_) (fun c44 => ?_)
                      · replace h := Eq.trans (if_neg c44).symm h
                        refine lv_iconst (v := 1) hx hb d_Mod_reserved_130 (by decide) ?_
                        refine lv_goto (tgt := 135) hx hb d_Mod_reserved_131 (by decide) ?_
                        exact mc_iret (w := 1) hx hb hr (by decide) hlocks E hI h d_Mod_reserved_135
                      · replace h := Eq.trans (if_pos c44).symm h
                        refine lv_aload_n hx hb d_Mod_reserved_110 rfl (lv_at hl 0 rfl) ?_
                        refine mg_ldcw hx hb hown (E.2.2.2.2.1 38 (by decide)) d_Mod_reserved_111 ?_
                        refine mg_cI (As := [.ref (kst g.1 38)]) (rest := []) h (k_Mod_is (l := l) (g := g) (α := α41) N 38 (by decide)) S hlocks hno E hI kw_Mod_293 ⟨Nat.le_of_ble_eq_true rfl, Nat.le_of_ble_eq_true rfl⟩ (mv_Mod E hI) rfl hl.1 rfl (Nat.le_of_ble_eq_true rfl) d_Mod_reserved_114 (fun v47 α45 H locs e46 h hI => ?_)
                        refine lv_if_ne (tgt := 130) hx hb d_Mod_reserved_117 (by decide) (fun c48 => ?_) (fun c48 => ?_)
                        · replace h := Eq.trans (if_neg c48).symm h
                          refine lv_iconst (v := 1) hx hb d_Mod_reserved_130 (by decide) ?_
                          refine lv_goto (tgt := 135) hx hb d_Mod_reserved_131 (by decide) ?_
                          exact mc_iret (w := 1) hx hb hr (by decide) hlocks E hI h d_Mod_reserved_135
                        · replace h := Eq.trans (if_pos c48).symm h
                          refine lv_aload_n hx hb d_Mod_reserved_120 rfl (lv_at hl 0 rfl) ?_
                          refine mg_ldcw hx hb hown (E.2.2.2.2.1 39 (by decide)) d_Mod_reserved_121 ?_
                          refine mg_cI (As := [.ref (kst g.1 39)]) (rest := []) h (k_Mod_is (l := l) (g := g) (α := α45) N 39 (by decide)) S hlocks hno E hI kw_Mod_293 ⟨Nat.le_of_ble_eq_true rfl, Nat.le_of_ble_eq_true rfl⟩ (mv_Mod E hI) rfl hl.1 rfl (Nat.le_of_ble_eq_true rfl) d_Mod_reserved_124 (fun v51 α49 H locs e50 h hI => ?_)
                          refine lv_if_eq (tgt := 134) hx hb d_Mod_reserved_127 (by decide) (fun c52 => ?_) (fun c52 => ?_)
                          · replace h := Eq.trans (if_pos c52).symm h
                            refine lv_iconst (v := 0) hx hb d_Mod_reserved_134 (by decide) ?_
                            exact mc_iret (w := 0) hx hb hr (by decide) hlocks E hI h d_Mod_reserved_135
                          · replace h := Eq.trans (if_neg c52).symm h
                            refine lv_iconst (v := 1) hx hb d_Mod_reserved_130 (by decide) ?_
                            refine lv_goto (tgt := 135) hx hb d_Mod_reserved_131 (by decide) ?_
                            exact mc_iret (w := 1) hx hb hr (by decide) hlocks E hI h d_Mod_reserved_135
def f_Mod_bindName (N : Nat) (a1 : Int32) (a2 : Int32) (α : mS) : Option (kO × mS) := if (α.1 19) < 0 ∨ 3400 ≤ ((α.1 19) : Int32).toNatClampNeg then none else (if (α.1 19) < 0 ∨ 3400 ≤ ((α.1 19) : Int32).toNatClampNeg then none else (some (some none, (mSA (mSi (mSA α 25 (upd (α.2 25) ((α.1 19) : Int32).toNatClampNeg a1)) 19 ((α.1 19) + 1)) 26 (upd ((mSi (mSA α 25 (upd (α.2 25) ((α.1 19) : Int32).toNatClampNeg a1)) 19 ((α.1 19) + 1)).2 26) ((α.1 19) : Int32).toNatClampNeg a2)))))
set_option maxHeartbeats 4000000 in
set_option maxRecDepth 100000 in
theorem k_Mod_bindName {l : Launch} {g : mG} {α : mS} (N : Nat) (a1 : Int32) (a2 : Int32)  : ∀ x, f_Mod_bindName N a1 a2 α = some x → mC l g y_Mod_bindName b_Mod_bindName 3 none (1) (1) [.ref (mad g 0), .int a1, .int a2] α (mQr x) := by
  intro x h
  unfold f_Mod_bindName at h
  refine mc_ofW (by decide) (fun A p e s m args below meth c S hr hlocks hno hargs E hI => ?_)
  have hx := S.1
  have hb := S.2.1
  have hown := S.2.2.2.1
  have hT := S.2.2.2.2
  subst hargs
  have hl := lv_entry ([.ref (mad g 0), .int a1, .int a2]) (n := 3) (Nat.le_of_ble_eq_true rfl)
  rw [lg_entry_eq]
  generalize (lg_sl ([.ref (mad g 0), .int a1, .int a2]) ++ List.replicate (3 - (lg_sl ([.ref (mad g 0), .int a1, .int a2])).length) Slot.unset).toArray = ls at hl ⊢
  have hl : lv_has ls 3 [(0, .ref (mad g 0)), (1, .int a1), (2, .int a2)] := hl
  refine lv_aload_n hx hb d_Mod_bindName_0 rfl (lv_at hl 0 rfl) ?_
  refine mf_scopeAt S E hI vt_1312 d_Mod_bindName_1 ?_
  refine lv_aload_n hx hb d_Mod_bindName_4 rfl (lv_at hl 0 rfl) ?_
  refine mf_scopes S E hI vt_1314 d_Mod_bindName_5 ?_
  refine lv_iload_n hx hb d_Mod_bindName_8 rfl (lv_at hl 1 rfl) ?_
  by_cases c1 : (α.1 19) < 0 ∨ 3400 ≤ ((α.1 19) : Int32).toNatClampNeg
  · replace h := Eq.trans (if_pos c1).symm h
    cases h
  · replace h := Eq.trans (if_neg c1).symm h
    refine ms_scopeAt S E hI c1 d_Mod_bindName_9 (fun H locs hI => ?_)
    refine lv_aload_n hx hb d_Mod_bindName_10 rfl (lv_at hl 0 rfl) ?_
    refine mf_scopeSize S E hI vt_1313 d_Mod_bindName_11 ?_
    refine lv_aload_n hx hb d_Mod_bindName_14 rfl (lv_at hl 0 rfl) ?_
    refine lv_dup hx hb d_Mod_bindName_15 rfl ?_
    refine mf_scopes S E hI vt_1314 d_Mod_bindName_16 ?_
    refine lv_dup_x1 hx hb d_Mod_bindName_19 rfl rfl ?_
    refine lv_iconst (v := 1) hx hb d_Mod_bindName_20 (by decide) ?_
    refine lv_iadd hx hb d_Mod_bindName_21 ?_
    refine mp_scopes S E hI vt_1314 d_Mod_bindName_22 (fun H locs hI => ?_)
    refine lv_iload_n hx hb d_Mod_bindName_25 rfl (lv_at hl 2 rfl) ?_
    by_cases c2 : (α.1 19) < 0 ∨ 3400 ≤ ((α.1 19) : Int32).toNatClampNeg
    · replace h := Eq.trans (if_pos c2).symm h
      cases h
    · replace h := Eq.trans (if_neg c2).symm h
      refine ms_scopeSize S E hI c2 d_Mod_bindName_26 (fun H locs hI => ?_)
      exact mc_vret hx hb hr hlocks E hI h d_Mod_bindName_27
def f_Mod_mustBe (N : Nat) (r1 : Nat) (α : mS) : Option (kO × mS) := mBi (f_Mod_is N r1 α) fun v3 α1 => (if v3 = 0 then (((f_Mod_cant N α1)).bind fun α7 => (some (none, (mTh α7 (α7.1 100) (α7.1 101))))) else (mBv (f_Mod_take N α1) fun α5 => (some (some none, α5))))
set_option maxHeartbeats 4000000 in
set_option maxRecDepth 100000 in
theorem k_Mod_mustBe {l : Launch} {g : mG} {α : mS} (N : Nat) (r1 : Nat) (hr1 : r1 < 51) : ∀ x, f_Mod_mustBe N r1 α = some x → mC l g y_Mod_mustBe b_Mod_mustBe 2 none (42) (1242) [.ref (mad g 0), .ref (kst g.1 r1)] α (mQr x) := by
  intro x h
  unfold f_Mod_mustBe at h
  refine mc_ofW (by decide) (fun A p e s m args below meth c S hr hlocks hno hargs E hI => ?_)
  have hx := S.1
  have hb := S.2.1
  have hown := S.2.2.2.1
  have hT := S.2.2.2.2
  subst hargs
  have hl := lv_entry ([.ref (mad g 0), .ref (kst g.1 r1)]) (n := 2) (Nat.le_of_ble_eq_true rfl)
  rw [lg_entry_eq]
  generalize (lg_sl ([.ref (mad g 0), .ref (kst g.1 r1)]) ++ List.replicate (2 - (lg_sl ([.ref (mad g 0), .ref (kst g.1 r1)])).length) Slot.unset).toArray = ls at hl ⊢
  have hl : lv_has ls 2 [(0, .ref (mad g 0)), (1, .ref (kst g.1 r1))] := hl
  refine lv_aload_n hx hb d_Mod_mustBe_0 rfl (lv_at hl 0 rfl) ?_
  refine lv_aload_n hx hb d_Mod_mustBe_1 rfl (lv_at hl 1 rfl) ?_
  refine mg_cI (As := [.ref (kst g.1 r1)]) (rest := []) h (k_Mod_is (l := l) (g := g) (α := α) N r1 hr1) S hlocks hno E hI kw_Mod_293 ⟨Nat.le_of_ble_eq_true rfl, Nat.le_of_ble_eq_true rfl⟩ (mv_Mod E hI) rfl hl.1 rfl (Nat.le_of_ble_eq_true rfl) d_Mod_mustBe_2 (fun v3 α1 H locs e2 h hI => ?_)
  refine lv_if_ne (tgt := 13) hx hb d_Mod_mustBe_5 (by decide) (fun c4 => ?_) (fun c4 => ?_)
  · replace h := Eq.trans (if_neg c4).symm h
    refine lv_aload_n hx hb d_Mod_mustBe_13 rfl (lv_at hl 0 rfl) ?_
    refine mg_cV (As := []) (rest := []) h (k_Mod_take (l := l) (g := g) (α := α1) N) S hlocks hno E hI kw_Mod_281 ⟨Nat.le_of_ble_eq_true rfl, Nat.le_of_ble_eq_true rfl⟩ (mv_Mod E hI) rfl hl.1 rfl (Nat.le_of_ble_eq_true rfl) d_Mod_mustBe_14 (fun α5 H locs e6 h hI => ?_)
    exact mc_vret hx hb hr hlocks E hI h d_Mod_mustBe_17
  · replace h := Eq.trans (if_pos c4).symm h
    refine lv_aload_n hx hb d_Mod_mustBe_8 rfl (lv_at hl 0 rfl) ?_
    obtain ⟨α7, e8, h⟩ := Option.bind_eq_some_iff.mp h
    refine mg_cant (As := []) (rest := []) ((k_Mod_cant (l := l) (g := g) (α := α1) N) _ e8) S hlocks hno E hI kw_Mod_277 ⟨Nat.le_of_ble_eq_true rfl, Nat.le_of_ble_eq_true rfl⟩ (mv_Mod E hI) rfl hl.1 rfl (Nat.le_of_ble_eq_true rfl) d_Mod_mustBe_9 (fun q H locs hN => ?_)
    exact mg_athrow S hlocks hno E hN h d_Mod_mustBe_12
theorem kw_Mod_412 : kWv "FamilyKernelModel" 412 "FamilyKernelModel" y_Mod_mustBe b_Mod_mustBe 2 none 1 := ⟨vt_1511, vt_1512, vt_1513, vt_1349, vt_1514, by decide, by decide, by decide +kernel⟩
def f_Mod_sortHere_43 (N : Nat)  : Nat → Int32 → Int32 → mS → Option (kO × mS)
  | 0, _, _, _ => none
  | n + 1, x2_43, x1_43, β43 => if (β43.1 8) ≤ x2_43 then (if x1_43 ≤ 99 then (mBv (f_Mod_take N β43) fun α13 => (some (some (some (x1_43 + 1)), α13))) else (some (none, (mTh β43 3 (β43.1 7))))) else (if x2_43 < 0 ∨ 65536 ≤ (x2_43 : Int32).toNatClampNeg then none else (f_Mod_sortHere_43 N n (x2_43 + 1) (((10 * x1_43) + (β43.2 0 (x2_43 : Int32).toNatClampNeg)) - 48) β43))
def f_Mod_sortHere (N : Nat)  (α : mS) : Option (kO × mS) := mBi (f_Mod_is N 38 α) fun v3 α1 => (if v3 = 0 then (mBv (f_Mod_mustBe N 39 α1) fun α5 => (mBi (f_Mod_peek N α5) fun v9 α7 => (if v9 = 2 then (f_Mod_sortHere_43 N N (α7.1 7) 0 α7) else (((f_Mod_cant N α7)).bind fun α16 => (some (none, (mTh α16 (α16.1 100) (α16.1 101)))))))) else (mBv (f_Mod_take N α1) fun α18 => (some (some (some 0), α18))))
set_option maxHeartbeats 4000000 in
set_option maxRecDepth 100000 in
theorem k_Mod_sortHere {l : Launch} {g : mG} {α : mS} (N : Nat)   : ∀ x, f_Mod_sortHere N α = some x → mC l g y_Mod_sortHere b_Mod_sortHere 3 (some .int) (43) (1263) [.ref (mad g 0)] α (mQr x) := by
  intro x h
  unfold f_Mod_sortHere at h
  refine mc_ofW (by decide) (fun A p e s m args below meth c S hr hlocks hno hargs E hI => ?_)
  have hx := S.1
  have hb := S.2.1
  have hown := S.2.2.2.1
  have hT := S.2.2.2.2
  subst hargs
  have hl := lv_entry ([.ref (mad g 0)]) (n := 3) (Nat.le_of_ble_eq_true rfl)
  rw [lg_entry_eq]
  generalize (lg_sl ([.ref (mad g 0)]) ++ List.replicate (3 - (lg_sl ([.ref (mad g 0)])).length) Slot.unset).toArray = ls at hl ⊢
  have hl : lv_has ls 3 [(0, .ref (mad g 0))] := hl
  refine lv_aload_n hx hb d_Mod_sortHere_0 rfl (lv_at hl 0 rfl) ?_
  refine mg_ldcw hx hb hown (E.2.2.2.2.1 38 (by decide)) d_Mod_sortHere_1 ?_
  refine mg_cI (As := [.ref (kst g.1 38)]) (rest := []) h (k_Mod_is (l := l) (g := g) (α := α) N 38 (by decide)) S hlocks hno E hI kw_Mod_293 ⟨Nat.le_of_ble_eq_true rfl, Nat.le_of_ble_eq_true rfl⟩ (mv_Mod E hI) rfl hl.1 rfl (Nat.le_of_ble_eq_true rfl) d_Mod_sortHere_4 (fun v3 α1 H locs e2 h hI => ?_)
  refine lv_if_eq (tgt := 16) hx hb d_Mod_sortHere_7 (by decide) (fun c4 => ?_) (fun c4 => ?_)
  · replace h := Eq.trans (if_pos c4).symm h
    refine lv_aload_n hx hb d_Mod_sortHere_16 rfl (lv_at hl 0 rfl) ?_
    refine mg_ldcw hx hb hown (E.2.2.2.2.1 39 (by decide)) d_Mod_sortHere_17 ?_
    refine mg_cV (As := [.ref (kst g.1 39)]) (rest := []) h (k_Mod_mustBe (l := l) (g := g) (α := α1) N 39 (by decide)) S hlocks hno E hI kw_Mod_412 ⟨Nat.le_of_ble_eq_true rfl, Nat.le_of_ble_eq_true rfl⟩ (mv_Mod E hI) rfl hl.1 rfl (Nat.le_of_ble_eq_true rfl) d_Mod_sortHere_20 (fun α5 H locs e6 h hI => ?_)
    refine lv_aload_n hx hb d_Mod_sortHere_23 rfl (lv_at hl 0 rfl) ?_
    refine mg_cI (As := []) (rest := []) h (k_Mod_peek (l := l) (g := g) (α := α5) N) S hlocks hno E hI kw_Mod_273 ⟨Nat.le_of_ble_eq_true rfl, Nat.le_of_ble_eq_true rfl⟩ (mv_Mod E hI) rfl hl.1 rfl (Nat.le_of_ble_eq_true rfl) d_Mod_sortHere_24 (fun v9 α7 H locs e8 h hI => ?_)
    refine lv_iconst (v := 2) hx hb d_Mod_sortHere_27 (by decide) ?_
    refine lv_icmp_eq (tgt := 36) hx hb d_Mod_sortHere_28 (by decide) (fun c10 => ?_) (fun c10 => ?_)
    · replace h := Eq.trans (if_pos c10).symm h
      refine lv_iconst (v := 0) hx hb d_Mod_sortHere_36 (by decide) ?_
      refine lv_istore_n (lv' := [(1, .int 0), (0, .ref (mad g 0))]) hx hb d_Mod_sortHere_37 rfl hl (by decide) rfl (fun ls hl => ?_)
      refine lv_aload_n hx hb d_Mod_sortHere_38 rfl (lv_at hl 1 rfl) ?_
      refine mf_tokenAt S E hI vt_1275 d_Mod_sortHere_39 ?_
      refine lv_istore_n (lv' := [(2, .int (α7.1 7)), (1, .int 0), (0, .ref (mad g 0))]) hx hb d_Mod_sortHere_42 rfl hl (by decide) rfl (fun ls hl => ?_)
      have L43 : ∀ (n43 : Nat) (x2_43 : Int32) (x1_43 : Int32) (β43 : mS) (H : Heap) (locs : List Loc) (ls : Array Slot), f_Mod_sortHere_43 N n43 x2_43 x1_43 β43 = some x → mI g A s β43 H locs → lv_has ls 3 [(2, .int x2_43), (1, .int x1_43), (0, .ref (mad g 0))] → W p l e (mR (43) (1263)) s m ([.ref (mad g 0)]).toArray below meth c H locs 0 0 (vEQ below (mQ g A (mQr x)) ([.ref (mad g 0)]).toArray s A) (F0 m 43 ls []) := by
        intro n43
        induction n43 with
        | zero => intro x2_43 x1_43 β43 H locs ls h hI hl; rw [f_Mod_sortHere_43] at h; cases h
        | succ n43 ih43 =>
          intro x2_43 x1_43 β43 H locs ls h hI hl
          rw [f_Mod_sortHere_43] at h
          refine lv_iload_n hx hb d_Mod_sortHere_43 rfl (lv_at hl 0 rfl) ?_
          refine lv_aload_n hx hb d_Mod_sortHere_44 rfl (lv_at hl 2 rfl) ?_
          refine mf_tokenEnd S E hI vt_1276 d_Mod_sortHere_45 ?_
          refine lv_icmp_ge (tgt := 72) hx hb d_Mod_sortHere_48 (by decide) (fun c11 => ?_) (fun c11 => ?_)
          · replace h := Eq.trans (if_pos c11).symm h
            refine lv_iload_n hx hb d_Mod_sortHere_72 rfl (lv_at hl 1 rfl) ?_
            refine lv_bipush (v := 99) hx hb d_Mod_sortHere_73 (by decide) ?_
            refine lv_icmp_le (tgt := 91) hx hb d_Mod_sortHere_75 (by decide) (fun c12 => ?_) (fun c12 => ?_)
            · replace h := Eq.trans (if_pos c12).symm h
              refine lv_aload_n hx hb d_Mod_sortHere_91 rfl (lv_at hl 2 rfl) ?_
              refine mg_cV (As := []) (rest := []) h (k_Mod_take (l := l) (g := g) (α := β43) N) S hlocks hno E hI kw_Mod_281 ⟨Nat.le_of_ble_eq_true rfl, Nat.le_of_ble_eq_true rfl⟩ (mv_Mod E hI) rfl hl.1 rfl (Nat.le_of_ble_eq_true rfl) d_Mod_sortHere_92 (fun α13 H locs e14 h hI => ?_)
              refine lv_iload_n hx hb d_Mod_sortHere_95 rfl (lv_at hl 1 rfl) ?_
              refine lv_iconst (v := 1) hx hb d_Mod_sortHere_96 (by decide) ?_
              refine lv_iadd hx hb d_Mod_sortHere_97 ?_
              exact mc_iret (w := (x1_43 + 1)) hx hb hr rfl hlocks E hI h d_Mod_sortHere_98
            · replace h := Eq.trans (if_neg c12).symm h
              refine mg_new S E hI vt_1457 d_Mod_sortHere_78 (fun q H hN => ?_)
              have hI := hN.i
              refine lv_dup hx hb d_Mod_sortHere_81 rfl ?_
              refine lv_iconst (v := 3) hx hb d_Mod_sortHere_82 (by decide) ?_
              refine lv_aload_n hx hb d_Mod_sortHere_83 rfl (lv_at hl 2 rfl) ?_
              refine mf_tokenAt S E hI vt_1275 d_Mod_sortHere_84 ?_
              refine mg_init S E hN vt_1460 hl.1 ⟨Nat.le_of_ble_eq_true rfl, Nat.le_of_ble_eq_true rfl⟩ (Nat.le_of_ble_eq_true rfl) d_Mod_sortHere_87 (fun H locs hN => ?_)
              exact mg_athrow S hlocks hno E hN h d_Mod_sortHere_90
          · replace h := Eq.trans (if_neg c11).symm h
            refine lv_bipush (v := 10) hx hb d_Mod_sortHere_51 (by decide) ?_
            refine lv_iload_n hx hb d_Mod_sortHere_53 rfl (lv_at hl 1 rfl) ?_
            refine lv_imul hx hb d_Mod_sortHere_54 ?_
            refine lv_aload_n hx hb d_Mod_sortHere_55 rfl (lv_at hl 2 rfl) ?_
            refine mf_tape S E hI vt_1266 d_Mod_sortHere_56 ?_
            refine lv_iload_n hx hb d_Mod_sortHere_59 rfl (lv_at hl 0 rfl) ?_
            by_cases c15 : x2_43 < 0 ∨ 65536 ≤ (x2_43 : Int32).toNatClampNeg
            · replace h := Eq.trans (if_pos c15).symm h
              cases h
            · replace h := Eq.trans (if_neg c15).symm h
              refine ml_tape S E hI c15 d_Mod_sortHere_60 ?_
              refine lv_iadd hx hb d_Mod_sortHere_61 ?_
              refine lv_bipush (v := 48) hx hb d_Mod_sortHere_62 (by decide) ?_
              refine lv_isub hx hb d_Mod_sortHere_64 ?_
              refine lv_istore_n (lv' := [(1, .int (((10 * x1_43) + (β43.2 0 (x2_43 : Int32).toNatClampNeg)) - 48)), (2, .int x2_43), (0, .ref (mad g 0))]) hx hb d_Mod_sortHere_65 rfl hl (by decide) rfl (fun ls hl => ?_)
              refine lv_iinc (v := (x2_43 + 1)) (lv' := [(2, .int (x2_43 + 1)), (1, .int (((10 * x1_43) + (β43.2 0 (x2_43 : Int32).toNatClampNeg)) - 48)), (0, .ref (mad g 0))]) hx hb d_Mod_sortHere_66 hl (k := 1) rfl rfl (by decide) rfl (fun ls hl => ?_)
              refine lv_goto (tgt := 43) hx hb d_Mod_sortHere_69 (by decide) ?_
              exact ih43 (x2_43 + 1) (((10 * x1_43) + (β43.2 0 (x2_43 : Int32).toNatClampNeg)) - 48) _ _ _ _ h hI (lv_sub hl [0, 1, 2] rfl)
      exact L43 N (α7.1 7) 0 _ _ _ _ h hI (lv_sub hl [0, 1, 2] rfl)
    · replace h := Eq.trans (if_neg c10).symm h
      refine lv_aload_n hx hb d_Mod_sortHere_31 rfl (lv_at hl 0 rfl) ?_
      obtain ⟨α16, e17, h⟩ := Option.bind_eq_some_iff.mp h
      refine mg_cant (As := []) (rest := []) ((k_Mod_cant (l := l) (g := g) (α := α7) N) _ e17) S hlocks hno E hI kw_Mod_277 ⟨Nat.le_of_ble_eq_true rfl, Nat.le_of_ble_eq_true rfl⟩ (mv_Mod E hI) rfl hl.1 rfl (Nat.le_of_ble_eq_true rfl) d_Mod_sortHere_32 (fun q H locs hN => ?_)
      exact mg_athrow S hlocks hno E hN h d_Mod_sortHere_35
  · replace h := Eq.trans (if_neg c4).symm h
    refine lv_aload_n hx hb d_Mod_sortHere_10 rfl (lv_at hl 0 rfl) ?_
    refine mg_cV (As := []) (rest := []) h (k_Mod_take (l := l) (g := g) (α := α1) N) S hlocks hno E hI kw_Mod_281 ⟨Nat.le_of_ble_eq_true rfl, Nat.le_of_ble_eq_true rfl⟩ (mv_Mod E hI) rfl hl.1 rfl (Nat.le_of_ble_eq_true rfl) d_Mod_sortHere_11 (fun α18 H locs e19 h hI => ?_)
    refine lv_iconst (v := 0) hx hb d_Mod_sortHere_14 (by decide) ?_
    exact mc_iret (w := 0) hx hb hr rfl hlocks E hI h d_Mod_sortHere_15
def f_Mod_spelled_18 (N : Nat) (r3 : Nat) (α : mS) : Nat → Int32 → Int32 → Int32 → Option Int32
  | 0, _, _, _ => none
  | n + 1, x4_18, x1_18, x2_18 => if x2_18 ≤ x4_18 then (some 1) else (if (x1_18 + x4_18) < 0 ∨ mSz r3 ≤ ((x1_18 + x4_18) : Int32).toNatClampNeg then none else (if ((α.1 7) + x4_18) < 0 ∨ 65536 ≤ (((α.1 7) + x4_18) : Int32).toNatClampNeg then none else (if (α.2 r3 ((x1_18 + x4_18) : Int32).toNatClampNeg) = (α.2 0 (((α.1 7) + x4_18) : Int32).toNatClampNeg) then (f_Mod_spelled_18 N r3 α n (x4_18 + 1) x1_18 x2_18) else (some 0))))
def f_Mod_spelled (N : Nat) (a1 : Int32) (a2 : Int32) (r3 : Nat) (α : mS) : Option Int32 := if a2 = ((α.1 8) - (α.1 7)) then (f_Mod_spelled_18 N r3 α N 0 a1 a2) else (some 0)
set_option maxHeartbeats 4000000 in
set_option maxRecDepth 100000 in
theorem k_Mod_spelled {l : Launch} {g : mG} {α : mS} (N : Nat) (a1 : Int32) (a2 : Int32) (r3 : Nat) (hr3 : r3 = 0 ∨ r3 = 9) : ∀ x, f_Mod_spelled N a1 a2 r3 α = some x → mV l g y_Mod_spelled b_Mod_spelled 5 (some .boolean) (1) (1) [.ref (mad g 0), .int a1, .int a2, .ref (mad g (1 + r3))] α x := by
  intro x h
  unfold f_Mod_spelled at h
  refine mv_ofW (by decide) (fun A p e s m args below meth c S hr hlocks hargs E hI => ?_)
  have hx := S.1
  have hb := S.2.1
  have hown := S.2.2.2.1
  have hT := S.2.2.2.2
  subst hargs
  have hl := lv_entry ([.ref (mad g 0), .int a1, .int a2, .ref (mad g (1 + r3))]) (n := 5) (Nat.le_of_ble_eq_true rfl)
  rw [lg_entry_eq]
  generalize (lg_sl ([.ref (mad g 0), .int a1, .int a2, .ref (mad g (1 + r3))]) ++ List.replicate (5 - (lg_sl ([.ref (mad g 0), .int a1, .int a2, .ref (mad g (1 + r3))])).length) Slot.unset).toArray = ls at hl ⊢
  have hl : lv_has ls 5 [(0, .ref (mad g 0)), (1, .int a1), (2, .int a2), (3, .ref (mad g (1 + r3)))] := hl
  refine lv_iload_n hx hb d_Mod_spelled_0 rfl (lv_at hl 2 rfl) ?_
  refine lv_aload_n hx hb d_Mod_spelled_1 rfl (lv_at hl 0 rfl) ?_
  refine mf_tokenEnd S E hI vt_1276 d_Mod_spelled_2 ?_
  refine lv_aload_n hx hb d_Mod_spelled_5 rfl (lv_at hl 0 rfl) ?_
  refine mf_tokenAt S E hI vt_1275 d_Mod_spelled_6 ?_
  refine lv_isub hx hb d_Mod_spelled_9 ?_
  refine lv_icmp_eq (tgt := 15) hx hb d_Mod_spelled_10 (by decide) (fun c1 => ?_) (fun c1 => ?_)
  · replace h := Eq.trans (if_pos c1).symm h
    refine lv_iconst (v := 0) hx hb d_Mod_spelled_15 (by decide) ?_
    refine lv_istore (lv' := [(4, .int 0), (0, .ref (mad g 0)), (1, .int a1), (2, .int a2), (3, .ref (mad g (1 + r3)))]) hx hb d_Mod_spelled_16 hl (by decide) rfl (fun ls hl => ?_)
    have L18 : ∀ (n18 : Nat) (x4_18 : Int32) (x1_18 : Int32) (x2_18 : Int32) (ls : Array Slot), f_Mod_spelled_18 N r3 α n18 x4_18 x1_18 x2_18 = some x → lv_has ls 5 [(4, .int x4_18), (0, .ref (mad g 0)), (1, .int x1_18), (2, .int x2_18), (3, .ref (mad g (1 + r3)))] → W p l e (mP (1) (1)) s m ([.ref (mad g 0), .int a1, .int a2, .ref (mad g (1 + r3))]).toArray below meth c s.heap [] 0 0 (MQ below (QcRead x) ([.ref (mad g 0), .int a1, .int a2, .ref (mad g (1 + r3))]).toArray s 0 0 (fun _ => False)) (F0 m 18 ls []) := by
      intro n18
      induction n18 with
      | zero => intro x4_18 x1_18 x2_18 ls h hl; rw [f_Mod_spelled_18] at h; cases h
      | succ n18 ih18 =>
        intro x4_18 x1_18 x2_18 ls h hl
        rw [f_Mod_spelled_18] at h
        refine lv_iload hx hb d_Mod_spelled_18 (lv_at hl 0 rfl) ?_
        refine lv_iload_n hx hb d_Mod_spelled_20 rfl (lv_at hl 3 rfl) ?_
        refine lv_icmp_ge (tgt := 53) hx hb d_Mod_spelled_21 (by decide) (fun c2 => ?_) (fun c2 => ?_)
        · replace h := Eq.trans (if_pos c2).symm h
          refine lv_iconst (v := 1) hx hb d_Mod_spelled_53 (by decide) ?_
          exact kv_iret (w := 1) hx hb hr (by decide) hlocks (Option.some.inj h) d_Mod_spelled_54
        · replace h := Eq.trans (if_neg c2).symm h
          refine lv_aload_n hx hb d_Mod_spelled_24 rfl (lv_at hl 4 rfl) ?_
          refine lv_iload_n hx hb d_Mod_spelled_25 rfl (lv_at hl 2 rfl) ?_
          refine lv_iload hx hb d_Mod_spelled_26 (lv_at hl 0 rfl) ?_
          refine lv_iadd hx hb d_Mod_spelled_28 ?_
          by_cases c3 : (x1_18 + x4_18) < 0 ∨ mSz r3 ≤ ((x1_18 + x4_18) : Int32).toNatClampNeg
          · replace h := Eq.trans (if_pos c3).symm h
            cases h
          · replace h := Eq.trans (if_neg c3).symm h
            refine ml_ar hr3 S E hI c3 d_Mod_spelled_29 ?_
            refine lv_aload_n hx hb d_Mod_spelled_30 rfl (lv_at hl 1 rfl) ?_
            refine mf_tape S E hI vt_1266 d_Mod_spelled_31 ?_
            refine lv_aload_n hx hb d_Mod_spelled_34 rfl (lv_at hl 1 rfl) ?_
            refine mf_tokenAt S E hI vt_1275 d_Mod_spelled_35 ?_
            refine lv_iload hx hb d_Mod_spelled_38 (lv_at hl 0 rfl) ?_
            refine lv_iadd hx hb d_Mod_spelled_40 ?_
            by_cases c4 : ((α.1 7) + x4_18) < 0 ∨ 65536 ≤ (((α.1 7) + x4_18) : Int32).toNatClampNeg
            · replace h := Eq.trans (if_pos c4).symm h
              cases h
            · replace h := Eq.trans (if_neg c4).symm h
              refine ml_tape S E hI c4 d_Mod_spelled_41 ?_
              refine lv_icmp_eq (tgt := 47) hx hb d_Mod_spelled_42 (by decide) (fun c5 => ?_) (fun c5 => ?_)
              · replace h := Eq.trans (if_pos c5).symm h
                refine lv_iinc (v := (x4_18 + 1)) (lv' := [(4, .int (x4_18 + 1)), (0, .ref (mad g 0)), (1, .int x1_18), (2, .int x2_18), (3, .ref (mad g (1 + r3)))]) hx hb d_Mod_spelled_47 hl (k := 0) rfl rfl (by decide) rfl (fun ls hl => ?_)
                refine lv_goto (tgt := 18) hx hb d_Mod_spelled_50 (by decide) ?_
                exact ih18 (x4_18 + 1) x1_18 x2_18 _ h (lv_sub hl [0, 1, 2, 3, 4] rfl)
              · replace h := Eq.trans (if_neg c5).symm h
                refine lv_iconst (v := 0) hx hb d_Mod_spelled_45 (by decide) ?_
                exact kv_iret (w := 0) hx hb hr (by decide) hlocks (Option.some.inj h) d_Mod_spelled_46
    exact L18 N 0 a1 a2 _ h (lv_sub hl [0, 1, 2, 3, 4] rfl)
  · replace h := Eq.trans (if_neg c1).symm h
    refine lv_iconst (v := 0) hx hb d_Mod_spelled_13 (by decide) ?_
    exact kv_iret (w := 0) hx hb hr (by decide) hlocks (Option.some.inj h) d_Mod_spelled_14
theorem kw_Mod_376 : kWv "FamilyKernelModel" 376 "FamilyKernelModel" y_Mod_spelled b_Mod_spelled 5 (some .boolean) 3 := ⟨vt_1472, vt_1473, vt_1474, vt_1349, vt_1475, by decide, by decide, by decide +kernel⟩
def f_Mod_constant_1_2 (N : Nat)  (α : mS) : Nat → Int32 → Int32 → Option Int32
  | 0, _, _ => none
  | n + 1, x2_2, x1_2 => if x1_2 ≤ x2_2 then (some (-1)) else (if x2_2 < 0 ∨ 301 ≤ (x2_2 : Int32).toNatClampNeg then none else (if x2_2 < 0 ∨ 301 ≤ (x2_2 : Int32).toNatClampNeg then none else (((f_Mod_spelled N (α.2 10 (x2_2 : Int32).toNatClampNeg) (α.2 11 (x2_2 : Int32).toNatClampNeg) 9 α)).bind fun v4 => (if v4 = 0 then (f_Mod_constant_1_2 N α n (x2_2 + 1) x1_2) else (some x2_2)))))
def f_Mod_constant_1 (N : Nat) (a1 : Int32) (α : mS) : Option Int32 := f_Mod_constant_1_2 N α N 0 a1
set_option maxHeartbeats 4000000 in
set_option maxRecDepth 100000 in
theorem k_Mod_constant_1 {l : Launch} {g : mG} {α : mS} (N : Nat) (a1 : Int32)  : ∀ x, f_Mod_constant_1 N a1 α = some x → mV l g y_Mod_constant_1 b_Mod_constant_1 3 (some .int) (2) (25) [.ref (mad g 0), .int a1] α x := by
  intro x h
  unfold f_Mod_constant_1 at h
  refine mv_ofW (by decide) (fun A p e s m args below meth c S hr hlocks hargs E hI => ?_)
  have hx := S.1
  have hb := S.2.1
  have hown := S.2.2.2.1
  have hT := S.2.2.2.2
  subst hargs
  have hl := lv_entry ([.ref (mad g 0), .int a1]) (n := 3) (Nat.le_of_ble_eq_true rfl)
  rw [lg_entry_eq]
  generalize (lg_sl ([.ref (mad g 0), .int a1]) ++ List.replicate (3 - (lg_sl ([.ref (mad g 0), .int a1])).length) Slot.unset).toArray = ls at hl ⊢
  have hl : lv_has ls 3 [(0, .ref (mad g 0)), (1, .int a1)] := hl
  refine lv_iconst (v := 0) hx hb d_Mod_constant_1_0 (by decide) ?_
  refine lv_istore_n (lv' := [(2, .int 0), (0, .ref (mad g 0)), (1, .int a1)]) hx hb d_Mod_constant_1_1 rfl hl (by decide) rfl (fun ls hl => ?_)
  have L2 : ∀ (n2 : Nat) (x2_2 : Int32) (x1_2 : Int32) (ls : Array Slot), f_Mod_constant_1_2 N α n2 x2_2 x1_2 = some x → lv_has ls 3 [(2, .int x2_2), (0, .ref (mad g 0)), (1, .int x1_2)] → W p l e (mP (2) (25)) s m ([.ref (mad g 0), .int a1]).toArray below meth c s.heap [] 0 0 (MQ below (QcRead x) ([.ref (mad g 0), .int a1]).toArray s 0 0 (fun _ => False)) (F0 m 2 ls []) := by
    intro n2
    induction n2 with
    | zero => intro x2_2 x1_2 ls h hl; rw [f_Mod_constant_1_2] at h; cases h
    | succ n2 ih2 =>
      intro x2_2 x1_2 ls h hl
      rw [f_Mod_constant_1_2] at h
      refine lv_iload_n hx hb d_Mod_constant_1_2 rfl (lv_at hl 0 rfl) ?_
      refine lv_iload_n hx hb d_Mod_constant_1_3 rfl (lv_at hl 2 rfl) ?_
      refine lv_icmp_ge (tgt := 38) hx hb d_Mod_constant_1_4 (by decide) (fun c1 => ?_) (fun c1 => ?_)
      · replace h := Eq.trans (if_pos c1).symm h
        refine lv_iconst (v := (-1)) hx hb d_Mod_constant_1_38 (by decide) ?_
        exact kv_iret (w := (-1)) hx hb hr rfl hlocks (Option.some.inj h) d_Mod_constant_1_39
      · replace h := Eq.trans (if_neg c1).symm h
        refine lv_aload_n hx hb d_Mod_constant_1_7 rfl (lv_at hl 1 rfl) ?_
        refine lv_aload_n hx hb d_Mod_constant_1_8 rfl (lv_at hl 1 rfl) ?_
        refine mf_wordAt S E hI vt_1292 d_Mod_constant_1_9 ?_
        refine lv_iload_n hx hb d_Mod_constant_1_12 rfl (lv_at hl 0 rfl) ?_
        by_cases c2 : x2_2 < 0 ∨ 301 ≤ (x2_2 : Int32).toNatClampNeg
        · replace h := Eq.trans (if_pos c2).symm h
          cases h
        · replace h := Eq.trans (if_neg c2).symm h
          refine ml_wordAt S E hI c2 d_Mod_constant_1_13 ?_
          refine lv_aload_n hx hb d_Mod_constant_1_14 rfl (lv_at hl 1 rfl) ?_
          refine mf_wordSize S E hI vt_1293 d_Mod_constant_1_15 ?_
          refine lv_iload_n hx hb d_Mod_constant_1_18 rfl (lv_at hl 0 rfl) ?_
          by_cases c3 : x2_2 < 0 ∨ 301 ≤ (x2_2 : Int32).toNatClampNeg
          · replace h := Eq.trans (if_pos c3).symm h
            cases h
          · replace h := Eq.trans (if_neg c3).symm h
            refine ml_wordSize S E hI c3 d_Mod_constant_1_19 ?_
            refine lv_aload_n hx hb d_Mod_constant_1_20 rfl (lv_at hl 1 rfl) ?_
            refine mf_words S E hI vt_1291 d_Mod_constant_1_21 ?_
            obtain ⟨v4, e5, h⟩ := Option.bind_eq_some_iff.mp h
            refine mg_p (As := [.int (α.2 10 (x2_2 : Int32).toNatClampNeg), .int (α.2 11 (x2_2 : Int32).toNatClampNeg), .ref (mad g 10)]) (rest := []) ((k_Mod_spelled (l := l) (g := g) (α := α) N (α.2 10 (x2_2 : Int32).toNatClampNeg) (α.2 11 (x2_2 : Int32).toNatClampNeg) 9 (by decide)) _ e5) S E hI kw_Mod_376 (Or.inr rfl) ⟨Nat.le_of_ble_eq_true rfl, Nat.le_of_ble_eq_true rfl⟩ (mv_Mod E hI) rfl hl.1 rfl (Nat.le_of_ble_eq_true rfl) d_Mod_constant_1_24 rfl ?_
            refine lv_if_eq (tgt := 32) hx hb d_Mod_constant_1_27 (by decide) (fun c6 => ?_) (fun c6 => ?_)
            · replace h := Eq.trans (if_pos c6).symm h
              refine lv_iinc (v := (x2_2 + 1)) (lv' := [(2, .int (x2_2 + 1)), (0, .ref (mad g 0)), (1, .int x1_2)]) hx hb d_Mod_constant_1_32 hl (k := 0) rfl rfl (by decide) rfl (fun ls hl => ?_)
              refine lv_goto (tgt := 2) hx hb d_Mod_constant_1_35 (by decide) ?_
              exact ih2 (x2_2 + 1) x1_2 _ h (lv_sub hl [0, 1, 2] rfl)
            · replace h := Eq.trans (if_neg c6).symm h
              refine lv_iload_n hx hb d_Mod_constant_1_30 rfl (lv_at hl 0 rfl) ?_
              exact kv_iret (w := x2_2) hx hb hr rfl hlocks (Option.some.inj h) d_Mod_constant_1_31
  exact L2 N 0 a1 _ h (lv_sub hl [0, 1, 2] rfl)
theorem kw_Mod_373 : kWv "FamilyKernelModel" 373 "FamilyKernelModel" y_Mod_constant_1 b_Mod_constant_1 3 (some .int) 1 := ⟨vt_1453, vt_1454, vt_1455, vt_1349, vt_1456, by decide, by decide, by decide +kernel⟩
def f_Mod_constant_0 (N : Nat)  (α : mS) : Option Int32 := ((f_Mod_constant_1 N (α.1 28) α)).bind fun v1 => (some v1)
set_option maxHeartbeats 4000000 in
set_option maxRecDepth 100000 in
theorem k_Mod_constant_0 {l : Launch} {g : mG} {α : mS} (N : Nat)   : ∀ x, f_Mod_constant_0 N α = some x → mV l g y_Mod_constant_0 b_Mod_constant_0 1 (some .int) (3) (47) [.ref (mad g 0)] α x := by
  intro x h
  unfold f_Mod_constant_0 at h
  refine mv_ofW (by decide) (fun A p e s m args below meth c S hr hlocks hargs E hI => ?_)
  have hx := S.1
  have hb := S.2.1
  have hown := S.2.2.2.1
  have hT := S.2.2.2.2
  subst hargs
  have hl := lv_entry ([.ref (mad g 0)]) (n := 1) (Nat.le_of_ble_eq_true rfl)
  rw [lg_entry_eq]
  generalize (lg_sl ([.ref (mad g 0)]) ++ List.replicate (1 - (lg_sl ([.ref (mad g 0)])).length) Slot.unset).toArray = ls at hl ⊢
  have hl : lv_has ls 1 [(0, .ref (mad g 0))] := hl
  refine lv_aload_n hx hb d_Mod_constant_0_0 rfl (lv_at hl 0 rfl) ?_
  refine lv_aload_n hx hb d_Mod_constant_0_1 rfl (lv_at hl 0 rfl) ?_
  refine mf_known S E hI vt_1330 d_Mod_constant_0_2 ?_
  obtain ⟨v1, e2, h⟩ := Option.bind_eq_some_iff.mp h
  refine mg_p (As := [.int (α.1 28)]) (rest := []) ((k_Mod_constant_1 (l := l) (g := g) (α := α) N (α.1 28)) _ e2) S E hI kw_Mod_373 (Or.inr rfl) ⟨Nat.le_of_ble_eq_true rfl, Nat.le_of_ble_eq_true rfl⟩ (mv_Mod E hI) rfl hl.1 rfl (Nat.le_of_ble_eq_true rfl) d_Mod_constant_0_5 rfl ?_
  exact kv_iret (w := v1) hx hb hr rfl hlocks (Option.some.inj h) d_Mod_constant_0_8
theorem kw_Mod_380 : kWv "FamilyKernelModel" 380 "FamilyKernelModel" y_Mod_reserved b_Mod_reserved 1 (some .boolean) 0 := ⟨vt_1449, vt_1450, vt_1451, vt_1349, vt_1452, by decide, by decide, by decide +kernel⟩
def f_Mod_atomHere (N : Nat)  (α : mS) : Option (kO × mS) := mBi (f_Mod_peek N α) fun v3 α1 => (if v3 = 40 then (some (some (some 1), α1)) else (mBi (f_Mod_peek N α1) fun v7 α5 => (if v7 = 1 then (mBi (f_Mod_reserved N α5) fun v11 α9 => (if v11 = 0 then (some (some (some 1), α9)) else (mBi (f_Mod_is N 37 α9) fun v15 α13 => (if v15 = 0 then (mBi (f_Mod_is N 38 α13) fun v19 α17 => (if v19 = 0 then (mBi (f_Mod_is N 39 α17) fun v23 α21 => (if v23 = 0 then (some (some (some 0), α21)) else (some (some (some 1), α21)))) else (some (some (some 1), α17)))) else (some (some (some 1), α13)))))) else (some (some (some 0), α5)))))
set_option maxHeartbeats 4000000 in
set_option maxRecDepth 100000 in
theorem k_Mod_atomHere {l : Launch} {g : mG} {α : mS} (N : Nat)   : ∀ x, f_Mod_atomHere N α = some x → mC l g y_Mod_atomHere b_Mod_atomHere 1 (some .boolean) (7) (153) [.ref (mad g 0)] α (mQr x) := by
  intro x h
  unfold f_Mod_atomHere at h
  refine mc_ofW (by decide) (fun A p e s m args below meth c S hr hlocks hno hargs E hI => ?_)
  have hx := S.1
  have hb := S.2.1
  have hown := S.2.2.2.1
  have hT := S.2.2.2.2
  subst hargs
  have hl := lv_entry ([.ref (mad g 0)]) (n := 1) (Nat.le_of_ble_eq_true rfl)
  rw [lg_entry_eq]
  generalize (lg_sl ([.ref (mad g 0)]) ++ List.replicate (1 - (lg_sl ([.ref (mad g 0)])).length) Slot.unset).toArray = ls at hl ⊢
  have hl : lv_has ls 1 [(0, .ref (mad g 0))] := hl
  refine lv_aload_n hx hb d_Mod_atomHere_0 rfl (lv_at hl 0 rfl) ?_
  refine mg_cI (As := []) (rest := []) h (k_Mod_peek (l := l) (g := g) (α := α) N) S hlocks hno E hI kw_Mod_273 ⟨Nat.le_of_ble_eq_true rfl, Nat.le_of_ble_eq_true rfl⟩ (mv_Mod E hI) rfl hl.1 rfl (Nat.le_of_ble_eq_true rfl) d_Mod_atomHere_1 (fun v3 α1 H locs e2 h hI => ?_)
  refine lv_bipush (v := 40) hx hb d_Mod_atomHere_4 (by decide) ?_
  refine lv_icmp_eq (tgt := 54) hx hb d_Mod_atomHere_6 (by decide) (fun c4 => ?_) (fun c4 => ?_)
  · replace h := Eq.trans (if_pos c4).symm h
    refine lv_iconst (v := 1) hx hb d_Mod_atomHere_54 (by decide) ?_
    refine lv_goto (tgt := 59) hx hb d_Mod_atomHere_55 (by decide) ?_
    exact mc_iret (w := 1) hx hb hr (by decide) hlocks E hI h d_Mod_atomHere_59
  · replace h := Eq.trans (if_neg c4).symm h
    refine lv_aload_n hx hb d_Mod_atomHere_9 rfl (lv_at hl 0 rfl) ?_
    refine mg_cI (As := []) (rest := []) h (k_Mod_peek (l := l) (g := g) (α := α1) N) S hlocks hno E hI kw_Mod_273 ⟨Nat.le_of_ble_eq_true rfl, Nat.le_of_ble_eq_true rfl⟩ (mv_Mod E hI) rfl hl.1 rfl (Nat.le_of_ble_eq_true rfl) d_Mod_atomHere_10 (fun v7 α5 H locs e6 h hI => ?_)
    refine lv_iconst (v := 1) hx hb d_Mod_atomHere_13 (by decide) ?_
    refine lv_icmp_ne (tgt := 58) hx hb d_Mod_atomHere_14 (by decide) (fun c8 => ?_) (fun c8 => ?_)
    · replace h := Eq.trans (if_neg c8).symm h
      refine lv_iconst (v := 0) hx hb d_Mod_atomHere_58 (by decide) ?_
      exact mc_iret (w := 0) hx hb hr (by decide) hlocks E hI h d_Mod_atomHere_59
    · replace h := Eq.trans (if_pos c8).symm h
      refine lv_aload_n hx hb d_Mod_atomHere_17 rfl (lv_at hl 0 rfl) ?_
      refine mg_cI (As := []) (rest := []) h (k_Mod_reserved (l := l) (g := g) (α := α5) N) S hlocks hno E hI kw_Mod_380 ⟨Nat.le_of_ble_eq_true rfl, Nat.le_of_ble_eq_true rfl⟩ (mv_Mod E hI) rfl hl.1 rfl (Nat.le_of_ble_eq_true rfl) d_Mod_atomHere_18 (fun v11 α9 H locs e10 h hI => ?_)
      refine lv_if_eq (tgt := 54) hx hb d_Mod_atomHere_21 (by decide) (fun c12 => ?_) (fun c12 => ?_)
      · replace h := Eq.trans (if_pos c12).symm h
        refine lv_iconst (v := 1) hx hb d_Mod_atomHere_54 (by decide) ?_
        refine lv_goto (tgt := 59) hx hb d_Mod_atomHere_55 (by decide) ?_
        exact mc_iret (w := 1) hx hb hr (by decide) hlocks E hI h d_Mod_atomHere_59
      · replace h := Eq.trans (if_neg c12).symm h
        refine lv_aload_n hx hb d_Mod_atomHere_24 rfl (lv_at hl 0 rfl) ?_
        refine mg_ldcw hx hb hown (E.2.2.2.2.1 37 (by decide)) d_Mod_atomHere_25 ?_
        refine mg_cI (As := [.ref (kst g.1 37)]) (rest := []) h (k_Mod_is (l := l) (g := g) (α := α9) N 37 (by decide)) S hlocks hno E hI kw_Mod_293 ⟨Nat.le_of_ble_eq_true rfl, Nat.le_of_ble_eq_true rfl⟩ (mv_Mod E hI) rfl hl.1 rfl (Nat.le_of_ble_eq_true rfl) d_Mod_atomHere_28 (fun v15 α13 H locs e14 h hI => ?_)
        refine lv_if_ne (tgt := 54) hx hb d_Mod_atomHere_31 (by decide) (fun c16 => ?_) (fun c16 => ?_)
        · replace h := Eq.trans (if_neg c16).symm h
          refine lv_iconst (v := 1) hx hb d_Mod_atomHere_54 (by decide) ?_
          refine lv_goto (tgt := 59) hx hb d_Mod_atomHere_55 (by decide) ?_
          exact mc_iret (w := 1) hx hb hr (by decide) hlocks E hI h d_Mod_atomHere_59
        · replace h := Eq.trans (if_pos c16).symm h
          refine lv_aload_n hx hb d_Mod_atomHere_34 rfl (lv_at hl 0 rfl) ?_
          refine mg_ldcw hx hb hown (E.2.2.2.2.1 38 (by decide)) d_Mod_atomHere_35 ?_
          refine mg_cI (As := [.ref (kst g.1 38)]) (rest := []) h (k_Mod_is (l := l) (g := g) (α := α13) N 38 (by decide)) S hlocks hno E hI kw_Mod_293 ⟨Nat.le_of_ble_eq_true rfl, Nat.le_of_ble_eq_true rfl⟩ (mv_Mod E hI) rfl hl.1 rfl (Nat.le_of_ble_eq_true rfl) d_Mod_atomHere_38 (fun v19 α17 H locs e18 h hI => ?_)
          refine lv_if_ne (tgt := 54) hx hb d_Mod_atomHere_41 (by decide) (fun c20 => ?_) (fun c20 => ?_)
          · replace h := Eq.trans (if_neg c20).symm h
            refine lv_iconst (v := 1) hx hb d_Mod_atomHere_54 (by decide) ?_
            refine lv_goto (tgt := 59) hx hb d_Mod_atomHere_55 (by decide) ?_
            exact mc_iret (w := 1) hx hb hr (by decide) hlocks E hI h d_Mod_atomHere_59
          · replace h := Eq.trans (if_pos c20).symm h
            refine lv_aload_n hx hb d_Mod_atomHere_44 rfl (lv_at hl 0 rfl) ?_
            refine mg_ldcw hx hb hown (E.2.2.2.2.1 39 (by decide)) d_Mod_atomHere_45 ?_
            refine mg_cI (As := [.ref (kst g.1 39)]) (rest := []) h (k_Mod_is (l := l) (g := g) (α := α17) N 39 (by decide)) S hlocks hno E hI kw_Mod_293 ⟨Nat.le_of_ble_eq_true rfl, Nat.le_of_ble_eq_true rfl⟩ (mv_Mod E hI) rfl hl.1 rfl (Nat.le_of_ble_eq_true rfl) d_Mod_atomHere_48 (fun v23 α21 H locs e22 h hI => ?_)
            refine lv_if_eq (tgt := 58) hx hb d_Mod_atomHere_51 (by decide) (fun c24 => ?_) (fun c24 => ?_)
            · replace h := Eq.trans (if_pos c24).symm h
              refine lv_iconst (v := 0) hx hb d_Mod_atomHere_58 (by decide) ?_
              exact mc_iret (w := 0) hx hb hr (by decide) hlocks E hI h d_Mod_atomHere_59
            · replace h := Eq.trans (if_neg c24).symm h
              refine lv_iconst (v := 1) hx hb d_Mod_atomHere_54 (by decide) ?_
              refine lv_goto (tgt := 59) hx hb d_Mod_atomHere_55 (by decide) ?_
              exact mc_iret (w := 1) hx hb hr (by decide) hlocks E hI h d_Mod_atomHere_59
