theorem kw_Pri_63 : kWv "FamilyKernel$Printer" 63 "FamilyKernel$Row" y_Row_push b_Row_push 2 none 1 := ⟨vt_1134, vt_252, vt_253, vt_4, vt_254, by decide, by decide, by decide +kernel⟩
def f_Pri_later (N : Nat) (a1 : Int32) (a2 : Int32) (a3 : Int32) (α : kS) : Option (kO × kS) := kBv (fR_push α 20 a1) fun α1 => (kBv (fR_push α1 20 a2) fun α3 => (kBv (fR_push α3 20 a3) fun α5 => (some (some none, α5))))
set_option maxHeartbeats 4000000 in
set_option maxRecDepth 100000 in
theorem k_Pri_later {l : Launch} {g : kG} {α : kS} (hfl : kFl l) (N : Nat) (a1 : Int32) (a2 : Int32) (a3 : Int32)  : ∀ x, f_Pri_later N a1 a2 a3 α = some x → kC l g y_Pri_later b_Pri_later 4 none 31 921 [.ref (kad g 10), .int a1, .int a2, .int a3] α (kQr x) := by
  intro x h
  unfold f_Pri_later at h
  refine kc_ofW (by decide) (fun A ad0 p e s m args below meth c S hr hlocks hno hadm hargs E hI => ?_)
  have hx := S.1
  have hb := S.2.1
  have hown := S.2.2.2.1
  have hT := S.2.2.2.2
  subst hargs
  have hl := lv_entry ([.ref (kad g 10), .int a1, .int a2, .int a3]) (n := 4) (Nat.le_of_ble_eq_true rfl)
  rw [lg_entry_eq]
  generalize (lg_sl ([.ref (kad g 10), .int a1, .int a2, .int a3]) ++ List.replicate (4 - (lg_sl ([.ref (kad g 10), .int a1, .int a2, .int a3])).length) Slot.unset).toArray = ls at hl ⊢
  have hl : lv_has ls 4 [(0, .ref (kad g 10)), (1, .int a1), (2, .int a2), (3, .int a3)] := hl
  refine lv_aload_n hx hb d_Pri_later_0 rfl (lv_at hl 0 rfl) ?_
  refine kf_Pri_todo S E hI.1 vt_167 d_Pri_later_1 ?_
  refine lv_iload_n hx hb d_Pri_later_4 rfl (lv_at hl 1 rfl) ?_
  refine kg_cV (As := [.int a1]) (rest := []) h (k_Row_push (l := l) (g := g) (α := α) (r := 20) (by decide) a1) S hlocks hno E hI kw_Pri_63 ⟨Nat.le_of_ble_eq_true rfl, Nat.le_of_ble_eq_true rfl⟩ (kv_Row (r := 20) (by decide) E hI.1) rfl hl.1 rfl (Nat.le_of_ble_eq_true rfl) d_Pri_later_5 (fun α1 ad H locs cells slots e2 h hRm hI => ?_)
  refine lv_aload_n hx hb d_Pri_later_8 rfl (lv_at hl 0 rfl) ?_
  refine kf_Pri_todo S E hI.1 vt_167 d_Pri_later_9 ?_
  refine lv_iload_n hx hb d_Pri_later_12 rfl (lv_at hl 2 rfl) ?_
  refine kg_cV (As := [.int a2]) (rest := []) h (k_Row_push (l := l) (g := g) (α := α1) (r := 20) (by decide) a2) S hlocks hno E hI kw_Pri_63 ⟨Nat.le_of_ble_eq_true rfl, Nat.le_of_ble_eq_true rfl⟩ (kv_Row (r := 20) (by decide) E hI.1) rfl hl.1 rfl (Nat.le_of_ble_eq_true rfl) d_Pri_later_13 (fun α3 ad H locs cells slots e4 h hRm hI => ?_)
  refine lv_aload_n hx hb d_Pri_later_16 rfl (lv_at hl 0 rfl) ?_
  refine kf_Pri_todo S E hI.1 vt_167 d_Pri_later_17 ?_
  refine lv_iload_n hx hb d_Pri_later_20 rfl (lv_at hl 3 rfl) ?_
  refine kg_cV (As := [.int a3]) (rest := []) h (k_Row_push (l := l) (g := g) (α := α3) (r := 20) (by decide) a3) S hlocks hno E hI kw_Pri_63 ⟨Nat.le_of_ble_eq_true rfl, Nat.le_of_ble_eq_true rfl⟩ (kv_Row (r := 20) (by decide) E hI.1) rfl hl.1 rfl (Nat.le_of_ble_eq_true rfl) d_Pri_later_21 (fun α5 ad H locs cells slots e6 h hRm hI => ?_)
  exact kc_vret hx hb hr hlocks E hI h d_Pri_later_24
theorem kw_Pri_69 : kWv "FamilyKernel$Printer" 69 "java/lang/String" y_Str_length b_Str_length 1 (some .int) 0 := ⟨vt_1143, vt_304, vt_305, vt_303, vt_306, by decide, by decide, by decide +kernel⟩
theorem kw_Pri_74 : kWv "FamilyKernel$Printer" 74 "java/lang/String" y_Str_charAt b_Str_charAt 2 (some .char) 1 := ⟨vt_1144, vt_308, vt_309, vt_303, vt_310, by decide, by decide, by decide +kernel⟩
def f_Pri_text_2 (N : Nat) (r1 : Nat) : Nat → Int32 → kS → Option (kO × kS)
  | 0, _, _ => none
  | n + 1, x2, β => if (sLn r1) ≤ x2 then (some (some none, β)) else (((sCh r1 x2)).bind fun v2 => (kBv (fR_push β 1 v2) fun α4 => (f_Pri_text_2 N r1 n (x2 + 1) α4)))
def f_Pri_text (N : Nat) (r1 : Nat) (α : kS) : Option (kO × kS) := f_Pri_text_2 N r1 N 0 α
set_option maxHeartbeats 4000000 in
set_option maxRecDepth 100000 in
theorem k_Pri_text {l : Launch} {g : kG} {α : kS} (hfl : kFl l) (N : Nat) (r1 : Nat) (hr1 : r1 < 51) : ∀ x, f_Pri_text N r1 α = some x → kC l g y_Pri_text b_Pri_text 3 none 31 921 [.ref (kad g 10), .ref (kst g r1)] α (kQr x) := by
  intro x h
  unfold f_Pri_text at h
  refine kc_ofW (by decide) (fun A ad0 p e s m args below meth c S hr hlocks hno hadm hargs E hI => ?_)
  have hx := S.1
  have hb := S.2.1
  have hown := S.2.2.2.1
  have hT := S.2.2.2.2
  subst hargs
  have hl := lv_entry ([.ref (kad g 10), .ref (kst g r1)]) (n := 3) (Nat.le_of_ble_eq_true rfl)
  rw [lg_entry_eq]
  generalize (lg_sl ([.ref (kad g 10), .ref (kst g r1)]) ++ List.replicate (3 - (lg_sl ([.ref (kad g 10), .ref (kst g r1)])).length) Slot.unset).toArray = ls at hl ⊢
  have hl : lv_has ls 3 [(0, .ref (kad g 10)), (1, .ref (kst g r1))] := hl
  refine lv_iconst (v := 0) hx hb d_Pri_text_0 (by decide) ?_
  refine lv_istore_n (lv' := [(2, .int 0), (0, .ref (kad g 10)), (1, .ref (kst g r1))]) hx hb d_Pri_text_1 rfl hl (by decide) rfl (fun ls hl => ?_)
  have L2 : ∀ (n2 : Nat) (x2 : Int32) (β : kS) (ad : Nat → Nat) (H : Heap) (locs : List Loc) (cells slots : Nat) (ls : Array Slot), f_Pri_text_2 N r1 n2 x2 β = some x → kI g A s α ad0 β ad H locs cells slots → lv_has ls 3 [(2, .int x2), (0, .ref (kad g 10)), (1, .ref (kst g r1))] → W p l e (kR 31 921 α) s m ([.ref (kad g 10), .ref (kst g r1)]).toArray below meth c H locs cells slots (vEQ below (kQ g A α ad0 (kQr x)) ([.ref (kad g 10), .ref (kst g r1)]).toArray s A) (F0 m 2 ls []) := by
    intro n2
    induction n2 with
    | zero => intro x2 β ad H locs cells slots ls h hI hl; rw [f_Pri_text_2] at h; cases h
    | succ n2 ih2 =>
      intro x2 β ad H locs cells slots ls h hI hl
      rw [f_Pri_text_2] at h
      refine lv_iload_n hx hb d_Pri_text_2 rfl (lv_at hl 0 rfl) ?_
      refine lv_aload_n hx hb d_Pri_text_3 rfl (lv_at hl 2 rfl) ?_
      refine kg_p (As := []) (rest := [.int x2]) (k_Str_length (l := l) (g := g) (α := β) hr1) S E hI.1 kw_Pri_69 ⟨Nat.le_of_ble_eq_true rfl, Nat.le_of_ble_eq_true rfl⟩ hI.room (kv_Str hr1 E hI.1) rfl hl.1 rfl (Nat.le_of_ble_eq_true rfl) d_Pri_text_4 rfl ?_
      refine lv_icmp_ge (tgt := 28) hx hb d_Pri_text_7 (by decide) (fun c1 => ?_) (fun c1 => ?_)
      · replace h := Eq.trans (if_pos c1).symm h
        exact kc_vret hx hb hr hlocks E hI h d_Pri_text_28
      · replace h := Eq.trans (if_neg c1).symm h
        refine lv_aload_n hx hb d_Pri_text_10 rfl (lv_at hl 1 rfl) ?_
        refine kf_Pri_shown S E hI.1 vt_161 d_Pri_text_11 ?_
        refine lv_aload_n hx hb d_Pri_text_14 rfl (lv_at hl 2 rfl) ?_
        refine lv_iload_n hx hb d_Pri_text_15 rfl (lv_at hl 0 rfl) ?_
        obtain ⟨v2, e3, h⟩ := Option.bind_eq_some_iff.mp h
        refine kg_p (As := [.int x2]) (rest := [.ref (kad g (11 + 1))]) ((k_Str_charAt (l := l) (g := g) (α := β) hr1 x2) _ e3) S E hI.1 kw_Pri_74 ⟨Nat.le_of_ble_eq_true rfl, Nat.le_of_ble_eq_true rfl⟩ hI.room (kv_Str hr1 E hI.1) rfl hl.1 rfl (Nat.le_of_ble_eq_true rfl) d_Pri_text_16 rfl ?_
        refine kg_cV (As := [.int v2]) (rest := []) h (k_Row_push (l := l) (g := g) (α := β) (r := 1) (by decide) v2) S hlocks hno E hI kw_Pri_63 ⟨Nat.le_of_ble_eq_true rfl, Nat.le_of_ble_eq_true rfl⟩ (kv_Row (r := 1) (by decide) E hI.1) rfl hl.1 rfl (Nat.le_of_ble_eq_true rfl) d_Pri_text_19 (fun α4 ad H locs cells slots e5 h hRm hI => ?_)
        refine lv_iinc (v := (x2 + 1)) (lv' := [(2, .int (x2 + 1)), (0, .ref (kad g 10)), (1, .ref (kst g r1))]) hx hb d_Pri_text_22 hl (k := 0) rfl rfl (by decide) rfl (fun ls hl => ?_)
        refine lv_goto (tgt := 2) hx hb d_Pri_text_25 (by decide) ?_
        exact ih2 (x2 + 1) _ _ _ _ _ _ _ h hI (lv_sub hl [0, 1, 2] rfl)
  exact L2 N 0 _ _ _ _ _ _ _ h hI (lv_sub hl [0, 1, 2] rfl)
theorem kw_Pri_89 : kWv "FamilyKernel$Printer" 89 "FamilyKernel$Printer" y_Pri_text b_Pri_text 3 none 1 := ⟨vt_1139, vt_1140, vt_1141, vt_75, vt_1142, by decide, by decide, by decide +kernel⟩
def f_Pri_piece (N : Nat) (a1 : Int32) (α : kS) : Option (kO × kS) := if a1 = (-6) then (kBv (f_Pri_text N 18 α) fun α2 => (some (some none, α2))) else (if a1 = (-5) then (kBv (f_Pri_text N 17 α) fun α5 => (some (some none, α5))) else (if a1 = (-4) then (kBv (f_Pri_text N 16 α) fun α8 => (some (some none, α8))) else (if a1 = (-3) then (kBv (f_Pri_text N 15 α) fun α11 => (some (some none, α11))) else (if a1 = (-2) then (kBv (f_Pri_text N 14 α) fun α14 => (some (some none, α14))) else (if a1 = (-1) then (kBv (f_Pri_text N 13 α) fun α17 => (some (some none, α17))) else (kBv (f_Pri_text N 19 α) fun α19 => (some (some none, α19))))))))
set_option maxHeartbeats 4000000 in
set_option maxRecDepth 100000 in
theorem k_Pri_piece {l : Launch} {g : kG} {α : kS} (hfl : kFl l) (N : Nat) (a1 : Int32)  : ∀ x, f_Pri_piece N a1 α = some x → kC l g y_Pri_piece b_Pri_piece 2 none 32 943 [.ref (kad g 10), .int a1] α (kQr x) := by
  intro x h
  unfold f_Pri_piece at h
  refine kc_ofW (by decide) (fun A ad0 p e s m args below meth c S hr hlocks hno hadm hargs E hI => ?_)
  have hx := S.1
  have hb := S.2.1
  have hown := S.2.2.2.1
  have hT := S.2.2.2.2
  subst hargs
  have hl := lv_entry ([.ref (kad g 10), .int a1]) (n := 2) (Nat.le_of_ble_eq_true rfl)
  rw [lg_entry_eq]
  generalize (lg_sl ([.ref (kad g 10), .int a1]) ++ List.replicate (2 - (lg_sl ([.ref (kad g 10), .int a1])).length) Slot.unset).toArray = ls at hl ⊢
  have hl : lv_has ls 2 [(0, .ref (kad g 10)), (1, .int a1)] := hl
  refine lv_iload_n hx hb d_Pri_piece_0 rfl (lv_at hl 1 rfl) ?_
  by_cases c1 : a1 = (-6)
  · replace h := Eq.trans (if_pos c1).symm h
    refine lv_tableIn (off := 84) (tgt := 85) hx hb d_Pri_piece_1 (by rw [c1]; decide) (by rw [c1]; decide) (by rw [c1]; rfl) (by decide) ?_
    refine lv_aload_n hx hb d_Pri_piece_85 rfl (lv_at hl 0 rfl) ?_
    refine va_ldcS hx hb hown (E.2.2.2.2.2.1 18 (by decide)) d_Pri_piece_86 ?_
    refine kg_cV (As := [.ref (kst g 18)]) (rest := []) h (k_Pri_text (l := l) (g := g) (α := α) hfl N 18 (by decide)) S hlocks hno E hI kw_Pri_89 ⟨Nat.le_of_ble_eq_true rfl, Nat.le_of_ble_eq_true rfl⟩ (kv_Pri E hI.1) rfl hl.1 rfl (Nat.le_of_ble_eq_true rfl) d_Pri_piece_88 (fun α2 ad H locs cells slots e3 h hRm hI => ?_)
    refine lv_goto (tgt := 100) hx hb d_Pri_piece_91 (by decide) ?_
    exact kc_vret hx hb hr hlocks E hI h d_Pri_piece_100
  · replace h := Eq.trans (if_neg c1).symm h
    have nc1 := ksw (z := (-6)) rfl c1
    by_cases c4 : a1 = (-5)
    · replace h := Eq.trans (if_pos c4).symm h
      refine lv_tableIn (off := 75) (tgt := 76) hx hb d_Pri_piece_1 (by rw [c4]; decide) (by rw [c4]; decide) (by rw [c4]; rfl) (by decide) ?_
      refine lv_aload_n hx hb d_Pri_piece_76 rfl (lv_at hl 0 rfl) ?_
      refine va_ldcS hx hb hown (E.2.2.2.2.2.1 17 (by decide)) d_Pri_piece_77 ?_
      refine kg_cV (As := [.ref (kst g 17)]) (rest := []) h (k_Pri_text (l := l) (g := g) (α := α) hfl N 17 (by decide)) S hlocks hno E hI kw_Pri_89 ⟨Nat.le_of_ble_eq_true rfl, Nat.le_of_ble_eq_true rfl⟩ (kv_Pri E hI.1) rfl hl.1 rfl (Nat.le_of_ble_eq_true rfl) d_Pri_piece_79 (fun α5 ad H locs cells slots e6 h hRm hI => ?_)
      refine lv_goto (tgt := 100) hx hb d_Pri_piece_82 (by decide) ?_
      exact kc_vret hx hb hr hlocks E hI h d_Pri_piece_100
    · replace h := Eq.trans (if_neg c4).symm h
      have nc4 := ksw (z := (-5)) rfl c4
      by_cases c7 : a1 = (-4)
      · replace h := Eq.trans (if_pos c7).symm h
        refine lv_tableIn (off := 66) (tgt := 67) hx hb d_Pri_piece_1 (by rw [c7]; decide) (by rw [c7]; decide) (by rw [c7]; rfl) (by decide) ?_
        refine lv_aload_n hx hb d_Pri_piece_67 rfl (lv_at hl 0 rfl) ?_
        refine va_ldcS hx hb hown (E.2.2.2.2.2.1 16 (by decide)) d_Pri_piece_68 ?_
        refine kg_cV (As := [.ref (kst g 16)]) (rest := []) h (k_Pri_text (l := l) (g := g) (α := α) hfl N 16 (by decide)) S hlocks hno E hI kw_Pri_89 ⟨Nat.le_of_ble_eq_true rfl, Nat.le_of_ble_eq_true rfl⟩ (kv_Pri E hI.1) rfl hl.1 rfl (Nat.le_of_ble_eq_true rfl) d_Pri_piece_70 (fun α8 ad H locs cells slots e9 h hRm hI => ?_)
        refine lv_goto (tgt := 100) hx hb d_Pri_piece_73 (by decide) ?_
        exact kc_vret hx hb hr hlocks E hI h d_Pri_piece_100
      · replace h := Eq.trans (if_neg c7).symm h
        have nc7 := ksw (z := (-4)) rfl c7
        by_cases c10 : a1 = (-3)
        · replace h := Eq.trans (if_pos c10).symm h
          refine lv_tableIn (off := 57) (tgt := 58) hx hb d_Pri_piece_1 (by rw [c10]; decide) (by rw [c10]; decide) (by rw [c10]; rfl) (by decide) ?_
          refine lv_aload_n hx hb d_Pri_piece_58 rfl (lv_at hl 0 rfl) ?_
          refine va_ldcS hx hb hown (E.2.2.2.2.2.1 15 (by decide)) d_Pri_piece_59 ?_
          refine kg_cV (As := [.ref (kst g 15)]) (rest := []) h (k_Pri_text (l := l) (g := g) (α := α) hfl N 15 (by decide)) S hlocks hno E hI kw_Pri_89 ⟨Nat.le_of_ble_eq_true rfl, Nat.le_of_ble_eq_true rfl⟩ (kv_Pri E hI.1) rfl hl.1 rfl (Nat.le_of_ble_eq_true rfl) d_Pri_piece_61 (fun α11 ad H locs cells slots e12 h hRm hI => ?_)
          refine lv_goto (tgt := 100) hx hb d_Pri_piece_64 (by decide) ?_
          exact kc_vret hx hb hr hlocks E hI h d_Pri_piece_100
        · replace h := Eq.trans (if_neg c10).symm h
          have nc10 := ksw (z := (-3)) rfl c10
          by_cases c13 : a1 = (-2)
          · replace h := Eq.trans (if_pos c13).symm h
            refine lv_tableIn (off := 48) (tgt := 49) hx hb d_Pri_piece_1 (by rw [c13]; decide) (by rw [c13]; decide) (by rw [c13]; rfl) (by decide) ?_
            refine lv_aload_n hx hb d_Pri_piece_49 rfl (lv_at hl 0 rfl) ?_
            refine va_ldcS hx hb hown (E.2.2.2.2.2.1 14 (by decide)) d_Pri_piece_50 ?_
            refine kg_cV (As := [.ref (kst g 14)]) (rest := []) h (k_Pri_text (l := l) (g := g) (α := α) hfl N 14 (by decide)) S hlocks hno E hI kw_Pri_89 ⟨Nat.le_of_ble_eq_true rfl, Nat.le_of_ble_eq_true rfl⟩ (kv_Pri E hI.1) rfl hl.1 rfl (Nat.le_of_ble_eq_true rfl) d_Pri_piece_52 (fun α14 ad H locs cells slots e15 h hRm hI => ?_)
            refine lv_goto (tgt := 100) hx hb d_Pri_piece_55 (by decide) ?_
            exact kc_vret hx hb hr hlocks E hI h d_Pri_piece_100
          · replace h := Eq.trans (if_neg c13).symm h
            have nc13 := ksw (z := (-2)) rfl c13
            by_cases c16 : a1 = (-1)
            · replace h := Eq.trans (if_pos c16).symm h
              refine lv_tableIn (off := 39) (tgt := 40) hx hb d_Pri_piece_1 (by rw [c16]; decide) (by rw [c16]; decide) (by rw [c16]; rfl) (by decide) ?_
              refine lv_aload_n hx hb d_Pri_piece_40 rfl (lv_at hl 0 rfl) ?_
              refine va_ldcS hx hb hown (E.2.2.2.2.2.1 13 (by decide)) d_Pri_piece_41 ?_
              refine kg_cV (As := [.ref (kst g 13)]) (rest := []) h (k_Pri_text (l := l) (g := g) (α := α) hfl N 13 (by decide)) S hlocks hno E hI kw_Pri_89 ⟨Nat.le_of_ble_eq_true rfl, Nat.le_of_ble_eq_true rfl⟩ (kv_Pri E hI.1) rfl hl.1 rfl (Nat.le_of_ble_eq_true rfl) d_Pri_piece_43 (fun α17 ad H locs cells slots e18 h hRm hI => ?_)
              refine lv_goto (tgt := 100) hx hb d_Pri_piece_46 (by decide) ?_
              exact kc_vret hx hb hr hlocks E hI h d_Pri_piece_100
            · replace h := Eq.trans (if_neg c16).symm h
              have nc16 := ksw (z := (-1)) rfl c16
              refine lv_tableOut (tgt := 94) hx hb d_Pri_piece_1 (by omega) (by decide) ?_
              refine lv_aload_n hx hb d_Pri_piece_94 rfl (lv_at hl 0 rfl) ?_
              refine va_ldcS hx hb hown (E.2.2.2.2.2.1 19 (by decide)) d_Pri_piece_95 ?_
              refine kg_cV (As := [.ref (kst g 19)]) (rest := []) h (k_Pri_text (l := l) (g := g) (α := α) hfl N 19 (by decide)) S hlocks hno E hI kw_Pri_89 ⟨Nat.le_of_ble_eq_true rfl, Nat.le_of_ble_eq_true rfl⟩ (kv_Pri E hI.1) rfl hl.1 rfl (Nat.le_of_ble_eq_true rfl) d_Pri_piece_97 (fun α19 ad H locs cells slots e20 h hRm hI => ?_)
              exact kc_vret hx hb hr hlocks E hI h d_Pri_piece_100
def f_Pri_needsBrackets_j10  (y0 : Int32) (y1 : Int32) (α : kS) : Int32 := if y1 = 1 then (if y0 < 6 then (0) else (1)) else (0)
def f_Pri_needsBrackets (a1 : Int32) (a2 : Int32) (α : kS) : Int32 := if a2 = 2 then (if 5 ≤ a1 then (1) else (f_Pri_needsBrackets_j10 a1 a2 α)) else (f_Pri_needsBrackets_j10 a1 a2 α)
set_option maxHeartbeats 4000000 in
set_option maxRecDepth 100000 in
theorem k_Pri_needsBrackets {l : Launch} {g : kG} {α : kS} (a1 : Int32) (a2 : Int32)  : kV l g y_Pri_needsBrackets b_Pri_needsBrackets 2 (some .boolean) 1 1 [.int a1, .int a2] α (f_Pri_needsBrackets a1 a2 α) := by
  generalize h : f_Pri_needsBrackets a1 a2 α = x
  unfold f_Pri_needsBrackets at h
  refine kv_ofW (by decide) (fun A ad p e s m args below meth c S hr hlocks hargs E hJ => ?_)
  have hx := S.1
  have hb := S.2.1
  have hown := S.2.2.2.1
  have hT := S.2.2.2.2
  subst hargs
  have hl := lv_entry ([.int a1, .int a2]) (n := 2) (Nat.le_of_ble_eq_true rfl)
  rw [lg_entry_eq]
  generalize (lg_sl ([.int a1, .int a2]) ++ List.replicate (2 - (lg_sl ([.int a1, .int a2])).length) Slot.unset).toArray = ls at hl ⊢
  have hl : lv_has ls 2 [(0, .int a1), (1, .int a2)] := hl
  have J10 : ∀ (y0 : Int32) (y1 : Int32) (ls : Array Slot), f_Pri_needsBrackets_j10 y0 y1 α = x → lv_has ls 2 [(0, .int y0), (1, .int y1)] → W p l e { frames := 1, cells := 0, slots := 0, locals := 1 } s m ([.int a1, .int a2]).toArray below meth c s.heap [] 0 0 (MQ below (QcRead x) ([.int a1, .int a2]).toArray s 0 0 (fun _ => False)) (F0 m 10 ls []) := by
    intro y0 y1 ls h hl
    unfold f_Pri_needsBrackets_j10 at h
    refine lv_iload_n hx hb d_Pri_needsBrackets_10 rfl (lv_at hl 1 rfl) ?_
    refine lv_iconst (v := 1) hx hb d_Pri_needsBrackets_11 (by decide) ?_
    refine lv_icmp_ne (tgt := 25) hx hb d_Pri_needsBrackets_12 (by decide) (fun c2 => ?_) (fun c2 => ?_)
    · replace h := Eq.trans (if_neg c2).symm h
      refine lv_iconst (v := 0) hx hb d_Pri_needsBrackets_25 (by decide) ?_
      exact kv_iret (w := 0) hx hb hr (by decide) hlocks h d_Pri_needsBrackets_26
    · replace h := Eq.trans (if_pos c2).symm h
      refine lv_iload_n hx hb d_Pri_needsBrackets_15 rfl (lv_at hl 0 rfl) ?_
      refine lv_bipush (v := 6) hx hb d_Pri_needsBrackets_16 (by decide) ?_
      refine lv_icmp_lt (tgt := 25) hx hb d_Pri_needsBrackets_18 (by decide) (fun c3 => ?_) (fun c3 => ?_)
      · replace h := Eq.trans (if_pos c3).symm h
        refine lv_iconst (v := 0) hx hb d_Pri_needsBrackets_25 (by decide) ?_
        exact kv_iret (w := 0) hx hb hr (by decide) hlocks h d_Pri_needsBrackets_26
      · replace h := Eq.trans (if_neg c3).symm h
        refine lv_iconst (v := 1) hx hb d_Pri_needsBrackets_21 (by decide) ?_
        refine lv_goto (tgt := 26) hx hb d_Pri_needsBrackets_22 (by decide) ?_
        exact kv_iret (w := 1) hx hb hr (by decide) hlocks h d_Pri_needsBrackets_26
  refine lv_iload_n hx hb d_Pri_needsBrackets_0 rfl (lv_at hl 1 rfl) ?_
  refine lv_iconst (v := 2) hx hb d_Pri_needsBrackets_1 (by decide) ?_
  refine lv_icmp_ne (tgt := 10) hx hb d_Pri_needsBrackets_2 (by decide) (fun c1 => ?_) (fun c1 => ?_)
  · replace h := Eq.trans (if_neg c1).symm h
    exact J10 a1 a2 _ h (lv_sub hl [0, 1] rfl)
  · replace h := Eq.trans (if_pos c1).symm h
    refine lv_iload_n hx hb d_Pri_needsBrackets_5 rfl (lv_at hl 0 rfl) ?_
    refine lv_iconst (v := 5) hx hb d_Pri_needsBrackets_6 (by decide) ?_
    refine lv_icmp_ge (tgt := 21) hx hb d_Pri_needsBrackets_7 (by decide) (fun c4 => ?_) (fun c4 => ?_)
    · replace h := Eq.trans (if_pos c4).symm h
      refine lv_iconst (v := 1) hx hb d_Pri_needsBrackets_21 (by decide) ?_
      refine lv_goto (tgt := 26) hx hb d_Pri_needsBrackets_22 (by decide) ?_
      exact kv_iret (w := 1) hx hb hr (by decide) hlocks h d_Pri_needsBrackets_26
    · replace h := Eq.trans (if_neg c4).symm h
      exact J10 a1 a2 _ h (lv_sub hl [0, 1] rfl)
def f_Pri_number_18 (N : Nat)  : Nat → Int32 → Int32 → kS → Option (kO × kS)
  | 0, _, _, _ => none
  | n + 1, x2_18, x1_18, β18 => if x2_18 ≤ 0 then (some (some none, β18)) else (if x2_18 = 0 then none else (kBv (fR_push β18 1 (48 + ((x1_18 / x2_18) - (x1_18 / x2_18) / 10 * 10))) fun α4 => (f_Pri_number_18 N n (x2_18 / 10) x1_18 α4)))
def f_Pri_number_2 (N : Nat)  : Nat → Int32 → Int32 → kS → Option (kO × kS)
  | 0, _, _, _ => none
  | n + 1, x2, x1, β => if (x1 / 10) < x2 then (f_Pri_number_18 N N x2 x1 β) else (f_Pri_number_2 N n (x2 * 10) x1 β)
def f_Pri_number (N : Nat) (a1 : Int32) (α : kS) : Option (kO × kS) := f_Pri_number_2 N N 1 a1 α
set_option maxHeartbeats 4000000 in
set_option maxRecDepth 100000 in
theorem k_Pri_number {l : Launch} {g : kG} {α : kS} (hfl : kFl l) (N : Nat) (a1 : Int32)  : ∀ x, f_Pri_number N a1 α = some x → kC l g y_Pri_number b_Pri_number 3 none 31 921 [.ref (kad g 10), .int a1] α (kQr x) := by
  intro x h
  unfold f_Pri_number at h
  refine kc_ofW (by decide) (fun A ad0 p e s m args below meth c S hr hlocks hno hadm hargs E hI => ?_)
  have hx := S.1
  have hb := S.2.1
  have hown := S.2.2.2.1
  have hT := S.2.2.2.2
  subst hargs
  have hl := lv_entry ([.ref (kad g 10), .int a1]) (n := 3) (Nat.le_of_ble_eq_true rfl)
  rw [lg_entry_eq]
  generalize (lg_sl ([.ref (kad g 10), .int a1]) ++ List.replicate (3 - (lg_sl ([.ref (kad g 10), .int a1])).length) Slot.unset).toArray = ls at hl ⊢
  have hl : lv_has ls 3 [(0, .ref (kad g 10)), (1, .int a1)] := hl
  refine lv_iconst (v := 1) hx hb d_Pri_number_0 (by decide) ?_
  refine lv_istore_n (lv' := [(2, .int 1), (0, .ref (kad g 10)), (1, .int a1)]) hx hb d_Pri_number_1 rfl hl (by decide) rfl (fun ls hl => ?_)
  have L2 : ∀ (n2 : Nat) (x2 : Int32) (x1 : Int32) (β : kS) (ad : Nat → Nat) (H : Heap) (locs : List Loc) (cells slots : Nat) (ls : Array Slot), f_Pri_number_2 N n2 x2 x1 β = some x → kI g A s α ad0 β ad H locs cells slots → lv_has ls 3 [(2, .int x2), (0, .ref (kad g 10)), (1, .int x1)] → W p l e (kR 31 921 α) s m ([.ref (kad g 10), .int a1]).toArray below meth c H locs cells slots (vEQ below (kQ g A α ad0 (kQr x)) ([.ref (kad g 10), .int a1]).toArray s A) (F0 m 2 ls []) := by
    intro n2
    induction n2 with
    | zero => intro x2 x1 β ad H locs cells slots ls h hI hl; rw [f_Pri_number_2] at h; cases h
    | succ n2 ih2 =>
      intro x2 x1 β ad H locs cells slots ls h hI hl
      rw [f_Pri_number_2] at h
      refine lv_iload_n hx hb d_Pri_number_2 rfl (lv_at hl 0 rfl) ?_
      refine lv_iload_n hx hb d_Pri_number_3 rfl (lv_at hl 2 rfl) ?_
      refine lv_bipush (v := 10) hx hb d_Pri_number_4 (by decide) ?_
      refine lv_idiv hx hb d_Pri_number_6 (by decide) ?_
      refine lv_icmp_gt (tgt := 18) hx hb d_Pri_number_7 (by decide) (fun c1 => ?_) (fun c1 => ?_)
      · replace h := Eq.trans (if_pos c1).symm h
        have L18 : ∀ (n18 : Nat) (x2_18 : Int32) (x1_18 : Int32) (β18 : kS) (ad : Nat → Nat) (H : Heap) (locs : List Loc) (cells slots : Nat) (ls : Array Slot), f_Pri_number_18 N n18 x2_18 x1_18 β18 = some x → kI g A s α ad0 β18 ad H locs cells slots → lv_has ls 3 [(2, .int x2_18), (0, .ref (kad g 10)), (1, .int x1_18)] → W p l e (kR 31 921 α) s m ([.ref (kad g 10), .int a1]).toArray below meth c H locs cells slots (vEQ below (kQ g A α ad0 (kQr x)) ([.ref (kad g 10), .int a1]).toArray s A) (F0 m 18 ls []) := by
          intro n18
          induction n18 with
          | zero => intro x2_18 x1_18 β18 ad H locs cells slots ls h hI hl; rw [f_Pri_number_18] at h; cases h
          | succ n18 ih18 =>
            intro x2_18 x1_18 β18 ad H locs cells slots ls h hI hl
            rw [f_Pri_number_18] at h
            refine lv_iload_n hx hb d_Pri_number_18 rfl (lv_at hl 0 rfl) ?_
            refine lv_if_le (tgt := 46) hx hb d_Pri_number_19 (by decide) (fun c2 => ?_) (fun c2 => ?_)
            · replace h := Eq.trans (if_pos c2).symm h
              exact kc_vret hx hb hr hlocks E hI h d_Pri_number_46
            · replace h := Eq.trans (if_neg c2).symm h
              refine lv_aload_n hx hb d_Pri_number_22 rfl (lv_at hl 1 rfl) ?_
              refine kf_Pri_shown S E hI.1 vt_161 d_Pri_number_23 ?_
              refine lv_bipush (v := 48) hx hb d_Pri_number_26 (by decide) ?_
              refine lv_iload_n hx hb d_Pri_number_28 rfl (lv_at hl 2 rfl) ?_
              refine lv_iload_n hx hb d_Pri_number_29 rfl (lv_at hl 0 rfl) ?_
              by_cases c3 : x2_18 = 0
              · have h := Eq.trans (if_pos c3).symm h
                cases h
              · replace h := Eq.trans (if_neg c3).symm h
                refine lv_idiv hx hb d_Pri_number_30 c3 ?_
                refine lv_bipush (v := 10) hx hb d_Pri_number_31 (by decide) ?_
                refine lv_irem hx hb d_Pri_number_33 (by decide) ?_
                refine lv_iadd hx hb d_Pri_number_34 ?_
                refine kg_cV (As := [.int (48 + ((x1_18 / x2_18) - (x1_18 / x2_18) / 10 * 10))]) (rest := []) h (k_Row_push (l := l) (g := g) (α := β18) (r := 1) (by decide) (48 + ((x1_18 / x2_18) - (x1_18 / x2_18) / 10 * 10))) S hlocks hno E hI kw_Pri_63 ⟨Nat.le_of_ble_eq_true rfl, Nat.le_of_ble_eq_true rfl⟩ (kv_Row (r := 1) (by decide) E hI.1) rfl hl.1 rfl (Nat.le_of_ble_eq_true rfl) d_Pri_number_35 (fun α4 ad H locs cells slots e5 h hRm hI => ?_)
                refine lv_iload_n hx hb d_Pri_number_38 rfl (lv_at hl 0 rfl) ?_
                refine lv_bipush (v := 10) hx hb d_Pri_number_39 (by decide) ?_
                refine lv_idiv hx hb d_Pri_number_41 (by decide) ?_
                refine lv_istore_n (lv' := [(2, .int (x2_18 / 10)), (0, .ref (kad g 10)), (1, .int x1_18)]) hx hb d_Pri_number_42 rfl hl (by decide) rfl (fun ls hl => ?_)
                refine lv_goto (tgt := 18) hx hb d_Pri_number_43 (by decide) ?_
                exact ih18 (x2_18 / 10) x1_18 _ _ _ _ _ _ _ h hI (lv_sub hl [0, 1, 2] rfl)
        exact L18 N x2 x1 _ _ _ _ _ _ _ h hI (lv_sub hl [0, 1, 2] rfl)
      · replace h := Eq.trans (if_neg c1).symm h
        refine lv_iload_n hx hb d_Pri_number_10 rfl (lv_at hl 0 rfl) ?_
        refine lv_bipush (v := 10) hx hb d_Pri_number_11 (by decide) ?_
        refine lv_imul hx hb d_Pri_number_13 ?_
        refine lv_istore_n (lv' := [(2, .int (x2 * 10)), (0, .ref (kad g 10)), (1, .int x1)]) hx hb d_Pri_number_14 rfl hl (by decide) rfl (fun ls hl => ?_)
        refine lv_goto (tgt := 2) hx hb d_Pri_number_15 (by decide) ?_
        exact ih2 (x2 * 10) x1 _ _ _ _ _ _ _ h hI (lv_sub hl [0, 1, 2] rfl)
  exact L2 N 1 a1 _ _ _ _ _ _ _ h hI (lv_sub hl [0, 1, 2] rfl)
theorem kw_Pri_95 : kWv "FamilyKernel$Printer" 95 "FamilyKernel$Printer" y_Pri_number b_Pri_number 3 none 1 := ⟨vt_1146, vt_1147, vt_1148, vt_75, vt_1149, by decide, by decide, by decide +kernel⟩
def f_Pri_sort (N : Nat) (a1 : Int32) (α : kS) : Option (kO × kS) := if a1 = 0 then (kBv (f_Pri_text N 20 α) fun α6 => (some (some none, α6))) else (kBv (f_Pri_text N 21 α) fun α2 => (kBv (f_Pri_number N (a1 - 1) α2) fun α4 => (some (some none, α4))))
set_option maxHeartbeats 4000000 in
set_option maxRecDepth 100000 in
theorem k_Pri_sort {l : Launch} {g : kG} {α : kS} (hfl : kFl l) (N : Nat) (a1 : Int32)  : ∀ x, f_Pri_sort N a1 α = some x → kC l g y_Pri_sort b_Pri_sort 2 none 32 943 [.ref (kad g 10), .int a1] α (kQr x) := by
  intro x h
  unfold f_Pri_sort at h
  refine kc_ofW (by decide) (fun A ad0 p e s m args below meth c S hr hlocks hno hadm hargs E hI => ?_)
  have hx := S.1
  have hb := S.2.1
  have hown := S.2.2.2.1
  have hT := S.2.2.2.2
  subst hargs
  have hl := lv_entry ([.ref (kad g 10), .int a1]) (n := 2) (Nat.le_of_ble_eq_true rfl)
  rw [lg_entry_eq]
  generalize (lg_sl ([.ref (kad g 10), .int a1]) ++ List.replicate (2 - (lg_sl ([.ref (kad g 10), .int a1])).length) Slot.unset).toArray = ls at hl ⊢
  have hl : lv_has ls 2 [(0, .ref (kad g 10)), (1, .int a1)] := hl
  refine lv_iload_n hx hb d_Pri_sort_0 rfl (lv_at hl 1 rfl) ?_
  refine lv_if_ne (tgt := 13) hx hb d_Pri_sort_1 (by decide) (fun c1 => ?_) (fun c1 => ?_)
  · replace h := Eq.trans (if_neg c1).symm h
    refine lv_aload_n hx hb d_Pri_sort_13 rfl (lv_at hl 0 rfl) ?_
    refine va_ldcS hx hb hown (E.2.2.2.2.2.1 21 (by decide)) d_Pri_sort_14 ?_
    refine kg_cV (As := [.ref (kst g 21)]) (rest := []) h (k_Pri_text (l := l) (g := g) (α := α) hfl N 21 (by decide)) S hlocks hno E hI kw_Pri_89 ⟨Nat.le_of_ble_eq_true rfl, Nat.le_of_ble_eq_true rfl⟩ (kv_Pri E hI.1) rfl hl.1 rfl (Nat.le_of_ble_eq_true rfl) d_Pri_sort_16 (fun α2 ad H locs cells slots e3 h hRm hI => ?_)
    refine lv_aload_n hx hb d_Pri_sort_19 rfl (lv_at hl 0 rfl) ?_
    refine lv_iload_n hx hb d_Pri_sort_20 rfl (lv_at hl 1 rfl) ?_
    refine lv_iconst (v := 1) hx hb d_Pri_sort_21 (by decide) ?_
    refine lv_isub hx hb d_Pri_sort_22 ?_
    refine kg_cV (As := [.int (a1 - 1)]) (rest := []) h (k_Pri_number (l := l) (g := g) (α := α2) hfl N (a1 - 1)) S hlocks hno E hI kw_Pri_95 ⟨Nat.le_of_ble_eq_true rfl, Nat.le_of_ble_eq_true rfl⟩ (kv_Pri E hI.1) rfl hl.1 rfl (Nat.le_of_ble_eq_true rfl) d_Pri_sort_23 (fun α4 ad H locs cells slots e5 h hRm hI => ?_)
    exact kc_vret hx hb hr hlocks E hI h d_Pri_sort_26
  · replace h := Eq.trans (if_pos c1).symm h
    refine lv_aload_n hx hb d_Pri_sort_4 rfl (lv_at hl 0 rfl) ?_
    refine va_ldcS hx hb hown (E.2.2.2.2.2.1 20 (by decide)) d_Pri_sort_5 ?_
    refine kg_cV (As := [.ref (kst g 20)]) (rest := []) h (k_Pri_text (l := l) (g := g) (α := α) hfl N 20 (by decide)) S hlocks hno E hI kw_Pri_89 ⟨Nat.le_of_ble_eq_true rfl, Nat.le_of_ble_eq_true rfl⟩ (kv_Pri E hI.1) rfl hl.1 rfl (Nat.le_of_ble_eq_true rfl) d_Pri_sort_7 (fun α6 ad H locs cells slots e7 h hRm hI => ?_)
    refine lv_goto (tgt := 26) hx hb d_Pri_sort_10 (by decide) ?_
    exact kc_vret hx hb hr hlocks E hI h d_Pri_sort_26
theorem kw_Pri_78 : kWv "FamilyKernel$Printer" 78 "FamilyKernel$Environment" y_Env_nameLength b_Env_nameLength 2 (some .int) 1 := ⟨vt_1167, vt_1168, vt_1169, vt_26, vt_1170, by decide, by decide, by decide +kernel⟩
theorem kw_Pri_83 : kWv "FamilyKernel$Printer" 83 "FamilyKernel$Environment" y_Env_nameByte b_Env_nameByte 3 (some .int) 2 := ⟨vt_1171, vt_1172, vt_1173, vt_26, vt_1174, by decide, by decide, by decide +kernel⟩
def f_Pri_name_2 (N : Nat)  : Nat → Int32 → Int32 → kS → Option (kO × kS)
  | 0, _, _, _ => none
  | n + 1, x2, x1, β => if (f_Env_nameLength x1 β) ≤ x2 then (some (some none, β)) else (kBv (fR_push β 1 (f_Env_nameByte x1 x2 β)) fun α2 => (f_Pri_name_2 N n (x2 + 1) x1 α2))
def f_Pri_name (N : Nat) (a1 : Int32) (α : kS) : Option (kO × kS) := f_Pri_name_2 N N 0 a1 α
set_option maxHeartbeats 4000000 in
set_option maxRecDepth 100000 in
theorem k_Pri_name {l : Launch} {g : kG} {α : kS} (hfl : kFl l) (N : Nat) (a1 : Int32)  : ∀ x, f_Pri_name N a1 α = some x → kC l g y_Pri_name b_Pri_name 3 none 31 921 [.ref (kad g 10), .int a1] α (kQr x) := by
  intro x h
  unfold f_Pri_name at h
  refine kc_ofW (by decide) (fun A ad0 p e s m args below meth c S hr hlocks hno hadm hargs E hI => ?_)
  have hx := S.1
  have hb := S.2.1
  have hown := S.2.2.2.1
  have hT := S.2.2.2.2
  subst hargs
  have hl := lv_entry ([.ref (kad g 10), .int a1]) (n := 3) (Nat.le_of_ble_eq_true rfl)
  rw [lg_entry_eq]
  generalize (lg_sl ([.ref (kad g 10), .int a1]) ++ List.replicate (3 - (lg_sl ([.ref (kad g 10), .int a1])).length) Slot.unset).toArray = ls at hl ⊢
  have hl : lv_has ls 3 [(0, .ref (kad g 10)), (1, .int a1)] := hl
  refine lv_iconst (v := 0) hx hb d_Pri_name_0 (by decide) ?_
  refine lv_istore_n (lv' := [(2, .int 0), (0, .ref (kad g 10)), (1, .int a1)]) hx hb d_Pri_name_1 rfl hl (by decide) rfl (fun ls hl => ?_)
  have L2 : ∀ (n2 : Nat) (x2 : Int32) (x1 : Int32) (β : kS) (ad : Nat → Nat) (H : Heap) (locs : List Loc) (cells slots : Nat) (ls : Array Slot), f_Pri_name_2 N n2 x2 x1 β = some x → kI g A s α ad0 β ad H locs cells slots → lv_has ls 3 [(2, .int x2), (0, .ref (kad g 10)), (1, .int x1)] → W p l e (kR 31 921 α) s m ([.ref (kad g 10), .int a1]).toArray below meth c H locs cells slots (vEQ below (kQ g A α ad0 (kQr x)) ([.ref (kad g 10), .int a1]).toArray s A) (F0 m 2 ls []) := by
    intro n2
    induction n2 with
    | zero => intro x2 x1 β ad H locs cells slots ls h hI hl; rw [f_Pri_name_2] at h; cases h
    | succ n2 ih2 =>
      intro x2 x1 β ad H locs cells slots ls h hI hl
      rw [f_Pri_name_2] at h
      refine lv_iload_n hx hb d_Pri_name_2 rfl (lv_at hl 0 rfl) ?_
      refine lv_aload_n hx hb d_Pri_name_3 rfl (lv_at hl 1 rfl) ?_
      refine kf_Pri_environment S E hI.1 vt_163 d_Pri_name_4 ?_
      refine lv_iload_n hx hb d_Pri_name_7 rfl (lv_at hl 2 rfl) ?_
      refine kg_p (As := [.int x1]) (rest := [.int x2]) (k_Env_nameLength (l := l) (g := g) (α := β) x1) S E hI.1 kw_Pri_78 ⟨Nat.le_of_ble_eq_true rfl, Nat.le_of_ble_eq_true rfl⟩ hI.room (kv_Env E hI.1) rfl hl.1 rfl (Nat.le_of_ble_eq_true rfl) d_Pri_name_8 rfl ?_
      refine lv_icmp_ge (tgt := 36) hx hb d_Pri_name_11 (by decide) (fun c1 => ?_) (fun c1 => ?_)
      · replace h := Eq.trans (if_pos c1).symm h
        exact kc_vret hx hb hr hlocks E hI h d_Pri_name_36
      · replace h := Eq.trans (if_neg c1).symm h
        refine lv_aload_n hx hb d_Pri_name_14 rfl (lv_at hl 1 rfl) ?_
        refine kf_Pri_shown S E hI.1 vt_161 d_Pri_name_15 ?_
        refine lv_aload_n hx hb d_Pri_name_18 rfl (lv_at hl 1 rfl) ?_
        refine kf_Pri_environment S E hI.1 vt_163 d_Pri_name_19 ?_
        refine lv_iload_n hx hb d_Pri_name_22 rfl (lv_at hl 2 rfl) ?_
        refine lv_iload_n hx hb d_Pri_name_23 rfl (lv_at hl 0 rfl) ?_
        refine kg_p (As := [.int x1, .int x2]) (rest := [.ref (kad g (11 + 1))]) (k_Env_nameByte (l := l) (g := g) (α := β) x1 x2) S E hI.1 kw_Pri_83 ⟨Nat.le_of_ble_eq_true rfl, Nat.le_of_ble_eq_true rfl⟩ hI.room (kv_Env E hI.1) rfl hl.1 rfl (Nat.le_of_ble_eq_true rfl) d_Pri_name_24 rfl ?_
        refine kg_cV (As := [.int (f_Env_nameByte x1 x2 β)]) (rest := []) h (k_Row_push (l := l) (g := g) (α := β) (r := 1) (by decide) (f_Env_nameByte x1 x2 β)) S hlocks hno E hI kw_Pri_63 ⟨Nat.le_of_ble_eq_true rfl, Nat.le_of_ble_eq_true rfl⟩ (kv_Row (r := 1) (by decide) E hI.1) rfl hl.1 rfl (Nat.le_of_ble_eq_true rfl) d_Pri_name_27 (fun α2 ad H locs cells slots e3 h hRm hI => ?_)
        refine lv_iinc (v := (x2 + 1)) (lv' := [(2, .int (x2 + 1)), (0, .ref (kad g 10)), (1, .int x1)]) hx hb d_Pri_name_30 hl (k := 0) rfl rfl (by decide) rfl (fun ls hl => ?_)
        refine lv_goto (tgt := 2) hx hb d_Pri_name_33 (by decide) ?_
        exact ih2 (x2 + 1) x1 _ _ _ _ _ _ _ h hI (lv_sub hl [0, 1, 2] rfl)
  exact L2 N 0 a1 _ _ _ _ _ _ _ h hI (lv_sub hl [0, 1, 2] rfl)
theorem kw_Pri_120 : kWv "FamilyKernel$Printer" 120 "FamilyKernel$Terms" y_Terms_right b_Terms_right 2 (some .int) 1 := ⟨vt_1158, vt_626, vt_627, vt_19, vt_628, by decide, by decide, by decide +kernel⟩
theorem kw_Pri_39 : kWv "FamilyKernel$Printer" 39 "FamilyKernel$Printer" y_Pri_later b_Pri_later 4 none 3 := ⟨vt_1120, vt_1121, vt_1122, vt_75, vt_1123, by decide, by decide, by decide +kernel⟩
theorem kw_Pri_112 : kWv "FamilyKernel$Printer" 112 "FamilyKernel$Terms" y_Terms_left b_Terms_left 2 (some .int) 1 := ⟨vt_1145, vt_633, vt_634, vt_19, vt_635, by decide, by decide, by decide +kernel⟩
def f_Pri_writeLet (N : Nat) (a1 : Int32) (a2 : Int32) (α : kS) : Option (kO × kS) := kBv (f_Pri_text N 23 α) fun α1 => (kBv (f_Pri_number N a2 α1) fun α3 => (kBv (f_Pri_text N 24 α3) fun α5 => (kBv (f_Pri_later N (f_Terms_right (f_Terms_right a1 α) α5) (a2 + 1) 0 α5) fun α7 => (kBv (f_Pri_later N (-7) 0 0 α7) fun α9 => (kBv (f_Pri_later N (f_Terms_left (f_Terms_right a1 α) α9) a2 0 α9) fun α11 => (kBv (f_Pri_later N (-6) 0 0 α11) fun α13 => (kBv (f_Pri_later N (f_Terms_left a1 α13) a2 0 α13) fun α15 => (some (some none, α15)))))))))
set_option maxHeartbeats 4000000 in
set_option maxRecDepth 100000 in
theorem k_Pri_writeLet {l : Launch} {g : kG} {α : kS} (hfl : kFl l) (N : Nat) (a1 : Int32) (a2 : Int32)  : ∀ x, f_Pri_writeLet N a1 a2 α = some x → kC l g y_Pri_writeLet b_Pri_writeLet 4 none 32 944 [.ref (kad g 10), .int a1, .int a2] α (kQr x) := by
  intro x h
  unfold f_Pri_writeLet at h
  refine kc_ofW (by decide) (fun A ad0 p e s m args below meth c S hr hlocks hno hadm hargs E hI => ?_)
  have hx := S.1
  have hb := S.2.1
  have hown := S.2.2.2.1
  have hT := S.2.2.2.2
  subst hargs
  have hl := lv_entry ([.ref (kad g 10), .int a1, .int a2]) (n := 4) (Nat.le_of_ble_eq_true rfl)
  rw [lg_entry_eq]
  generalize (lg_sl ([.ref (kad g 10), .int a1, .int a2]) ++ List.replicate (4 - (lg_sl ([.ref (kad g 10), .int a1, .int a2])).length) Slot.unset).toArray = ls at hl ⊢
  have hl : lv_has ls 4 [(0, .ref (kad g 10)), (1, .int a1), (2, .int a2)] := hl
  refine lv_aload_n hx hb d_Pri_writeLet_0 rfl (lv_at hl 0 rfl) ?_
  refine kf_Pri_terms S E hI.1 vt_162 d_Pri_writeLet_1 ?_
  refine lv_iload_n hx hb d_Pri_writeLet_4 rfl (lv_at hl 1 rfl) ?_
  refine kg_p (As := [.int a1]) (rest := []) (k_Terms_right (l := l) (g := g) (α := α) a1) S E hI.1 kw_Pri_120 ⟨Nat.le_of_ble_eq_true rfl, Nat.le_of_ble_eq_true rfl⟩ hI.room (kv_Terms E hI.1) rfl hl.1 rfl (Nat.le_of_ble_eq_true rfl) d_Pri_writeLet_5 rfl ?_
  refine lv_istore_n (lv' := [(3, .int (f_Terms_right a1 α)), (0, .ref (kad g 10)), (1, .int a1), (2, .int a2)]) hx hb d_Pri_writeLet_8 rfl hl (by decide) rfl (fun ls hl => ?_)
  refine lv_aload_n hx hb d_Pri_writeLet_9 rfl (lv_at hl 1 rfl) ?_
  refine va_ldcS hx hb hown (E.2.2.2.2.2.1 23 (by decide)) d_Pri_writeLet_10 ?_
  refine kg_cV (As := [.ref (kst g 23)]) (rest := []) h (k_Pri_text (l := l) (g := g) (α := α) hfl N 23 (by decide)) S hlocks hno E hI kw_Pri_89 ⟨Nat.le_of_ble_eq_true rfl, Nat.le_of_ble_eq_true rfl⟩ (kv_Pri E hI.1) rfl hl.1 rfl (Nat.le_of_ble_eq_true rfl) d_Pri_writeLet_12 (fun α1 ad H locs cells slots e2 h hRm hI => ?_)
  refine lv_aload_n hx hb d_Pri_writeLet_15 rfl (lv_at hl 1 rfl) ?_
  refine lv_iload_n hx hb d_Pri_writeLet_16 rfl (lv_at hl 3 rfl) ?_
  refine kg_cV (As := [.int a2]) (rest := []) h (k_Pri_number (l := l) (g := g) (α := α1) hfl N a2) S hlocks hno E hI kw_Pri_95 ⟨Nat.le_of_ble_eq_true rfl, Nat.le_of_ble_eq_true rfl⟩ (kv_Pri E hI.1) rfl hl.1 rfl (Nat.le_of_ble_eq_true rfl) d_Pri_writeLet_17 (fun α3 ad H locs cells slots e4 h hRm hI => ?_)
  refine lv_aload_n hx hb d_Pri_writeLet_20 rfl (lv_at hl 1 rfl) ?_
  refine va_ldcS hx hb hown (E.2.2.2.2.2.1 24 (by decide)) d_Pri_writeLet_21 ?_
  refine kg_cV (As := [.ref (kst g 24)]) (rest := []) h (k_Pri_text (l := l) (g := g) (α := α3) hfl N 24 (by decide)) S hlocks hno E hI kw_Pri_89 ⟨Nat.le_of_ble_eq_true rfl, Nat.le_of_ble_eq_true rfl⟩ (kv_Pri E hI.1) rfl hl.1 rfl (Nat.le_of_ble_eq_true rfl) d_Pri_writeLet_23 (fun α5 ad H locs cells slots e6 h hRm hI => ?_)
  refine lv_aload_n hx hb d_Pri_writeLet_26 rfl (lv_at hl 1 rfl) ?_
  refine lv_aload_n hx hb d_Pri_writeLet_27 rfl (lv_at hl 1 rfl) ?_
  refine kf_Pri_terms S E hI.1 vt_162 d_Pri_writeLet_28 ?_
  refine lv_iload_n hx hb d_Pri_writeLet_31 rfl (lv_at hl 0 rfl) ?_
  refine kg_p (As := [.int (f_Terms_right a1 α)]) (rest := [.ref (kad g 10)]) (k_Terms_right (l := l) (g := g) (α := α5) (f_Terms_right a1 α)) S E hI.1 kw_Pri_120 ⟨Nat.le_of_ble_eq_true rfl, Nat.le_of_ble_eq_true rfl⟩ hI.room (kv_Terms E hI.1) rfl hl.1 rfl (Nat.le_of_ble_eq_true rfl) d_Pri_writeLet_32 rfl ?_
  refine lv_iload_n hx hb d_Pri_writeLet_35 rfl (lv_at hl 3 rfl) ?_
  refine lv_iconst (v := 1) hx hb d_Pri_writeLet_36 (by decide) ?_
  refine lv_iadd hx hb d_Pri_writeLet_37 ?_
  refine lv_iconst (v := 0) hx hb d_Pri_writeLet_38 (by decide) ?_
  refine kg_cV (As := [.int (f_Terms_right (f_Terms_right a1 α) α5), .int (a2 + 1), .int 0]) (rest := []) h (k_Pri_later (l := l) (g := g) (α := α5) hfl N (f_Terms_right (f_Terms_right a1 α) α5) (a2 + 1) 0) S hlocks hno E hI kw_Pri_39 ⟨Nat.le_of_ble_eq_true rfl, Nat.le_of_ble_eq_true rfl⟩ (kv_Pri E hI.1) rfl hl.1 rfl (Nat.le_of_ble_eq_true rfl) d_Pri_writeLet_39 (fun α7 ad H locs cells slots e8 h hRm hI => ?_)
  refine lv_aload_n hx hb d_Pri_writeLet_42 rfl (lv_at hl 1 rfl) ?_
  refine lv_bipush (v := (-7)) hx hb d_Pri_writeLet_43 (by decide) ?_
  refine lv_iconst (v := 0) hx hb d_Pri_writeLet_45 (by decide) ?_
  refine lv_iconst (v := 0) hx hb d_Pri_writeLet_46 (by decide) ?_
  refine kg_cV (As := [.int (-7), .int 0, .int 0]) (rest := []) h (k_Pri_later (l := l) (g := g) (α := α7) hfl N (-7) 0 0) S hlocks hno E hI kw_Pri_39 ⟨Nat.le_of_ble_eq_true rfl, Nat.le_of_ble_eq_true rfl⟩ (kv_Pri E hI.1) rfl hl.1 rfl (Nat.le_of_ble_eq_true rfl) d_Pri_writeLet_47 (fun α9 ad H locs cells slots e10 h hRm hI => ?_)
  refine lv_aload_n hx hb d_Pri_writeLet_50 rfl (lv_at hl 1 rfl) ?_
  refine lv_aload_n hx hb d_Pri_writeLet_51 rfl (lv_at hl 1 rfl) ?_
  refine kf_Pri_terms S E hI.1 vt_162 d_Pri_writeLet_52 ?_
  refine lv_iload_n hx hb d_Pri_writeLet_55 rfl (lv_at hl 0 rfl) ?_
  refine kg_p (As := [.int (f_Terms_right a1 α)]) (rest := [.ref (kad g 10)]) (k_Terms_left (l := l) (g := g) (α := α9) (f_Terms_right a1 α)) S E hI.1 kw_Pri_112 ⟨Nat.le_of_ble_eq_true rfl, Nat.le_of_ble_eq_true rfl⟩ hI.room (kv_Terms E hI.1) rfl hl.1 rfl (Nat.le_of_ble_eq_true rfl) d_Pri_writeLet_56 rfl ?_
  refine lv_iload_n hx hb d_Pri_writeLet_59 rfl (lv_at hl 3 rfl) ?_
  refine lv_iconst (v := 0) hx hb d_Pri_writeLet_60 (by decide) ?_
  refine kg_cV (As := [.int (f_Terms_left (f_Terms_right a1 α) α9), .int a2, .int 0]) (rest := []) h (k_Pri_later (l := l) (g := g) (α := α9) hfl N (f_Terms_left (f_Terms_right a1 α) α9) a2 0) S hlocks hno E hI kw_Pri_39 ⟨Nat.le_of_ble_eq_true rfl, Nat.le_of_ble_eq_true rfl⟩ (kv_Pri E hI.1) rfl hl.1 rfl (Nat.le_of_ble_eq_true rfl) d_Pri_writeLet_61 (fun α11 ad H locs cells slots e12 h hRm hI => ?_)
  refine lv_aload_n hx hb d_Pri_writeLet_64 rfl (lv_at hl 1 rfl) ?_
  refine lv_bipush (v := (-6)) hx hb d_Pri_writeLet_65 (by decide) ?_
  refine lv_iconst (v := 0) hx hb d_Pri_writeLet_67 (by decide) ?_
  refine lv_iconst (v := 0) hx hb d_Pri_writeLet_68 (by decide) ?_
  refine kg_cV (As := [.int (-6), .int 0, .int 0]) (rest := []) h (k_Pri_later (l := l) (g := g) (α := α11) hfl N (-6) 0 0) S hlocks hno E hI kw_Pri_39 ⟨Nat.le_of_ble_eq_true rfl, Nat.le_of_ble_eq_true rfl⟩ (kv_Pri E hI.1) rfl hl.1 rfl (Nat.le_of_ble_eq_true rfl) d_Pri_writeLet_69 (fun α13 ad H locs cells slots e14 h hRm hI => ?_)
  refine lv_aload_n hx hb d_Pri_writeLet_72 rfl (lv_at hl 1 rfl) ?_
  refine lv_aload_n hx hb d_Pri_writeLet_73 rfl (lv_at hl 1 rfl) ?_
  refine kf_Pri_terms S E hI.1 vt_162 d_Pri_writeLet_74 ?_
  refine lv_iload_n hx hb d_Pri_writeLet_77 rfl (lv_at hl 2 rfl) ?_
  refine kg_p (As := [.int a1]) (rest := [.ref (kad g 10)]) (k_Terms_left (l := l) (g := g) (α := α13) a1) S E hI.1 kw_Pri_112 ⟨Nat.le_of_ble_eq_true rfl, Nat.le_of_ble_eq_true rfl⟩ hI.room (kv_Terms E hI.1) rfl hl.1 rfl (Nat.le_of_ble_eq_true rfl) d_Pri_writeLet_78 rfl ?_
  refine lv_iload_n hx hb d_Pri_writeLet_81 rfl (lv_at hl 3 rfl) ?_
  refine lv_iconst (v := 0) hx hb d_Pri_writeLet_82 (by decide) ?_
  refine kg_cV (As := [.int (f_Terms_left a1 α13), .int a2, .int 0]) (rest := []) h (k_Pri_later (l := l) (g := g) (α := α13) hfl N (f_Terms_left a1 α13) a2 0) S hlocks hno E hI kw_Pri_39 ⟨Nat.le_of_ble_eq_true rfl, Nat.le_of_ble_eq_true rfl⟩ (kv_Pri E hI.1) rfl hl.1 rfl (Nat.le_of_ble_eq_true rfl) d_Pri_writeLet_83 (fun α15 ad H locs cells slots e16 h hRm hI => ?_)
  exact kc_vret hx hb hr hlocks E hI h d_Pri_writeLet_86
theorem kw_Pri_53 : kWv "FamilyKernel$Printer" 53 "FamilyKernel$Terms" y_Terms_kind b_Terms_kind 2 (some .int) 1 := ⟨vt_1130, vt_541, vt_542, vt_19, vt_543, by decide, by decide, by decide +kernel⟩
theorem kw_Pri_129 : kWv "FamilyKernel$Printer" 129 "FamilyKernel$Terms" y_Terms_has b_Terms_has 8 (some .boolean) 3 := ⟨vt_1177, vt_1033, vt_1034, vt_19, vt_1035, by decide, by decide, by decide +kernel⟩
def f_Pri_writeBinder_j118 (N : Nat)  (y1 : Int32) (y2 : Int32) (t0 : Int32) (γ : kS) : Option (kO × kS) := kBv (f_Pri_later N t0 0 0 γ) fun α13 => (kBv (f_Pri_later N (f_Terms_left y1 α13) y2 0 α13) fun α15 => (some (some none, α15)))
def f_Pri_writeBinder_j80 (N : Nat)  (y3 : Int32) (y1 : Int32) (y2 : Int32) (γ : kS) : Option (kO × kS) := if y3 = 0 then (kBv (f_Pri_text N 26 γ) fun α6 => (kBv (f_Pri_number N y2 α6) fun α8 => (kBv (f_Pri_text N 24 α8) fun α10 => (if y3 = 0 then (f_Pri_writeBinder_j118 N y1 y2 (-5) α10) else (f_Pri_writeBinder_j118 N y1 y2 (-4) α10))))) else (kBv (f_Pri_text N 25 γ) fun α17 => (kBv (f_Pri_number N y2 α17) fun α19 => (kBv (f_Pri_text N 24 α19) fun α21 => (if y3 = 0 then (f_Pri_writeBinder_j118 N y1 y2 (-5) α21) else (f_Pri_writeBinder_j118 N y1 y2 (-4) α21)))))
def f_Pri_writeBinder_j18 (N : Nat)  (y1 : Int32) (y2 : Int32) (t0 : Int32) (γ : kS) : Option (kO × kS) := kBv (f_Pri_later N (f_Terms_right y1 γ) (y2 + 1) 0 γ) fun α2 => (if t0 = 0 then (f_Pri_writeBinder_j80 N t0 y1 y2 α2) else (kBi (f_Terms_has N (f_Terms_right y1 γ) 0 0 α2) fun v26 α24 => (if v26 = 0 then (kBv (f_Pri_later N (-3) 0 0 α24) fun α28 => (kBv (f_Pri_later N (f_Terms_left y1 α28) y2 1 α28) fun α30 => (some (some none, α30)))) else (f_Pri_writeBinder_j80 N t0 y1 y2 α24))))
def f_Pri_writeBinder (N : Nat) (a1 : Int32) (a2 : Int32) (α : kS) : Option (kO × kS) := if (f_Terms_kind a1 α) = 6 then (f_Pri_writeBinder_j18 N a1 a2 1 α) else (f_Pri_writeBinder_j18 N a1 a2 0 α)
set_option maxHeartbeats 4000000 in
set_option maxRecDepth 100000 in
theorem k_Pri_writeBinder {l : Launch} {g : kG} {α : kS} (hfl : kFl l) (N : Nat) (a1 : Int32) (a2 : Int32)  : ∀ x, f_Pri_writeBinder N a1 a2 α = some x → kC l g y_Pri_writeBinder b_Pri_writeBinder 5 none 32 948 [.ref (kad g 10), .int a1, .int a2] α (kQr x) := by
  intro x h
  unfold f_Pri_writeBinder at h
  refine kc_ofW (by decide) (fun A ad0 p e s m args below meth c S hr hlocks hno hadm hargs E hI => ?_)
  have hx := S.1
  have hb := S.2.1
  have hown := S.2.2.2.1
  have hT := S.2.2.2.2
  subst hargs
  have hl := lv_entry ([.ref (kad g 10), .int a1, .int a2]) (n := 5) (Nat.le_of_ble_eq_true rfl)
  rw [lg_entry_eq]
  generalize (lg_sl ([.ref (kad g 10), .int a1, .int a2]) ++ List.replicate (5 - (lg_sl ([.ref (kad g 10), .int a1, .int a2])).length) Slot.unset).toArray = ls at hl ⊢
  have hl : lv_has ls 5 [(0, .ref (kad g 10)), (1, .int a1), (2, .int a2)] := hl
  have J118 : ∀ (y1 : Int32) (y2 : Int32) (t0 : Int32) (γ : kS) (ad : Nat → Nat) (H : Heap) (locs : List Loc) (cells slots : Nat) (ls : Array Slot), f_Pri_writeBinder_j118 N y1 y2 t0 γ = some x → kI g A s α ad0 γ ad H locs cells slots → lv_has ls 5 [(0, .ref (kad g 10)), (1, .int y1), (2, .int y2)] → W p l e (kR 32 948 α) s m ([.ref (kad g 10), .int a1, .int a2]).toArray below meth c H locs cells slots (vEQ below (kQ g A α ad0 (kQr x)) ([.ref (kad g 10), .int a1, .int a2]).toArray s A) (F0 m 118 ls [.int t0, .ref (kad g 10)]) := by
    intro y1 y2 t0 γ ad H locs cells slots ls h hI hl
    unfold f_Pri_writeBinder_j118 at h
    refine lv_iconst (v := 0) hx hb d_Pri_writeBinder_118 (by decide) ?_
    refine lv_iconst (v := 0) hx hb d_Pri_writeBinder_119 (by decide) ?_
    refine kg_cV (As := [.int t0, .int 0, .int 0]) (rest := []) h (k_Pri_later (l := l) (g := g) (α := γ) hfl N t0 0 0) S hlocks hno E hI kw_Pri_39 ⟨Nat.le_of_ble_eq_true rfl, Nat.le_of_ble_eq_true rfl⟩ (kv_Pri E hI.1) rfl hl.1 rfl (Nat.le_of_ble_eq_true rfl) d_Pri_writeBinder_120 (fun α13 ad H locs cells slots e14 h hRm hI => ?_)
    refine lv_aload_n hx hb d_Pri_writeBinder_123 rfl (lv_at hl 0 rfl) ?_
    refine lv_aload_n hx hb d_Pri_writeBinder_124 rfl (lv_at hl 0 rfl) ?_
    refine kf_Pri_terms S E hI.1 vt_162 d_Pri_writeBinder_125 ?_
    refine lv_iload_n hx hb d_Pri_writeBinder_128 rfl (lv_at hl 1 rfl) ?_
    refine kg_p (As := [.int y1]) (rest := [.ref (kad g 10)]) (k_Terms_left (l := l) (g := g) (α := α13) y1) S E hI.1 kw_Pri_112 ⟨Nat.le_of_ble_eq_true rfl, Nat.le_of_ble_eq_true rfl⟩ hI.room (kv_Terms E hI.1) rfl hl.1 rfl (Nat.le_of_ble_eq_true rfl) d_Pri_writeBinder_129 rfl ?_
    refine lv_iload_n hx hb d_Pri_writeBinder_132 rfl (lv_at hl 2 rfl) ?_
    refine lv_iconst (v := 0) hx hb d_Pri_writeBinder_133 (by decide) ?_
    refine kg_cV (As := [.int (f_Terms_left y1 α13), .int y2, .int 0]) (rest := []) h (k_Pri_later (l := l) (g := g) (α := α13) hfl N (f_Terms_left y1 α13) y2 0) S hlocks hno E hI kw_Pri_39 ⟨Nat.le_of_ble_eq_true rfl, Nat.le_of_ble_eq_true rfl⟩ (kv_Pri E hI.1) rfl hl.1 rfl (Nat.le_of_ble_eq_true rfl) d_Pri_writeBinder_134 (fun α15 ad H locs cells slots e16 h hRm hI => ?_)
    exact kc_vret hx hb hr hlocks E hI h d_Pri_writeBinder_137
  have J80 : ∀ (y3 : Int32) (y1 : Int32) (y2 : Int32) (γ : kS) (ad : Nat → Nat) (H : Heap) (locs : List Loc) (cells slots : Nat) (ls : Array Slot), f_Pri_writeBinder_j80 N y3 y1 y2 γ = some x → kI g A s α ad0 γ ad H locs cells slots → lv_has ls 5 [(3, .int y3), (0, .ref (kad g 10)), (1, .int y1), (2, .int y2)] → W p l e (kR 32 948 α) s m ([.ref (kad g 10), .int a1, .int a2]).toArray below meth c H locs cells slots (vEQ below (kQ g A α ad0 (kQr x)) ([.ref (kad g 10), .int a1, .int a2]).toArray s A) (F0 m 80 ls []) := by
    intro y3 y1 y2 γ ad H locs cells slots ls h hI hl
    unfold f_Pri_writeBinder_j80 at h
    refine lv_aload_n hx hb d_Pri_writeBinder_80 rfl (lv_at hl 1 rfl) ?_
    refine lv_iload_n hx hb d_Pri_writeBinder_81 rfl (lv_at hl 0 rfl) ?_
    refine lv_if_eq (tgt := 90) hx hb d_Pri_writeBinder_82 (by decide) (fun c5 => ?_) (fun c5 => ?_)
    · replace h := Eq.trans (if_pos c5).symm h
      refine va_ldcS hx hb hown (E.2.2.2.2.2.1 26 (by decide)) d_Pri_writeBinder_90 ?_
      refine kg_cV (As := [.ref (kst g 26)]) (rest := []) h (k_Pri_text (l := l) (g := g) (α := γ) hfl N 26 (by decide)) S hlocks hno E hI kw_Pri_89 ⟨Nat.le_of_ble_eq_true rfl, Nat.le_of_ble_eq_true rfl⟩ (kv_Pri E hI.1) rfl hl.1 rfl (Nat.le_of_ble_eq_true rfl) d_Pri_writeBinder_92 (fun α6 ad H locs cells slots e7 h hRm hI => ?_)
      refine lv_aload_n hx hb d_Pri_writeBinder_95 rfl (lv_at hl 1 rfl) ?_
      refine lv_iload_n hx hb d_Pri_writeBinder_96 rfl (lv_at hl 3 rfl) ?_
      refine kg_cV (As := [.int y2]) (rest := []) h (k_Pri_number (l := l) (g := g) (α := α6) hfl N y2) S hlocks hno E hI kw_Pri_95 ⟨Nat.le_of_ble_eq_true rfl, Nat.le_of_ble_eq_true rfl⟩ (kv_Pri E hI.1) rfl hl.1 rfl (Nat.le_of_ble_eq_true rfl) d_Pri_writeBinder_97 (fun α8 ad H locs cells slots e9 h hRm hI => ?_)
      refine lv_aload_n hx hb d_Pri_writeBinder_100 rfl (lv_at hl 1 rfl) ?_
      refine va_ldcS hx hb hown (E.2.2.2.2.2.1 24 (by decide)) d_Pri_writeBinder_101 ?_
      refine kg_cV (As := [.ref (kst g 24)]) (rest := []) h (k_Pri_text (l := l) (g := g) (α := α8) hfl N 24 (by decide)) S hlocks hno E hI kw_Pri_89 ⟨Nat.le_of_ble_eq_true rfl, Nat.le_of_ble_eq_true rfl⟩ (kv_Pri E hI.1) rfl hl.1 rfl (Nat.le_of_ble_eq_true rfl) d_Pri_writeBinder_103 (fun α10 ad H locs cells slots e11 h hRm hI => ?_)
      refine lv_aload_n hx hb d_Pri_writeBinder_106 rfl (lv_at hl 1 rfl) ?_
      refine lv_iload_n hx hb d_Pri_writeBinder_107 rfl (lv_at hl 0 rfl) ?_
      refine lv_if_eq (tgt := 116) hx hb d_Pri_writeBinder_108 (by decide) (fun c12 => ?_) (fun c12 => ?_)
      · replace h := Eq.trans (if_pos c12).symm h
        refine lv_bipush (v := (-5)) hx hb d_Pri_writeBinder_116 (by decide) ?_
        exact J118 y1 y2 (-5) _ _ _ _ _ _ _ h hI (lv_sub hl [1, 2, 3] rfl)
      · replace h := Eq.trans (if_neg c12).symm h
        refine lv_bipush (v := (-4)) hx hb d_Pri_writeBinder_111 (by decide) ?_
        refine lv_goto (tgt := 118) hx hb d_Pri_writeBinder_113 (by decide) ?_
        exact J118 y1 y2 (-4) _ _ _ _ _ _ _ h hI (lv_sub hl [1, 2, 3] rfl)
    · replace h := Eq.trans (if_neg c5).symm h
      refine va_ldcS hx hb hown (E.2.2.2.2.2.1 25 (by decide)) d_Pri_writeBinder_85 ?_
      refine lv_goto (tgt := 92) hx hb d_Pri_writeBinder_87 (by decide) ?_
      refine kg_cV (As := [.ref (kst g 25)]) (rest := []) h (k_Pri_text (l := l) (g := g) (α := γ) hfl N 25 (by decide)) S hlocks hno E hI kw_Pri_89 ⟨Nat.le_of_ble_eq_true rfl, Nat.le_of_ble_eq_true rfl⟩ (kv_Pri E hI.1) rfl hl.1 rfl (Nat.le_of_ble_eq_true rfl) d_Pri_writeBinder_92 (fun α17 ad H locs cells slots e18 h hRm hI => ?_)
      refine lv_aload_n hx hb d_Pri_writeBinder_95 rfl (lv_at hl 1 rfl) ?_
      refine lv_iload_n hx hb d_Pri_writeBinder_96 rfl (lv_at hl 3 rfl) ?_
      refine kg_cV (As := [.int y2]) (rest := []) h (k_Pri_number (l := l) (g := g) (α := α17) hfl N y2) S hlocks hno E hI kw_Pri_95 ⟨Nat.le_of_ble_eq_true rfl, Nat.le_of_ble_eq_true rfl⟩ (kv_Pri E hI.1) rfl hl.1 rfl (Nat.le_of_ble_eq_true rfl) d_Pri_writeBinder_97 (fun α19 ad H locs cells slots e20 h hRm hI => ?_)
      refine lv_aload_n hx hb d_Pri_writeBinder_100 rfl (lv_at hl 1 rfl) ?_
      refine va_ldcS hx hb hown (E.2.2.2.2.2.1 24 (by decide)) d_Pri_writeBinder_101 ?_
      refine kg_cV (As := [.ref (kst g 24)]) (rest := []) h (k_Pri_text (l := l) (g := g) (α := α19) hfl N 24 (by decide)) S hlocks hno E hI kw_Pri_89 ⟨Nat.le_of_ble_eq_true rfl, Nat.le_of_ble_eq_true rfl⟩ (kv_Pri E hI.1) rfl hl.1 rfl (Nat.le_of_ble_eq_true rfl) d_Pri_writeBinder_103 (fun α21 ad H locs cells slots e22 h hRm hI => ?_)
      refine lv_aload_n hx hb d_Pri_writeBinder_106 rfl (lv_at hl 1 rfl) ?_
      refine lv_iload_n hx hb d_Pri_writeBinder_107 rfl (lv_at hl 0 rfl) ?_
      refine lv_if_eq (tgt := 116) hx hb d_Pri_writeBinder_108 (by decide) (fun c23 => ?_) (fun c23 => ?_)
      · replace h := Eq.trans (if_pos c23).symm h
        refine lv_bipush (v := (-5)) hx hb d_Pri_writeBinder_116 (by decide) ?_
        exact J118 y1 y2 (-5) _ _ _ _ _ _ _ h hI (lv_sub hl [1, 2, 3] rfl)
      · replace h := Eq.trans (if_neg c23).symm h
        refine lv_bipush (v := (-4)) hx hb d_Pri_writeBinder_111 (by decide) ?_
        refine lv_goto (tgt := 118) hx hb d_Pri_writeBinder_113 (by decide) ?_
        exact J118 y1 y2 (-4) _ _ _ _ _ _ _ h hI (lv_sub hl [1, 2, 3] rfl)
  have J18 : ∀ (y1 : Int32) (y2 : Int32) (t0 : Int32) (γ : kS) (ad : Nat → Nat) (H : Heap) (locs : List Loc) (cells slots : Nat) (ls : Array Slot), f_Pri_writeBinder_j18 N y1 y2 t0 γ = some x → kI g A s α ad0 γ ad H locs cells slots → lv_has ls 5 [(0, .ref (kad g 10)), (1, .int y1), (2, .int y2)] → W p l e (kR 32 948 α) s m ([.ref (kad g 10), .int a1, .int a2]).toArray below meth c H locs cells slots (vEQ below (kQ g A α ad0 (kQr x)) ([.ref (kad g 10), .int a1, .int a2]).toArray s A) (F0 m 18 ls [.int t0]) := by
    intro y1 y2 t0 γ ad H locs cells slots ls h hI hl
    unfold f_Pri_writeBinder_j18 at h
    refine lv_istore_n (lv' := [(3, .int t0), (0, .ref (kad g 10)), (1, .int y1), (2, .int y2)]) hx hb d_Pri_writeBinder_18 rfl hl (by decide) rfl (fun ls hl => ?_)
    refine lv_aload_n hx hb d_Pri_writeBinder_19 rfl (lv_at hl 1 rfl) ?_
    refine kf_Pri_terms S E hI.1 vt_162 d_Pri_writeBinder_20 ?_
    refine lv_iload_n hx hb d_Pri_writeBinder_23 rfl (lv_at hl 2 rfl) ?_
    refine kg_p (As := [.int y1]) (rest := []) (k_Terms_right (l := l) (g := g) (α := γ) y1) S E hI.1 kw_Pri_120 ⟨Nat.le_of_ble_eq_true rfl, Nat.le_of_ble_eq_true rfl⟩ hI.room (kv_Terms E hI.1) rfl hl.1 rfl (Nat.le_of_ble_eq_true rfl) d_Pri_writeBinder_24 rfl ?_
    refine lv_istore (lv' := [(4, .int (f_Terms_right y1 γ)), (3, .int t0), (0, .ref (kad g 10)), (1, .int y1), (2, .int y2)]) hx hb d_Pri_writeBinder_27 hl (by decide) rfl (fun ls hl => ?_)
    refine lv_aload_n hx hb d_Pri_writeBinder_29 rfl (lv_at hl 2 rfl) ?_
    refine lv_iload hx hb d_Pri_writeBinder_30 (lv_at hl 0 rfl) ?_
    refine lv_iload_n hx hb d_Pri_writeBinder_32 rfl (lv_at hl 4 rfl) ?_
    refine lv_iconst (v := 1) hx hb d_Pri_writeBinder_33 (by decide) ?_
    refine lv_iadd hx hb d_Pri_writeBinder_34 ?_
    refine lv_iconst (v := 0) hx hb d_Pri_writeBinder_35 (by decide) ?_
    refine kg_cV (As := [.int (f_Terms_right y1 γ), .int (y2 + 1), .int 0]) (rest := []) h (k_Pri_later (l := l) (g := g) (α := γ) hfl N (f_Terms_right y1 γ) (y2 + 1) 0) S hlocks hno E hI kw_Pri_39 ⟨Nat.le_of_ble_eq_true rfl, Nat.le_of_ble_eq_true rfl⟩ (kv_Pri E hI.1) rfl hl.1 rfl (Nat.le_of_ble_eq_true rfl) d_Pri_writeBinder_36 (fun α2 ad H locs cells slots e3 h hRm hI => ?_)
    refine lv_iload_n hx hb d_Pri_writeBinder_39 rfl (lv_at hl 1 rfl) ?_
    refine lv_if_eq (tgt := 80) hx hb d_Pri_writeBinder_40 (by decide) (fun c4 => ?_) (fun c4 => ?_)
    · replace h := Eq.trans (if_pos c4).symm h
      exact J80 t0 y1 y2 _ _ _ _ _ _ _ h hI (lv_sub hl [1, 2, 3, 4] rfl)
    · replace h := Eq.trans (if_neg c4).symm h
      refine lv_aload_n hx hb d_Pri_writeBinder_43 rfl (lv_at hl 2 rfl) ?_
      refine kf_Pri_terms S E hI.1 vt_162 d_Pri_writeBinder_44 ?_
      refine lv_iload hx hb d_Pri_writeBinder_47 (lv_at hl 0 rfl) ?_
      refine lv_iconst (v := 0) hx hb d_Pri_writeBinder_49 (by decide) ?_
      refine lv_iconst (v := 0) hx hb d_Pri_writeBinder_50 (by decide) ?_
      refine kg_cI (As := [.int (f_Terms_right y1 γ), .int 0, .int 0]) (rest := []) h (k_Terms_has (l := l) (g := g) (α := α2) hfl N (f_Terms_right y1 γ) 0 0) S hlocks hno E hI kw_Pri_129 ⟨Nat.le_of_ble_eq_true rfl, Nat.le_of_ble_eq_true rfl⟩ (kv_Terms E hI.1) rfl hl.1 rfl (Nat.le_of_ble_eq_true rfl) d_Pri_writeBinder_51 (fun v26 α24 ad H locs cells slots e25 h hRm hI => ?_)
      refine lv_if_ne (tgt := 80) hx hb d_Pri_writeBinder_54 (by decide) (fun c27 => ?_) (fun c27 => ?_)
      · replace h := Eq.trans (if_neg c27).symm h
        exact J80 t0 y1 y2 _ _ _ _ _ _ _ h hI (lv_sub hl [1, 2, 3, 4] rfl)
      · replace h := Eq.trans (if_pos c27).symm h
        refine lv_aload_n hx hb d_Pri_writeBinder_57 rfl (lv_at hl 2 rfl) ?_
        refine lv_bipush (v := (-3)) hx hb d_Pri_writeBinder_58 (by decide) ?_
        refine lv_iconst (v := 0) hx hb d_Pri_writeBinder_60 (by decide) ?_
        refine lv_iconst (v := 0) hx hb d_Pri_writeBinder_61 (by decide) ?_
        refine kg_cV (As := [.int (-3), .int 0, .int 0]) (rest := []) h (k_Pri_later (l := l) (g := g) (α := α24) hfl N (-3) 0 0) S hlocks hno E hI kw_Pri_39 ⟨Nat.le_of_ble_eq_true rfl, Nat.le_of_ble_eq_true rfl⟩ (kv_Pri E hI.1) rfl hl.1 rfl (Nat.le_of_ble_eq_true rfl) d_Pri_writeBinder_62 (fun α28 ad H locs cells slots e29 h hRm hI => ?_)
        refine lv_aload_n hx hb d_Pri_writeBinder_65 rfl (lv_at hl 2 rfl) ?_
        refine lv_aload_n hx hb d_Pri_writeBinder_66 rfl (lv_at hl 2 rfl) ?_
        refine kf_Pri_terms S E hI.1 vt_162 d_Pri_writeBinder_67 ?_
        refine lv_iload_n hx hb d_Pri_writeBinder_70 rfl (lv_at hl 3 rfl) ?_
        refine kg_p (As := [.int y1]) (rest := [.ref (kad g 10)]) (k_Terms_left (l := l) (g := g) (α := α28) y1) S E hI.1 kw_Pri_112 ⟨Nat.le_of_ble_eq_true rfl, Nat.le_of_ble_eq_true rfl⟩ hI.room (kv_Terms E hI.1) rfl hl.1 rfl (Nat.le_of_ble_eq_true rfl) d_Pri_writeBinder_71 rfl ?_
        refine lv_iload_n hx hb d_Pri_writeBinder_74 rfl (lv_at hl 4 rfl) ?_
        refine lv_iconst (v := 1) hx hb d_Pri_writeBinder_75 (by decide) ?_
        refine kg_cV (As := [.int (f_Terms_left y1 α28), .int y2, .int 1]) (rest := []) h (k_Pri_later (l := l) (g := g) (α := α28) hfl N (f_Terms_left y1 α28) y2 1) S hlocks hno E hI kw_Pri_39 ⟨Nat.le_of_ble_eq_true rfl, Nat.le_of_ble_eq_true rfl⟩ (kv_Pri E hI.1) rfl hl.1 rfl (Nat.le_of_ble_eq_true rfl) d_Pri_writeBinder_76 (fun α30 ad H locs cells slots e31 h hRm hI => ?_)
        exact kc_vret hx hb hr hlocks E hI h d_Pri_writeBinder_79
  refine lv_aload_n hx hb d_Pri_writeBinder_0 rfl (lv_at hl 0 rfl) ?_
  refine kf_Pri_terms S E hI.1 vt_162 d_Pri_writeBinder_1 ?_
  refine lv_iload_n hx hb d_Pri_writeBinder_4 rfl (lv_at hl 1 rfl) ?_
  refine kg_p (As := [.int a1]) (rest := []) (k_Terms_kind (l := l) (g := g) (α := α) a1) S E hI.1 kw_Pri_53 ⟨Nat.le_of_ble_eq_true rfl, Nat.le_of_ble_eq_true rfl⟩ hI.room (kv_Terms E hI.1) rfl hl.1 rfl (Nat.le_of_ble_eq_true rfl) d_Pri_writeBinder_5 rfl ?_
  refine lv_bipush (v := 6) hx hb d_Pri_writeBinder_8 (by decide) ?_
  refine lv_icmp_ne (tgt := 17) hx hb d_Pri_writeBinder_10 (by decide) (fun c1 => ?_) (fun c1 => ?_)
  · replace h := Eq.trans (if_neg c1).symm h
    refine lv_iconst (v := 0) hx hb d_Pri_writeBinder_17 (by decide) ?_
    exact J18 a1 a2 0 _ _ _ _ _ _ _ h hI (lv_sub hl [0, 1, 2] rfl)
  · replace h := Eq.trans (if_pos c1).symm h
    refine lv_iconst (v := 1) hx hb d_Pri_writeBinder_13 (by decide) ?_
    refine lv_goto (tgt := 18) hx hb d_Pri_writeBinder_14 (by decide) ?_
    exact J18 a1 a2 1 _ _ _ _ _ _ _ h hI (lv_sub hl [0, 1, 2] rfl)
theorem kw_Pri_126 : kWv "FamilyKernel$Printer" 126 "FamilyKernel$Printer" y_Pri_writeBinder b_Pri_writeBinder 5 none 2 := ⟨vt_1163, vt_1164, vt_1165, vt_75, vt_1166, by decide, by decide, by decide +kernel⟩
theorem kw_Pri_115 : kWv "FamilyKernel$Printer" 115 "FamilyKernel$Printer" y_Pri_sort b_Pri_sort 2 none 1 := ⟨vt_1150, vt_1151, vt_1152, vt_75, vt_1153, by decide, by decide, by decide +kernel⟩
theorem kw_Pri_36 : kWv "FamilyKernel$Printer" 36 "FamilyKernel$Printer" y_Pri_name b_Pri_name 3 none 1 := ⟨vt_1154, vt_1155, vt_1156, vt_75, vt_1157, by decide, by decide, by decide +kernel⟩
theorem kw_Pri_123 : kWv "FamilyKernel$Printer" 123 "FamilyKernel$Printer" y_Pri_writeLet b_Pri_writeLet 4 none 2 := ⟨vt_1159, vt_1160, vt_1161, vt_75, vt_1162, by decide, by decide, by decide +kernel⟩
def f_Pri_write (N : Nat) (a1 : Int32) (a2 : Int32) (a3 : Int32) (α : kS) : Option (kO × kS) := if (f_Terms_kind a1 α) = 0 then (kBv (fR_push α 1 120) fun α2 => (kBv (f_Pri_number N ((a2 - 1) - (f_Terms_left a1 α)) α2) fun α4 => (some (some none, α4)))) else (if (f_Terms_kind a1 α) = 1 then (kBv (f_Pri_writeBinder N a1 a2 α) fun α7 => (some (some none, α7))) else (if (f_Terms_kind a1 α) = 2 then (if (f_Terms_left a1 α) = 101 then (kBv (f_Pri_sort N a3 α) fun α13 => (some (some none, α13))) else (kBv (f_Pri_sort N (f_Terms_left a1 α) α) fun α11 => (some (some none, α11)))) else (if (f_Terms_kind a1 α) = 3 then (kBv (f_Pri_name N (f_Terms_left a1 α) α) fun α16 => (some (some none, α16))) else (if (f_Terms_kind a1 α) = 4 then (kBv (f_Pri_text N 22 α) fun α19 => (kBv (f_Pri_name N (f_Terms_left a1 α) α19) fun α21 => (kBv (fR_push α21 1 32) fun α23 => (kBv (f_Pri_sort N (f_Terms_right a1 α23) α23) fun α25 => (some (some none, α25)))))) else (if (f_Terms_kind a1 α) = 5 then (kBv (f_Pri_later N (f_Terms_right a1 α) a2 2 α) fun α28 => (kBv (f_Pri_later N (-2) 0 0 α28) fun α30 => (kBv (f_Pri_later N (f_Terms_left a1 α) a2 1 α30) fun α32 => (some (some none, α32))))) else (if (f_Terms_kind a1 α) = 6 then (kBv (f_Pri_writeBinder N a1 a2 α) fun α35 => (some (some none, α35))) else (if (f_Terms_kind a1 α) = 7 then (kBv (f_Pri_writeBinder N a1 a2 α) fun α38 => (some (some none, α38))) else (if (f_Terms_kind a1 α) = 8 then (kBv (f_Pri_writeLet N a1 a2 α) fun α41 => (some (some none, α41))) else (kBv (f_Pri_writeBinder N a1 a2 α) fun α43 => (some (some none, α43)))))))))))
set_option maxHeartbeats 4000000 in
set_option maxRecDepth 100000 in
theorem k_Pri_write {l : Launch} {g : kG} {α : kS} (hfl : kFl l) (N : Nat) (a1 : Int32) (a2 : Int32) (a3 : Int32)  : ∀ x, f_Pri_write N a1 a2 a3 α = some x → kC l g y_Pri_write b_Pri_write 5 none 33 972 [.ref (kad g 10), .int a1, .int a2, .int a3] α (kQr x) := by
  intro x h
  unfold f_Pri_write at h
  refine kc_ofW (by decide) (fun A ad0 p e s m args below meth c S hr hlocks hno hadm hargs E hI => ?_)
  have hx := S.1
  have hb := S.2.1
  have hown := S.2.2.2.1
  have hT := S.2.2.2.2
  subst hargs
  have hl := lv_entry ([.ref (kad g 10), .int a1, .int a2, .int a3]) (n := 5) (Nat.le_of_ble_eq_true rfl)
  rw [lg_entry_eq]
  generalize (lg_sl ([.ref (kad g 10), .int a1, .int a2, .int a3]) ++ List.replicate (5 - (lg_sl ([.ref (kad g 10), .int a1, .int a2, .int a3])).length) Slot.unset).toArray = ls at hl ⊢
  have hl : lv_has ls 5 [(0, .ref (kad g 10)), (1, .int a1), (2, .int a2), (3, .int a3)] := hl
  refine lv_aload_n hx hb d_Pri_write_0 rfl (lv_at hl 0 rfl) ?_
  refine kf_Pri_terms S E hI.1 vt_162 d_Pri_write_1 ?_
  refine lv_iload_n hx hb d_Pri_write_4 rfl (lv_at hl 1 rfl) ?_
  refine kg_p (As := [.int a1]) (rest := []) (k_Terms_left (l := l) (g := g) (α := α) a1) S E hI.1 kw_Pri_112 ⟨Nat.le_of_ble_eq_true rfl, Nat.le_of_ble_eq_true rfl⟩ hI.room (kv_Terms E hI.1) rfl hl.1 rfl (Nat.le_of_ble_eq_true rfl) d_Pri_write_5 rfl ?_
  refine lv_istore (lv' := [(4, .int (f_Terms_left a1 α)), (0, .ref (kad g 10)), (1, .int a1), (2, .int a2), (3, .int a3)]) hx hb d_Pri_write_8 hl (by decide) rfl (fun ls hl => ?_)
  refine lv_aload_n hx hb d_Pri_write_10 rfl (lv_at hl 1 rfl) ?_
  refine kf_Pri_terms S E hI.1 vt_162 d_Pri_write_11 ?_
  refine lv_iload_n hx hb d_Pri_write_14 rfl (lv_at hl 2 rfl) ?_
  refine kg_p (As := [.int a1]) (rest := []) (k_Terms_kind (l := l) (g := g) (α := α) a1) S E hI.1 kw_Pri_53 ⟨Nat.le_of_ble_eq_true rfl, Nat.le_of_ble_eq_true rfl⟩ hI.room (kv_Terms E hI.1) rfl hl.1 rfl (Nat.le_of_ble_eq_true rfl) d_Pri_write_15 rfl ?_
  by_cases c1 : (f_Terms_kind a1 α) = 0
  · replace h := Eq.trans (if_pos c1).symm h
    refine lv_tableIn (off := 50) (tgt := 68) hx hb d_Pri_write_18 (by rw [c1]; decide) (by rw [c1]; decide) (by rw [c1]; rfl) (by decide) ?_
    refine lv_aload_n hx hb d_Pri_write_68 rfl (lv_at hl 1 rfl) ?_
    refine kf_Pri_shown S E hI.1 vt_161 d_Pri_write_69 ?_
    refine lv_bipush (v := 120) hx hb d_Pri_write_72 (by decide) ?_
    refine kg_cV (As := [.int 120]) (rest := []) h (k_Row_push (l := l) (g := g) (α := α) (r := 1) (by decide) 120) S hlocks hno E hI kw_Pri_63 ⟨Nat.le_of_ble_eq_true rfl, Nat.le_of_ble_eq_true rfl⟩ (kv_Row (r := 1) (by decide) E hI.1) rfl hl.1 rfl (Nat.le_of_ble_eq_true rfl) d_Pri_write_74 (fun α2 ad H locs cells slots e3 h hRm hI => ?_)
    refine lv_aload_n hx hb d_Pri_write_77 rfl (lv_at hl 1 rfl) ?_
    refine lv_iload_n hx hb d_Pri_write_78 rfl (lv_at hl 3 rfl) ?_
    refine lv_iconst (v := 1) hx hb d_Pri_write_79 (by decide) ?_
    refine lv_isub hx hb d_Pri_write_80 ?_
    refine lv_iload hx hb d_Pri_write_81 (lv_at hl 0 rfl) ?_
    refine lv_isub hx hb d_Pri_write_83 ?_
    refine kg_cV (As := [.int ((a2 - 1) - (f_Terms_left a1 α))]) (rest := []) h (k_Pri_number (l := l) (g := g) (α := α2) hfl N ((a2 - 1) - (f_Terms_left a1 α))) S hlocks hno E hI kw_Pri_95 ⟨Nat.le_of_ble_eq_true rfl, Nat.le_of_ble_eq_true rfl⟩ (kv_Pri E hI.1) rfl hl.1 rfl (Nat.le_of_ble_eq_true rfl) d_Pri_write_84 (fun α4 ad H locs cells slots e5 h hRm hI => ?_)
    refine lv_goto (tgt := 203) hx hb d_Pri_write_87 (by decide) ?_
    exact kc_vret hx hb hr hlocks E hI h d_Pri_write_203
  · replace h := Eq.trans (if_neg c1).symm h
    have nc1 := ksw (z := 0) rfl c1
    by_cases c6 : (f_Terms_kind a1 α) = 1
    · replace h := Eq.trans (if_pos c6).symm h
      refine lv_tableIn (off := 179) (tgt := 197) hx hb d_Pri_write_18 (by rw [c6]; decide) (by rw [c6]; decide) (by rw [c6]; rfl) (by decide) ?_
      refine lv_aload_n hx hb d_Pri_write_197 rfl (lv_at hl 1 rfl) ?_
      refine lv_iload_n hx hb d_Pri_write_198 rfl (lv_at hl 2 rfl) ?_
      refine lv_iload_n hx hb d_Pri_write_199 rfl (lv_at hl 3 rfl) ?_
      refine kg_cV (As := [.int a1, .int a2]) (rest := []) h (k_Pri_writeBinder (l := l) (g := g) (α := α) hfl N a1 a2) S hlocks hno E hI kw_Pri_126 ⟨Nat.le_of_ble_eq_true rfl, Nat.le_of_ble_eq_true rfl⟩ (kv_Pri E hI.1) rfl hl.1 rfl (Nat.le_of_ble_eq_true rfl) d_Pri_write_200 (fun α7 ad H locs cells slots e8 h hRm hI => ?_)
      exact kc_vret hx hb hr hlocks E hI h d_Pri_write_203
    · replace h := Eq.trans (if_neg c6).symm h
      have nc6 := ksw (z := 1) rfl c6
      by_cases c9 : (f_Terms_kind a1 α) = 2
      · replace h := Eq.trans (if_pos c9).symm h
        refine lv_tableIn (off := 72) (tgt := 90) hx hb d_Pri_write_18 (by rw [c9]; decide) (by rw [c9]; decide) (by rw [c9]; rfl) (by decide) ?_
        refine lv_aload_n hx hb d_Pri_write_90 rfl (lv_at hl 1 rfl) ?_
        refine lv_iload hx hb d_Pri_write_91 (lv_at hl 0 rfl) ?_
        refine lv_bipush (v := 101) hx hb d_Pri_write_93 (by decide) ?_
        refine lv_icmp_ne (tgt := 102) hx hb d_Pri_write_95 (by decide) (fun c10 => ?_) (fun c10 => ?_)
        · replace h := Eq.trans (if_neg c10).symm h
          refine lv_iload hx hb d_Pri_write_102 (lv_at hl 0 rfl) ?_
          refine kg_cV (As := [.int (f_Terms_left a1 α)]) (rest := []) h (k_Pri_sort (l := l) (g := g) (α := α) hfl N (f_Terms_left a1 α)) S hlocks hno E hI kw_Pri_115 ⟨Nat.le_of_ble_eq_true rfl, Nat.le_of_ble_eq_true rfl⟩ (kv_Pri E hI.1) rfl hl.1 rfl (Nat.le_of_ble_eq_true rfl) d_Pri_write_104 (fun α11 ad H locs cells slots e12 h hRm hI => ?_)
          refine lv_goto (tgt := 203) hx hb d_Pri_write_107 (by decide) ?_
          exact kc_vret hx hb hr hlocks E hI h d_Pri_write_203
        · replace h := Eq.trans (if_pos c10).symm h
          refine lv_iload_n hx hb d_Pri_write_98 rfl (lv_at hl 4 rfl) ?_
          refine lv_goto (tgt := 104) hx hb d_Pri_write_99 (by decide) ?_
          refine kg_cV (As := [.int a3]) (rest := []) h (k_Pri_sort (l := l) (g := g) (α := α) hfl N a3) S hlocks hno E hI kw_Pri_115 ⟨Nat.le_of_ble_eq_true rfl, Nat.le_of_ble_eq_true rfl⟩ (kv_Pri E hI.1) rfl hl.1 rfl (Nat.le_of_ble_eq_true rfl) d_Pri_write_104 (fun α13 ad H locs cells slots e14 h hRm hI => ?_)
          refine lv_goto (tgt := 203) hx hb d_Pri_write_107 (by decide) ?_
          exact kc_vret hx hb hr hlocks E hI h d_Pri_write_203
      · replace h := Eq.trans (if_neg c9).symm h
        have nc9 := ksw (z := 2) rfl c9
        by_cases c15 : (f_Terms_kind a1 α) = 3
        · replace h := Eq.trans (if_pos c15).symm h
          refine lv_tableIn (off := 92) (tgt := 110) hx hb d_Pri_write_18 (by rw [c15]; decide) (by rw [c15]; decide) (by rw [c15]; rfl) (by decide) ?_
          refine lv_aload_n hx hb d_Pri_write_110 rfl (lv_at hl 1 rfl) ?_
          refine lv_iload hx hb d_Pri_write_111 (lv_at hl 0 rfl) ?_
          refine kg_cV (As := [.int (f_Terms_left a1 α)]) (rest := []) h (k_Pri_name (l := l) (g := g) (α := α) hfl N (f_Terms_left a1 α)) S hlocks hno E hI kw_Pri_36 ⟨Nat.le_of_ble_eq_true rfl, Nat.le_of_ble_eq_true rfl⟩ (kv_Pri E hI.1) rfl hl.1 rfl (Nat.le_of_ble_eq_true rfl) d_Pri_write_113 (fun α16 ad H locs cells slots e17 h hRm hI => ?_)
          refine lv_goto (tgt := 203) hx hb d_Pri_write_116 (by decide) ?_
          exact kc_vret hx hb hr hlocks E hI h d_Pri_write_203
        · replace h := Eq.trans (if_neg c15).symm h
          have nc15 := ksw (z := 3) rfl c15
          by_cases c18 : (f_Terms_kind a1 α) = 4
          · replace h := Eq.trans (if_pos c18).symm h
            refine lv_tableIn (off := 101) (tgt := 119) hx hb d_Pri_write_18 (by rw [c18]; decide) (by rw [c18]; decide) (by rw [c18]; rfl) (by decide) ?_
            refine lv_aload_n hx hb d_Pri_write_119 rfl (lv_at hl 1 rfl) ?_
            refine va_ldcS hx hb hown (E.2.2.2.2.2.1 22 (by decide)) d_Pri_write_120 ?_
            refine kg_cV (As := [.ref (kst g 22)]) (rest := []) h (k_Pri_text (l := l) (g := g) (α := α) hfl N 22 (by decide)) S hlocks hno E hI kw_Pri_89 ⟨Nat.le_of_ble_eq_true rfl, Nat.le_of_ble_eq_true rfl⟩ (kv_Pri E hI.1) rfl hl.1 rfl (Nat.le_of_ble_eq_true rfl) d_Pri_write_122 (fun α19 ad H locs cells slots e20 h hRm hI => ?_)
            refine lv_aload_n hx hb d_Pri_write_125 rfl (lv_at hl 1 rfl) ?_
            refine lv_iload hx hb d_Pri_write_126 (lv_at hl 0 rfl) ?_
            refine kg_cV (As := [.int (f_Terms_left a1 α)]) (rest := []) h (k_Pri_name (l := l) (g := g) (α := α19) hfl N (f_Terms_left a1 α)) S hlocks hno E hI kw_Pri_36 ⟨Nat.le_of_ble_eq_true rfl, Nat.le_of_ble_eq_true rfl⟩ (kv_Pri E hI.1) rfl hl.1 rfl (Nat.le_of_ble_eq_true rfl) d_Pri_write_128 (fun α21 ad H locs cells slots e22 h hRm hI => ?_)
            refine lv_aload_n hx hb d_Pri_write_131 rfl (lv_at hl 1 rfl) ?_
            refine kf_Pri_shown S E hI.1 vt_161 d_Pri_write_132 ?_
            refine lv_bipush (v := 32) hx hb d_Pri_write_135 (by decide) ?_
            refine kg_cV (As := [.int 32]) (rest := []) h (k_Row_push (l := l) (g := g) (α := α21) (r := 1) (by decide) 32) S hlocks hno E hI kw_Pri_63 ⟨Nat.le_of_ble_eq_true rfl, Nat.le_of_ble_eq_true rfl⟩ (kv_Row (r := 1) (by decide) E hI.1) rfl hl.1 rfl (Nat.le_of_ble_eq_true rfl) d_Pri_write_137 (fun α23 ad H locs cells slots e24 h hRm hI => ?_)
            refine lv_aload_n hx hb d_Pri_write_140 rfl (lv_at hl 1 rfl) ?_
            refine lv_aload_n hx hb d_Pri_write_141 rfl (lv_at hl 1 rfl) ?_
            refine kf_Pri_terms S E hI.1 vt_162 d_Pri_write_142 ?_
            refine lv_iload_n hx hb d_Pri_write_145 rfl (lv_at hl 2 rfl) ?_
            refine kg_p (As := [.int a1]) (rest := [.ref (kad g 10)]) (k_Terms_right (l := l) (g := g) (α := α23) a1) S E hI.1 kw_Pri_120 ⟨Nat.le_of_ble_eq_true rfl, Nat.le_of_ble_eq_true rfl⟩ hI.room (kv_Terms E hI.1) rfl hl.1 rfl (Nat.le_of_ble_eq_true rfl) d_Pri_write_146 rfl ?_
            refine kg_cV (As := [.int (f_Terms_right a1 α23)]) (rest := []) h (k_Pri_sort (l := l) (g := g) (α := α23) hfl N (f_Terms_right a1 α23)) S hlocks hno E hI kw_Pri_115 ⟨Nat.le_of_ble_eq_true rfl, Nat.le_of_ble_eq_true rfl⟩ (kv_Pri E hI.1) rfl hl.1 rfl (Nat.le_of_ble_eq_true rfl) d_Pri_write_149 (fun α25 ad H locs cells slots e26 h hRm hI => ?_)
            refine lv_goto (tgt := 203) hx hb d_Pri_write_152 (by decide) ?_
            exact kc_vret hx hb hr hlocks E hI h d_Pri_write_203
          · replace h := Eq.trans (if_neg c18).symm h
            have nc18 := ksw (z := 4) rfl c18
            by_cases c27 : (f_Terms_kind a1 α) = 5
            · replace h := Eq.trans (if_pos c27).symm h
              refine lv_tableIn (off := 137) (tgt := 155) hx hb d_Pri_write_18 (by rw [c27]; decide) (by rw [c27]; decide) (by rw [c27]; rfl) (by decide) ?_
              refine lv_aload_n hx hb d_Pri_write_155 rfl (lv_at hl 1 rfl) ?_
              refine lv_aload_n hx hb d_Pri_write_156 rfl (lv_at hl 1 rfl) ?_
              refine kf_Pri_terms S E hI.1 vt_162 d_Pri_write_157 ?_
              refine lv_iload_n hx hb d_Pri_write_160 rfl (lv_at hl 2 rfl) ?_
              refine kg_p (As := [.int a1]) (rest := [.ref (kad g 10)]) (k_Terms_right (l := l) (g := g) (α := α) a1) S E hI.1 kw_Pri_120 ⟨Nat.le_of_ble_eq_true rfl, Nat.le_of_ble_eq_true rfl⟩ hI.room (kv_Terms E hI.1) rfl hl.1 rfl (Nat.le_of_ble_eq_true rfl) d_Pri_write_161 rfl ?_
              refine lv_iload_n hx hb d_Pri_write_164 rfl (lv_at hl 3 rfl) ?_
              refine lv_iconst (v := 2) hx hb d_Pri_write_165 (by decide) ?_
              refine kg_cV (As := [.int (f_Terms_right a1 α), .int a2, .int 2]) (rest := []) h (k_Pri_later (l := l) (g := g) (α := α) hfl N (f_Terms_right a1 α) a2 2) S hlocks hno E hI kw_Pri_39 ⟨Nat.le_of_ble_eq_true rfl, Nat.le_of_ble_eq_true rfl⟩ (kv_Pri E hI.1) rfl hl.1 rfl (Nat.le_of_ble_eq_true rfl) d_Pri_write_166 (fun α28 ad H locs cells slots e29 h hRm hI => ?_)
              refine lv_aload_n hx hb d_Pri_write_169 rfl (lv_at hl 1 rfl) ?_
              refine lv_bipush (v := (-2)) hx hb d_Pri_write_170 (by decide) ?_
              refine lv_iconst (v := 0) hx hb d_Pri_write_172 (by decide) ?_
              refine lv_iconst (v := 0) hx hb d_Pri_write_173 (by decide) ?_
              refine kg_cV (As := [.int (-2), .int 0, .int 0]) (rest := []) h (k_Pri_later (l := l) (g := g) (α := α28) hfl N (-2) 0 0) S hlocks hno E hI kw_Pri_39 ⟨Nat.le_of_ble_eq_true rfl, Nat.le_of_ble_eq_true rfl⟩ (kv_Pri E hI.1) rfl hl.1 rfl (Nat.le_of_ble_eq_true rfl) d_Pri_write_174 (fun α30 ad H locs cells slots e31 h hRm hI => ?_)
              refine lv_aload_n hx hb d_Pri_write_177 rfl (lv_at hl 1 rfl) ?_
              refine lv_iload hx hb d_Pri_write_178 (lv_at hl 0 rfl) ?_
              refine lv_iload_n hx hb d_Pri_write_180 rfl (lv_at hl 3 rfl) ?_
              refine lv_iconst (v := 1) hx hb d_Pri_write_181 (by decide) ?_
              refine kg_cV (As := [.int (f_Terms_left a1 α), .int a2, .int 1]) (rest := []) h (k_Pri_later (l := l) (g := g) (α := α30) hfl N (f_Terms_left a1 α) a2 1) S hlocks hno E hI kw_Pri_39 ⟨Nat.le_of_ble_eq_true rfl, Nat.le_of_ble_eq_true rfl⟩ (kv_Pri E hI.1) rfl hl.1 rfl (Nat.le_of_ble_eq_true rfl) d_Pri_write_182 (fun α32 ad H locs cells slots e33 h hRm hI => ?_)
              refine lv_goto (tgt := 203) hx hb d_Pri_write_185 (by decide) ?_
              exact kc_vret hx hb hr hlocks E hI h d_Pri_write_203
            · replace h := Eq.trans (if_neg c27).symm h
              have nc27 := ksw (z := 5) rfl c27
              by_cases c34 : (f_Terms_kind a1 α) = 6
              · replace h := Eq.trans (if_pos c34).symm h
                refine lv_tableIn (off := 179) (tgt := 197) hx hb d_Pri_write_18 (by rw [c34]; decide) (by rw [c34]; decide) (by rw [c34]; rfl) (by decide) ?_
                refine lv_aload_n hx hb d_Pri_write_197 rfl (lv_at hl 1 rfl) ?_
                refine lv_iload_n hx hb d_Pri_write_198 rfl (lv_at hl 2 rfl) ?_
                refine lv_iload_n hx hb d_Pri_write_199 rfl (lv_at hl 3 rfl) ?_
                refine kg_cV (As := [.int a1, .int a2]) (rest := []) h (k_Pri_writeBinder (l := l) (g := g) (α := α) hfl N a1 a2) S hlocks hno E hI kw_Pri_126 ⟨Nat.le_of_ble_eq_true rfl, Nat.le_of_ble_eq_true rfl⟩ (kv_Pri E hI.1) rfl hl.1 rfl (Nat.le_of_ble_eq_true rfl) d_Pri_write_200 (fun α35 ad H locs cells slots e36 h hRm hI => ?_)
                exact kc_vret hx hb hr hlocks E hI h d_Pri_write_203
              · replace h := Eq.trans (if_neg c34).symm h
                have nc34 := ksw (z := 6) rfl c34
                by_cases c37 : (f_Terms_kind a1 α) = 7
                · replace h := Eq.trans (if_pos c37).symm h
                  refine lv_tableIn (off := 179) (tgt := 197) hx hb d_Pri_write_18 (by rw [c37]; decide) (by rw [c37]; decide) (by rw [c37]; rfl) (by decide) ?_
                  refine lv_aload_n hx hb d_Pri_write_197 rfl (lv_at hl 1 rfl) ?_
                  refine lv_iload_n hx hb d_Pri_write_198 rfl (lv_at hl 2 rfl) ?_
                  refine lv_iload_n hx hb d_Pri_write_199 rfl (lv_at hl 3 rfl) ?_
                  refine kg_cV (As := [.int a1, .int a2]) (rest := []) h (k_Pri_writeBinder (l := l) (g := g) (α := α) hfl N a1 a2) S hlocks hno E hI kw_Pri_126 ⟨Nat.le_of_ble_eq_true rfl, Nat.le_of_ble_eq_true rfl⟩ (kv_Pri E hI.1) rfl hl.1 rfl (Nat.le_of_ble_eq_true rfl) d_Pri_write_200 (fun α38 ad H locs cells slots e39 h hRm hI => ?_)
                  exact kc_vret hx hb hr hlocks E hI h d_Pri_write_203
                · replace h := Eq.trans (if_neg c37).symm h
                  have nc37 := ksw (z := 7) rfl c37
                  by_cases c40 : (f_Terms_kind a1 α) = 8
                  · replace h := Eq.trans (if_pos c40).symm h
                    refine lv_tableIn (off := 170) (tgt := 188) hx hb d_Pri_write_18 (by rw [c40]; decide) (by rw [c40]; decide) (by rw [c40]; rfl) (by decide) ?_
                    refine lv_aload_n hx hb d_Pri_write_188 rfl (lv_at hl 1 rfl) ?_
                    refine lv_iload_n hx hb d_Pri_write_189 rfl (lv_at hl 2 rfl) ?_
                    refine lv_iload_n hx hb d_Pri_write_190 rfl (lv_at hl 3 rfl) ?_
                    refine kg_cV (As := [.int a1, .int a2]) (rest := []) h (k_Pri_writeLet (l := l) (g := g) (α := α) hfl N a1 a2) S hlocks hno E hI kw_Pri_123 ⟨Nat.le_of_ble_eq_true rfl, Nat.le_of_ble_eq_true rfl⟩ (kv_Pri E hI.1) rfl hl.1 rfl (Nat.le_of_ble_eq_true rfl) d_Pri_write_191 (fun α41 ad H locs cells slots e42 h hRm hI => ?_)
                    refine lv_goto (tgt := 203) hx hb d_Pri_write_194 (by decide) ?_
                    exact kc_vret hx hb hr hlocks E hI h d_Pri_write_203
                  · replace h := Eq.trans (if_neg c40).symm h
                    have nc40 := ksw (z := 8) rfl c40
                    refine lv_tableOut (tgt := 197) hx hb d_Pri_write_18 (by omega) (by decide) ?_
                    refine lv_aload_n hx hb d_Pri_write_197 rfl (lv_at hl 1 rfl) ?_
                    refine lv_iload_n hx hb d_Pri_write_198 rfl (lv_at hl 2 rfl) ?_
                    refine lv_iload_n hx hb d_Pri_write_199 rfl (lv_at hl 3 rfl) ?_
                    refine kg_cV (As := [.int a1, .int a2]) (rest := []) h (k_Pri_writeBinder (l := l) (g := g) (α := α) hfl N a1 a2) S hlocks hno E hI kw_Pri_126 ⟨Nat.le_of_ble_eq_true rfl, Nat.le_of_ble_eq_true rfl⟩ (kv_Pri E hI.1) rfl hl.1 rfl (Nat.le_of_ble_eq_true rfl) d_Pri_write_200 (fun α43 ad H locs cells slots e44 h hRm hI => ?_)
                    exact kc_vret hx hb hr hlocks E hI h d_Pri_write_203
theorem kw_Pri_32 : kWv "FamilyKernel$Printer" 32 "FamilyKernel$Row" y_Row_cut b_Row_cut 2 none 1 := ⟨vt_1119, vt_232, vt_233, vt_4, vt_234, by decide, by decide, by decide +kernel⟩
theorem kw_Pri_43 : kWv "FamilyKernel$Printer" 43 "FamilyKernel$Row" y_Row_size b_Row_size 1 (some .int) 0 := ⟨vt_1124, vt_270, vt_271, vt_4, vt_272, by decide, by decide, by decide +kernel⟩
theorem kw_Pri_47 : kWv "FamilyKernel$Printer" 47 "FamilyKernel$Row" y_Row_pop b_Row_pop 1 (some .int) 0 := ⟨vt_1125, vt_599, vt_600, vt_4, vt_601, by decide, by decide, by decide +kernel⟩
theorem kw_Pri_59 : kWs "FamilyKernel$Printer" 59 y_Pri_needsBrackets b_Pri_needsBrackets 2 (some .boolean) 2 := ⟨vt_1131, vt_1132, vt_75, vt_1133, by decide, by decide, by decide +kernel⟩
theorem kw_Pri_66 : kWv "FamilyKernel$Printer" 66 "FamilyKernel$Printer" y_Pri_write b_Pri_write 5 none 3 := ⟨vt_1135, vt_1136, vt_1137, vt_75, vt_1138, by decide, by decide, by decide +kernel⟩
theorem kw_Pri_50 : kWv "FamilyKernel$Printer" 50 "FamilyKernel$Printer" y_Pri_piece b_Pri_piece 2 none 1 := ⟨vt_1126, vt_1127, vt_1128, vt_75, vt_1129, by decide, by decide, by decide +kernel⟩
def f_Pri_print_25 (N : Nat)  : Nat → Int32 → Int32 → kS → Option (kO × kS)
  | 0, _, _, _ => none
  | n + 1, x3, x2, β => if 16777216 ≤ x3 then (some (some none, β)) else (if (fR_size β 20) ≤ 0 then (some (some none, β)) else (if 0 ≤ (fR_pop (fR_pop (fR_pop β 20).2 20).2 20).1 then (if (f_Pri_needsBrackets (f_Terms_kind (fR_pop (fR_pop (fR_pop β 20).2 20).2 20).1 (fR_pop (fR_pop (fR_pop β 20).2 20).2 20).2) (fR_pop β 20).1 (fR_pop (fR_pop (fR_pop β 20).2 20).2 20).2) = 0 then (kBv (f_Pri_write N (fR_pop (fR_pop (fR_pop β 20).2 20).2 20).1 (fR_pop (fR_pop β 20).2 20).1 x2 (fR_pop (fR_pop (fR_pop β 20).2 20).2 20).2) fun α7 => (f_Pri_print_25 N n (x3 + 1) x2 α7)) else (kBv (fR_push (fR_pop (fR_pop (fR_pop β 20).2 20).2 20).2 1 40) fun α9 => (kBv (f_Pri_later N (-1) 0 0 α9) fun α11 => (kBv (f_Pri_later N (fR_pop (fR_pop (fR_pop β 20).2 20).2 20).1 (fR_pop (fR_pop β 20).2 20).1 0 α11) fun α13 => (f_Pri_print_25 N n (x3 + 1) x2 α13))))) else (kBv (f_Pri_piece N (fR_pop (fR_pop (fR_pop β 20).2 20).2 20).1 (fR_pop (fR_pop (fR_pop β 20).2 20).2 20).2) fun α15 => (f_Pri_print_25 N n (x3 + 1) x2 α15))))
def f_Pri_print (N : Nat) (a1 : Int32) (a2 : Int32) (α : kS) : Option (kO × kS) := kBv (f_Pri_later N a1 0 0 (fR_cut (fR_cut α 1 0) 20 0)) fun α1 => (f_Pri_print_25 N N 0 a2 α1)
set_option maxHeartbeats 4000000 in
set_option maxRecDepth 100000 in
theorem k_Pri_print {l : Launch} {g : kG} {α : kS} (hfl : kFl l) (N : Nat) (a1 : Int32) (a2 : Int32)  : ∀ x, f_Pri_print N a1 a2 α = some x → kC l g y_Pri_print b_Pri_print 7 none 34 996 [.ref (kad g 10), .int a1, .int a2] α (kQr x) := by
  intro x h
  unfold f_Pri_print at h
  refine kc_ofW (by decide) (fun A ad0 p e s m args below meth c S hr hlocks hno hadm hargs E hI => ?_)
  have hx := S.1
  have hb := S.2.1
  have hown := S.2.2.2.1
  have hT := S.2.2.2.2
  subst hargs
  have hl := lv_entry ([.ref (kad g 10), .int a1, .int a2]) (n := 7) (Nat.le_of_ble_eq_true rfl)
  rw [lg_entry_eq]
  generalize (lg_sl ([.ref (kad g 10), .int a1, .int a2]) ++ List.replicate (7 - (lg_sl ([.ref (kad g 10), .int a1, .int a2])).length) Slot.unset).toArray = ls at hl ⊢
  have hl : lv_has ls 7 [(0, .ref (kad g 10)), (1, .int a1), (2, .int a2)] := hl
  refine lv_aload_n hx hb d_Pri_print_0 rfl (lv_at hl 0 rfl) ?_
  refine kf_Pri_shown S E hI.1 vt_161 d_Pri_print_1 ?_
  refine lv_iconst (v := 0) hx hb d_Pri_print_4 (by decide) ?_
  refine kg_tV (As := [.int 0]) (rest := []) (k_Row_cut (l := l) (g := g) (α := α) (r := 1) (by decide) 0) S hlocks hno E hI kw_Pri_32 ⟨Nat.le_of_ble_eq_true rfl, Nat.le_of_ble_eq_true rfl⟩ (kv_Row (r := 1) (by decide) E hI.1) rfl hl.1 rfl (Nat.le_of_ble_eq_true rfl) d_Pri_print_5 (fun ad H locs cells slots hRm hI => ?_)
  refine lv_aload_n hx hb d_Pri_print_8 rfl (lv_at hl 0 rfl) ?_
  refine kf_Pri_todo S E hI.1 vt_167 d_Pri_print_9 ?_
  refine lv_iconst (v := 0) hx hb d_Pri_print_12 (by decide) ?_
  refine kg_tV (As := [.int 0]) (rest := []) (k_Row_cut (l := l) (g := g) (α := (fR_cut α 1 0)) (r := 20) (by decide) 0) S hlocks hno E hI kw_Pri_32 ⟨Nat.le_of_ble_eq_true rfl, Nat.le_of_ble_eq_true rfl⟩ (kv_Row (r := 20) (by decide) E hI.1) rfl hl.1 rfl (Nat.le_of_ble_eq_true rfl) d_Pri_print_13 (fun ad H locs cells slots hRm hI => ?_)
  refine lv_aload_n hx hb d_Pri_print_16 rfl (lv_at hl 0 rfl) ?_
  refine lv_iload_n hx hb d_Pri_print_17 rfl (lv_at hl 1 rfl) ?_
  refine lv_iconst (v := 0) hx hb d_Pri_print_18 (by decide) ?_
  refine lv_iconst (v := 0) hx hb d_Pri_print_19 (by decide) ?_
  refine kg_cV (As := [.int a1, .int 0, .int 0]) (rest := []) h (k_Pri_later (l := l) (g := g) (α := (fR_cut (fR_cut α 1 0) 20 0)) hfl N a1 0 0) S hlocks hno E hI kw_Pri_39 ⟨Nat.le_of_ble_eq_true rfl, Nat.le_of_ble_eq_true rfl⟩ (kv_Pri E hI.1) rfl hl.1 rfl (Nat.le_of_ble_eq_true rfl) d_Pri_print_20 (fun α1 ad H locs cells slots e2 h hRm hI => ?_)
  refine lv_iconst (v := 0) hx hb d_Pri_print_23 (by decide) ?_
  refine lv_istore_n (lv' := [(3, .int 0), (0, .ref (kad g 10)), (1, .int a1), (2, .int a2)]) hx hb d_Pri_print_24 rfl hl (by decide) rfl (fun ls hl => ?_)
  have L25 : ∀ (n25 : Nat) (x3 : Int32) (x2 : Int32) (β : kS) (ad : Nat → Nat) (H : Heap) (locs : List Loc) (cells slots : Nat) (ls : Array Slot), f_Pri_print_25 N n25 x3 x2 β = some x → kI g A s α ad0 β ad H locs cells slots → lv_has ls 7 [(3, .int x3), (0, .ref (kad g 10)), (2, .int x2)] → W p l e (kR 34 996 α) s m ([.ref (kad g 10), .int a1, .int a2]).toArray below meth c H locs cells slots (vEQ below (kQ g A α ad0 (kQr x)) ([.ref (kad g 10), .int a1, .int a2]).toArray s A) (F0 m 25 ls []) := by
    intro n25
    induction n25 with
    | zero => intro x3 x2 β ad H locs cells slots ls h hI hl; rw [f_Pri_print_25] at h; cases h
    | succ n25 ih25 =>
      intro x3 x2 β ad H locs cells slots ls h hI hl
      rw [f_Pri_print_25] at h
      refine lv_iload_n hx hb d_Pri_print_25 rfl (lv_at hl 0 rfl) ?_
      refine lv_ldc (v := 16777216) hx hb hown (hT _ vt_165) d_Pri_print_26 ?_
      refine lv_icmp_ge (tgt := 142) hx hb d_Pri_print_28 (by decide) (fun c3 => ?_) (fun c3 => ?_)
      · replace h := Eq.trans (if_pos c3).symm h
        exact kc_vret hx hb hr hlocks E hI h d_Pri_print_142
      · replace h := Eq.trans (if_neg c3).symm h
        refine lv_aload_n hx hb d_Pri_print_31 rfl (lv_at hl 1 rfl) ?_
        refine kf_Pri_todo S E hI.1 vt_167 d_Pri_print_32 ?_
        refine kg_p (As := []) (rest := []) (k_Row_size (l := l) (g := g) (α := β) (r := 20) (by decide)) S E hI.1 kw_Pri_43 ⟨Nat.le_of_ble_eq_true rfl, Nat.le_of_ble_eq_true rfl⟩ hI.room (kv_Row (r := 20) (by decide) E hI.1) rfl hl.1 rfl (Nat.le_of_ble_eq_true rfl) d_Pri_print_35 rfl ?_
        refine lv_if_le (tgt := 142) hx hb d_Pri_print_38 (by decide) (fun c4 => ?_) (fun c4 => ?_)
        · replace h := Eq.trans (if_pos c4).symm h
          exact kc_vret hx hb hr hlocks E hI h d_Pri_print_142
        · replace h := Eq.trans (if_neg c4).symm h
          refine lv_aload_n hx hb d_Pri_print_41 rfl (lv_at hl 1 rfl) ?_
          refine kf_Pri_todo S E hI.1 vt_167 d_Pri_print_42 ?_
          refine kg_tI (As := []) (rest := []) (k_Row_pop (l := l) (g := g) (α := β) (r := 20) (by decide)) S hlocks hno E hI kw_Pri_47 ⟨Nat.le_of_ble_eq_true rfl, Nat.le_of_ble_eq_true rfl⟩ (kv_Row (r := 20) (by decide) E hI.1) rfl hl.1 rfl (Nat.le_of_ble_eq_true rfl) d_Pri_print_45 (fun ad H locs cells slots hRm hI => ?_)
          refine lv_istore (lv' := [(4, .int (fR_pop β 20).1), (3, .int x3), (0, .ref (kad g 10)), (2, .int x2)]) hx hb d_Pri_print_48 hl (by decide) rfl (fun ls hl => ?_)
          refine lv_aload_n hx hb d_Pri_print_50 rfl (lv_at hl 2 rfl) ?_
          refine kf_Pri_todo S E hI.1 vt_167 d_Pri_print_51 ?_
          refine kg_tI (As := []) (rest := []) (k_Row_pop (l := l) (g := g) (α := (fR_pop β 20).2) (r := 20) (by decide)) S hlocks hno E hI kw_Pri_47 ⟨Nat.le_of_ble_eq_true rfl, Nat.le_of_ble_eq_true rfl⟩ (kv_Row (r := 20) (by decide) E hI.1) rfl hl.1 rfl (Nat.le_of_ble_eq_true rfl) d_Pri_print_54 (fun ad H locs cells slots hRm hI => ?_)
          refine lv_istore (lv' := [(5, .int (fR_pop (fR_pop β 20).2 20).1), (4, .int (fR_pop β 20).1), (3, .int x3), (0, .ref (kad g 10)), (2, .int x2)]) hx hb d_Pri_print_57 hl (by decide) rfl (fun ls hl => ?_)
          refine lv_aload_n hx hb d_Pri_print_59 rfl (lv_at hl 3 rfl) ?_
          refine kf_Pri_todo S E hI.1 vt_167 d_Pri_print_60 ?_
          refine kg_tI (As := []) (rest := []) (k_Row_pop (l := l) (g := g) (α := (fR_pop (fR_pop β 20).2 20).2) (r := 20) (by decide)) S hlocks hno E hI kw_Pri_47 ⟨Nat.le_of_ble_eq_true rfl, Nat.le_of_ble_eq_true rfl⟩ (kv_Row (r := 20) (by decide) E hI.1) rfl hl.1 rfl (Nat.le_of_ble_eq_true rfl) d_Pri_print_63 (fun ad H locs cells slots hRm hI => ?_)
          refine lv_istore (lv' := [(6, .int (fR_pop (fR_pop (fR_pop β 20).2 20).2 20).1), (5, .int (fR_pop (fR_pop β 20).2 20).1), (4, .int (fR_pop β 20).1), (3, .int x3), (0, .ref (kad g 10)), (2, .int x2)]) hx hb d_Pri_print_66 hl (by decide) rfl (fun ls hl => ?_)
          refine lv_iload hx hb d_Pri_print_68 (lv_at hl 0 rfl) ?_
          refine lv_if_ge (tgt := 82) hx hb d_Pri_print_70 (by decide) (fun c5 => ?_) (fun c5 => ?_)
          · replace h := Eq.trans (if_pos c5).symm h
            refine lv_aload_n hx hb d_Pri_print_82 rfl (lv_at hl 4 rfl) ?_
            refine kf_Pri_terms S E hI.1 vt_162 d_Pri_print_83 ?_
            refine lv_iload hx hb d_Pri_print_86 (lv_at hl 0 rfl) ?_
            refine kg_p (As := [.int (fR_pop (fR_pop (fR_pop β 20).2 20).2 20).1]) (rest := []) (k_Terms_kind (l := l) (g := g) (α := (fR_pop (fR_pop (fR_pop β 20).2 20).2 20).2) (fR_pop (fR_pop (fR_pop β 20).2 20).2 20).1) S E hI.1 kw_Pri_53 ⟨Nat.le_of_ble_eq_true rfl, Nat.le_of_ble_eq_true rfl⟩ hI.room (kv_Terms E hI.1) rfl hl.1 rfl (Nat.le_of_ble_eq_true rfl) d_Pri_print_88 rfl ?_
            refine lv_iload hx hb d_Pri_print_91 (lv_at hl 2 rfl) ?_
            refine kg_pS (As := [.int (f_Terms_kind (fR_pop (fR_pop (fR_pop β 20).2 20).2 20).1 (fR_pop (fR_pop (fR_pop β 20).2 20).2 20).2), .int (fR_pop β 20).1]) (rest := []) (k_Pri_needsBrackets (l := l) (g := g) (α := (fR_pop (fR_pop (fR_pop β 20).2 20).2 20).2) (f_Terms_kind (fR_pop (fR_pop (fR_pop β 20).2 20).2 20).1 (fR_pop (fR_pop (fR_pop β 20).2 20).2 20).2) (fR_pop β 20).1) S E hI.1 kw_Pri_59 ⟨Nat.le_of_ble_eq_true rfl, Nat.le_of_ble_eq_true rfl⟩ hI.room rfl hl.1 rfl (Nat.le_of_ble_eq_true rfl) d_Pri_print_93 ?_
            refine lv_if_eq (tgt := 127) hx hb d_Pri_print_96 (by decide) (fun c6 => ?_) (fun c6 => ?_)
            · replace h := Eq.trans (if_pos c6).symm h
              refine lv_aload_n hx hb d_Pri_print_127 rfl (lv_at hl 4 rfl) ?_
              refine lv_iload hx hb d_Pri_print_128 (lv_at hl 0 rfl) ?_
              refine lv_iload hx hb d_Pri_print_130 (lv_at hl 1 rfl) ?_
              refine lv_iload_n hx hb d_Pri_print_132 rfl (lv_at hl 5 rfl) ?_
              refine kg_cV (As := [.int (fR_pop (fR_pop (fR_pop β 20).2 20).2 20).1, .int (fR_pop (fR_pop β 20).2 20).1, .int x2]) (rest := []) h (k_Pri_write (l := l) (g := g) (α := (fR_pop (fR_pop (fR_pop β 20).2 20).2 20).2) hfl N (fR_pop (fR_pop (fR_pop β 20).2 20).2 20).1 (fR_pop (fR_pop β 20).2 20).1 x2) S hlocks hno E hI kw_Pri_66 ⟨Nat.le_of_ble_eq_true rfl, Nat.le_of_ble_eq_true rfl⟩ (kv_Pri E hI.1) rfl hl.1 rfl (Nat.le_of_ble_eq_true rfl) d_Pri_print_133 (fun α7 ad H locs cells slots e8 h hRm hI => ?_)
              refine lv_iinc (v := (x3 + 1)) (lv' := [(3, .int (x3 + 1)), (6, .int (fR_pop (fR_pop (fR_pop β 20).2 20).2 20).1), (5, .int (fR_pop (fR_pop β 20).2 20).1), (4, .int (fR_pop β 20).1), (0, .ref (kad g 10)), (2, .int x2)]) hx hb d_Pri_print_136 hl (k := 3) rfl rfl (by decide) rfl (fun ls hl => ?_)
              refine lv_goto (tgt := 25) hx hb d_Pri_print_139 (by decide) ?_
              exact ih25 (x3 + 1) x2 _ _ _ _ _ _ _ h hI (lv_sub hl [0, 4, 5] rfl)
            · replace h := Eq.trans (if_neg c6).symm h
              refine lv_aload_n hx hb d_Pri_print_99 rfl (lv_at hl 4 rfl) ?_
              refine kf_Pri_shown S E hI.1 vt_161 d_Pri_print_100 ?_
              refine lv_bipush (v := 40) hx hb d_Pri_print_103 (by decide) ?_
              refine kg_cV (As := [.int 40]) (rest := []) h (k_Row_push (l := l) (g := g) (α := (fR_pop (fR_pop (fR_pop β 20).2 20).2 20).2) (r := 1) (by decide) 40) S hlocks hno E hI kw_Pri_63 ⟨Nat.le_of_ble_eq_true rfl, Nat.le_of_ble_eq_true rfl⟩ (kv_Row (r := 1) (by decide) E hI.1) rfl hl.1 rfl (Nat.le_of_ble_eq_true rfl) d_Pri_print_105 (fun α9 ad H locs cells slots e10 h hRm hI => ?_)
              refine lv_aload_n hx hb d_Pri_print_108 rfl (lv_at hl 4 rfl) ?_
              refine lv_iconst (v := (-1)) hx hb d_Pri_print_109 (by decide) ?_
              refine lv_iconst (v := 0) hx hb d_Pri_print_110 (by decide) ?_
              refine lv_iconst (v := 0) hx hb d_Pri_print_111 (by decide) ?_
              refine kg_cV (As := [.int (-1), .int 0, .int 0]) (rest := []) h (k_Pri_later (l := l) (g := g) (α := α9) hfl N (-1) 0 0) S hlocks hno E hI kw_Pri_39 ⟨Nat.le_of_ble_eq_true rfl, Nat.le_of_ble_eq_true rfl⟩ (kv_Pri E hI.1) rfl hl.1 rfl (Nat.le_of_ble_eq_true rfl) d_Pri_print_112 (fun α11 ad H locs cells slots e12 h hRm hI => ?_)
              refine lv_aload_n hx hb d_Pri_print_115 rfl (lv_at hl 4 rfl) ?_
              refine lv_iload hx hb d_Pri_print_116 (lv_at hl 0 rfl) ?_
              refine lv_iload hx hb d_Pri_print_118 (lv_at hl 1 rfl) ?_
              refine lv_iconst (v := 0) hx hb d_Pri_print_120 (by decide) ?_
              refine kg_cV (As := [.int (fR_pop (fR_pop (fR_pop β 20).2 20).2 20).1, .int (fR_pop (fR_pop β 20).2 20).1, .int 0]) (rest := []) h (k_Pri_later (l := l) (g := g) (α := α11) hfl N (fR_pop (fR_pop (fR_pop β 20).2 20).2 20).1 (fR_pop (fR_pop β 20).2 20).1 0) S hlocks hno E hI kw_Pri_39 ⟨Nat.le_of_ble_eq_true rfl, Nat.le_of_ble_eq_true rfl⟩ (kv_Pri E hI.1) rfl hl.1 rfl (Nat.le_of_ble_eq_true rfl) d_Pri_print_121 (fun α13 ad H locs cells slots e14 h hRm hI => ?_)
              refine lv_goto (tgt := 136) hx hb d_Pri_print_124 (by decide) ?_
              refine lv_iinc (v := (x3 + 1)) (lv' := [(3, .int (x3 + 1)), (6, .int (fR_pop (fR_pop (fR_pop β 20).2 20).2 20).1), (5, .int (fR_pop (fR_pop β 20).2 20).1), (4, .int (fR_pop β 20).1), (0, .ref (kad g 10)), (2, .int x2)]) hx hb d_Pri_print_136 hl (k := 3) rfl rfl (by decide) rfl (fun ls hl => ?_)
              refine lv_goto (tgt := 25) hx hb d_Pri_print_139 (by decide) ?_
              exact ih25 (x3 + 1) x2 _ _ _ _ _ _ _ h hI (lv_sub hl [0, 4, 5] rfl)
          · replace h := Eq.trans (if_neg c5).symm h
            refine lv_aload_n hx hb d_Pri_print_73 rfl (lv_at hl 4 rfl) ?_
            refine lv_iload hx hb d_Pri_print_74 (lv_at hl 0 rfl) ?_
            refine kg_cV (As := [.int (fR_pop (fR_pop (fR_pop β 20).2 20).2 20).1]) (rest := []) h (k_Pri_piece (l := l) (g := g) (α := (fR_pop (fR_pop (fR_pop β 20).2 20).2 20).2) hfl N (fR_pop (fR_pop (fR_pop β 20).2 20).2 20).1) S hlocks hno E hI kw_Pri_50 ⟨Nat.le_of_ble_eq_true rfl, Nat.le_of_ble_eq_true rfl⟩ (kv_Pri E hI.1) rfl hl.1 rfl (Nat.le_of_ble_eq_true rfl) d_Pri_print_76 (fun α15 ad H locs cells slots e16 h hRm hI => ?_)
            refine lv_goto (tgt := 136) hx hb d_Pri_print_79 (by decide) ?_
            refine lv_iinc (v := (x3 + 1)) (lv' := [(3, .int (x3 + 1)), (6, .int (fR_pop (fR_pop (fR_pop β 20).2 20).2 20).1), (5, .int (fR_pop (fR_pop β 20).2 20).1), (4, .int (fR_pop β 20).1), (0, .ref (kad g 10)), (2, .int x2)]) hx hb d_Pri_print_136 hl (k := 3) rfl rfl (by decide) rfl (fun ls hl => ?_)
            refine lv_goto (tgt := 25) hx hb d_Pri_print_139 (by decide) ?_
            exact ih25 (x3 + 1) x2 _ _ _ _ _ _ _ h hI (lv_sub hl [0, 4, 5] rfl)
  exact L25 N 0 a2 _ _ _ _ _ _ _ h hI (lv_sub hl [0, 1, 3] rfl)
def f_Pri_printName (N : Nat) (a1 : Int32) (α : kS) : Option (kO × kS) := kBv (f_Pri_name N a1 (fR_cut α 1 0)) fun α1 => (some (some none, α1))
set_option maxHeartbeats 4000000 in
set_option maxRecDepth 100000 in
theorem k_Pri_printName {l : Launch} {g : kG} {α : kS} (hfl : kFl l) (N : Nat) (a1 : Int32)  : ∀ x, f_Pri_printName N a1 α = some x → kC l g y_Pri_printName b_Pri_printName 2 none 32 943 [.ref (kad g 10), .int a1] α (kQr x) := by
  intro x h
  unfold f_Pri_printName at h
  refine kc_ofW (by decide) (fun A ad0 p e s m args below meth c S hr hlocks hno hadm hargs E hI => ?_)
  have hx := S.1
  have hb := S.2.1
  have hown := S.2.2.2.1
  have hT := S.2.2.2.2
  subst hargs
  have hl := lv_entry ([.ref (kad g 10), .int a1]) (n := 2) (Nat.le_of_ble_eq_true rfl)
  rw [lg_entry_eq]
  generalize (lg_sl ([.ref (kad g 10), .int a1]) ++ List.replicate (2 - (lg_sl ([.ref (kad g 10), .int a1])).length) Slot.unset).toArray = ls at hl ⊢
  have hl : lv_has ls 2 [(0, .ref (kad g 10)), (1, .int a1)] := hl
  refine lv_aload_n hx hb d_Pri_printName_0 rfl (lv_at hl 0 rfl) ?_
  refine kf_Pri_shown S E hI.1 vt_161 d_Pri_printName_1 ?_
  refine lv_iconst (v := 0) hx hb d_Pri_printName_4 (by decide) ?_
  refine kg_tV (As := [.int 0]) (rest := []) (k_Row_cut (l := l) (g := g) (α := α) (r := 1) (by decide) 0) S hlocks hno E hI kw_Pri_32 ⟨Nat.le_of_ble_eq_true rfl, Nat.le_of_ble_eq_true rfl⟩ (kv_Row (r := 1) (by decide) E hI.1) rfl hl.1 rfl (Nat.le_of_ble_eq_true rfl) d_Pri_printName_5 (fun ad H locs cells slots hRm hI => ?_)
  refine lv_aload_n hx hb d_Pri_printName_8 rfl (lv_at hl 0 rfl) ?_
  refine lv_iload_n hx hb d_Pri_printName_9 rfl (lv_at hl 1 rfl) ?_
  refine kg_cV (As := [.int a1]) (rest := []) h (k_Pri_name (l := l) (g := g) (α := (fR_cut α 1 0)) hfl N a1) S hlocks hno E hI kw_Pri_36 ⟨Nat.le_of_ble_eq_true rfl, Nat.le_of_ble_eq_true rfl⟩ (kv_Pri E hI.1) rfl hl.1 rfl (Nat.le_of_ble_eq_true rfl) d_Pri_printName_10 (fun α1 ad H locs cells slots e2 h hRm hI => ?_)
  exact kc_vret hx hb hr hlocks E hI h d_Pri_printName_13
