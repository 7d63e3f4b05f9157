theorem kw_Lex_73 : kWv "FamilyKernel$Lexer" 73 "FamilyKernel$Row" y_Row_size b_Row_size 1 (some .int) 0 := ⟨vt_269, vt_270, vt_271, vt_4, vt_272, by decide, by decide, by decide +kernel⟩
theorem kw_Lex_58 : kWv "FamilyKernel$Lexer" 58 "FamilyKernel$Row" y_Row_at b_Row_at 2 (some .int) 1 := ⟨vt_265, vt_266, vt_267, vt_4, vt_268, by decide, by decide, by decide +kernel⟩
def f_Lex_skip_j73 (N : Nat)  (k2 : Int32 → kS → Option (kO × kS)) (y1 : Int32) (γ : kS) : Option (kO × kS) := k2 y1 (kSi γ 8 ((γ.1 8) + 1))
def f_Lex_skip_2 (N : Nat)  : Nat → Int32 → kS → Option (kO × kS)
  | 0, _, _ => none
  | n + 1, x1, β => if (fR_size β 0) ≤ (β.1 8) then (some (some none, β)) else (if (fR_at β 0 (β.1 8)) = 37 then (f_Lex_skip_j73 N (f_Lex_skip_2 N n) 1 β) else (if (fR_at β 0 (β.1 8)) = 10 then (f_Lex_skip_j73 N (f_Lex_skip_2 N n) 0 β) else (if x1 = 0 then (if (fR_at β 0 (β.1 8)) = 32 then (f_Lex_skip_j73 N (f_Lex_skip_2 N n) x1 β) else (if (fR_at β 0 (β.1 8)) = 9 then (f_Lex_skip_j73 N (f_Lex_skip_2 N n) x1 β) else (if (fR_at β 0 (β.1 8)) = 13 then (f_Lex_skip_j73 N (f_Lex_skip_2 N n) x1 β) else (some (some none, β))))) else (f_Lex_skip_j73 N (f_Lex_skip_2 N n) x1 β))))
def f_Lex_skip (N : Nat)  (α : kS) : Option (kO × kS) := f_Lex_skip_2 N N 0 α
set_option maxHeartbeats 4000000 in
set_option maxRecDepth 100000 in
theorem k_Lex_skip {l : Launch} {g : kG} {α : kS} (hfl : kFl l) (N : Nat)   : ∀ x, f_Lex_skip N α = some x → kC l g y_Lex_skip b_Lex_skip 3 none 11 321 [.ref (kad g 4)] α (kQr x) := by
  intro x h
  unfold f_Lex_skip at h
  refine kc_ofW (by decide) (fun A ad0 p e s m args below meth c S hr hlocks hno hadm hargs E hI => ?_)
  have hx := S.1
  have hb := S.2.1
  have hown := S.2.2.2.1
  have hT := S.2.2.2.2
  subst hargs
  have hl := lv_entry ([.ref (kad g 4)]) (n := 3) (Nat.le_of_ble_eq_true rfl)
  rw [lg_entry_eq]
  generalize (lg_sl ([.ref (kad g 4)]) ++ List.replicate (3 - (lg_sl ([.ref (kad g 4)])).length) Slot.unset).toArray = ls at hl ⊢
  have hl : lv_has ls 3 [(0, .ref (kad g 4))] := hl
  refine lv_iconst (v := 0) hx hb d_Lex_skip_0 (by decide) ?_
  refine lv_istore_n (lv' := [(1, .int 0), (0, .ref (kad g 4))]) hx hb d_Lex_skip_1 rfl hl (by decide) rfl (fun ls hl => ?_)
  have L2 : ∀ (n2 : Nat) (x1 : Int32) (β : kS) (ad : Nat → Nat) (H : Heap) (locs : List Loc) (cells slots : Nat) (ls : Array Slot), f_Lex_skip_2 N n2 x1 β = some x → kI g A s α ad0 β ad H locs cells slots → lv_has ls 3 [(1, .int x1), (0, .ref (kad g 4))] → W p l e (kR 11 321 α) s m ([.ref (kad g 4)]).toArray below meth c H locs cells slots (vEQ below (kQ g A α ad0 (kQr x)) ([.ref (kad g 4)]).toArray s A) (F0 m 2 ls []) := by
    intro n2
    induction n2 with
    | zero => intro x1 β ad H locs cells slots ls h hI hl; rw [f_Lex_skip_2] at h; cases h
    | succ n2 ih2 =>
      intro x1 β ad H locs cells slots ls h hI hl
      rw [f_Lex_skip_2] at h
      have J73 : ∀ (y1 : Int32) (γ : kS) (ad : Nat → Nat) (H : Heap) (locs : List Loc) (cells slots : Nat) (ls : Array Slot), f_Lex_skip_j73 N (f_Lex_skip_2 N n2) y1 γ = some x → kI g A s α ad0 γ ad H locs cells slots → lv_has ls 3 [(1, .int y1), (0, .ref (kad g 4))] → W p l e (kR 11 321 α) s m ([.ref (kad g 4)]).toArray below meth c H locs cells slots (vEQ below (kQ g A α ad0 (kQr x)) ([.ref (kad g 4)]).toArray s A) (F0 m 73 ls []) := by
        intro y1 γ ad H locs cells slots ls h hI hl
        unfold f_Lex_skip_j73 at h
        refine lv_aload_n hx hb d_Lex_skip_73 rfl (lv_at hl 1 rfl) ?_
        refine lv_dup hx hb d_Lex_skip_74 rfl ?_
        refine kf_Lex_place S E hI.1 vt_239 d_Lex_skip_75 ?_
        refine lv_iconst (v := 1) hx hb d_Lex_skip_78 (by decide) ?_
        refine lv_iadd hx hb d_Lex_skip_79 ?_
        refine kp_Lex_place S E hI vt_239 d_Lex_skip_80 (fun H locs hI => ?_)
        refine lv_goto (tgt := 2) hx hb d_Lex_skip_83 (by decide) ?_
        exact ih2 y1 _ _ _ _ _ _ _ h hI (lv_sub hl [0, 1] rfl)
      refine lv_aload_n hx hb d_Lex_skip_2 rfl (lv_at hl 1 rfl) ?_
      refine kf_Lex_place S E hI.1 vt_239 d_Lex_skip_3 ?_
      refine lv_aload_n hx hb d_Lex_skip_6 rfl (lv_at hl 1 rfl) ?_
      refine kf_Lex_text S E hI.1 vt_108 d_Lex_skip_7 ?_
      refine kg_p (As := []) (rest := [.int (β.1 8)]) (k_Row_size (l := l) (g := g) (α := β) (r := 0) (by decide)) S E hI.1 kw_Lex_73 ⟨Nat.le_of_ble_eq_true rfl, Nat.le_of_ble_eq_true rfl⟩ hI.room (kv_Row (r := 0) (by decide) E hI.1) rfl hl.1 rfl (Nat.le_of_ble_eq_true rfl) d_Lex_skip_10 rfl ?_
      refine lv_icmp_ge (tgt := 86) hx hb d_Lex_skip_13 (by decide) (fun c1 => ?_) (fun c1 => ?_)
      · replace h := Eq.trans (if_pos c1).symm h
        exact kc_vret hx hb hr hlocks E hI h d_Lex_skip_86
      · replace h := Eq.trans (if_neg c1).symm h
        refine lv_aload_n hx hb d_Lex_skip_16 rfl (lv_at hl 1 rfl) ?_
        refine kf_Lex_text S E hI.1 vt_108 d_Lex_skip_17 ?_
        refine lv_aload_n hx hb d_Lex_skip_20 rfl (lv_at hl 1 rfl) ?_
        refine kf_Lex_place S E hI.1 vt_239 d_Lex_skip_21 ?_
        refine kg_p (As := [.int (β.1 8)]) (rest := []) (k_Row_at (l := l) (g := g) (α := β) (r := 0) (by decide) (β.1 8)) S E hI.1 kw_Lex_58 ⟨Nat.le_of_ble_eq_true rfl, Nat.le_of_ble_eq_true rfl⟩ hI.room (kv_Row (r := 0) (by decide) E hI.1) rfl hl.1 rfl (Nat.le_of_ble_eq_true rfl) d_Lex_skip_24 rfl ?_
        refine lv_istore_n (lv' := [(2, .int (fR_at β 0 (β.1 8))), (1, .int x1), (0, .ref (kad g 4))]) hx hb d_Lex_skip_27 rfl hl (by decide) rfl (fun ls hl => ?_)
        refine lv_iload_n hx hb d_Lex_skip_28 rfl (lv_at hl 0 rfl) ?_
        refine lv_bipush (v := 37) hx hb d_Lex_skip_29 (by decide) ?_
        refine lv_icmp_ne (tgt := 39) hx hb d_Lex_skip_31 (by decide) (fun c2 => ?_) (fun c2 => ?_)
        · replace h := Eq.trans (if_neg c2).symm h
          refine lv_iload_n hx hb d_Lex_skip_39 rfl (lv_at hl 0 rfl) ?_
          refine lv_bipush (v := 10) hx hb d_Lex_skip_40 (by decide) ?_
          refine lv_icmp_ne (tgt := 50) hx hb d_Lex_skip_42 (by decide) (fun c3 => ?_) (fun c3 => ?_)
          · replace h := Eq.trans (if_neg c3).symm h
            refine lv_iload_n hx hb d_Lex_skip_50 rfl (lv_at hl 1 rfl) ?_
            refine lv_if_ne (tgt := 73) hx hb d_Lex_skip_51 (by decide) (fun c4 => ?_) (fun c4 => ?_)
            · replace h := Eq.trans (if_neg c4).symm h
              exact J73 x1 _ _ _ _ _ _ _ h hI (lv_sub hl [1, 2] rfl)
            · replace h := Eq.trans (if_pos c4).symm h
              refine lv_iload_n hx hb d_Lex_skip_54 rfl (lv_at hl 0 rfl) ?_
              refine lv_bipush (v := 32) hx hb d_Lex_skip_55 (by decide) ?_
              refine lv_icmp_eq (tgt := 73) hx hb d_Lex_skip_57 (by decide) (fun c5 => ?_) (fun c5 => ?_)
              · replace h := Eq.trans (if_pos c5).symm h
                exact J73 x1 _ _ _ _ _ _ _ h hI (lv_sub hl [1, 2] rfl)
              · replace h := Eq.trans (if_neg c5).symm h
                refine lv_iload_n hx hb d_Lex_skip_60 rfl (lv_at hl 0 rfl) ?_
                refine lv_bipush (v := 9) hx hb d_Lex_skip_61 (by decide) ?_
                refine lv_icmp_eq (tgt := 73) hx hb d_Lex_skip_63 (by decide) (fun c6 => ?_) (fun c6 => ?_)
                · replace h := Eq.trans (if_pos c6).symm h
                  exact J73 x1 _ _ _ _ _ _ _ h hI (lv_sub hl [1, 2] rfl)
                · replace h := Eq.trans (if_neg c6).symm h
                  refine lv_iload_n hx hb d_Lex_skip_66 rfl (lv_at hl 0 rfl) ?_
                  refine lv_bipush (v := 13) hx hb d_Lex_skip_67 (by decide) ?_
                  refine lv_icmp_eq (tgt := 73) hx hb d_Lex_skip_69 (by decide) (fun c7 => ?_) (fun c7 => ?_)
                  · replace h := Eq.trans (if_pos c7).symm h
                    exact J73 x1 _ _ _ _ _ _ _ h hI (lv_sub hl [1, 2] rfl)
                  · replace h := Eq.trans (if_neg c7).symm h
                    exact kc_vret hx hb hr hlocks E hI h d_Lex_skip_72
          · replace h := Eq.trans (if_pos c3).symm h
            refine lv_iconst (v := 0) hx hb d_Lex_skip_45 (by decide) ?_
            refine lv_istore_n (lv' := [(1, .int 0), (2, .int (fR_at β 0 (β.1 8))), (0, .ref (kad g 4))]) hx hb d_Lex_skip_46 rfl hl (by decide) rfl (fun ls hl => ?_)
            refine lv_goto (tgt := 73) hx hb d_Lex_skip_47 (by decide) ?_
            exact J73 0 _ _ _ _ _ _ _ h hI (lv_sub hl [0, 2] rfl)
        · replace h := Eq.trans (if_pos c2).symm h
          refine lv_iconst (v := 1) hx hb d_Lex_skip_34 (by decide) ?_
          refine lv_istore_n (lv' := [(1, .int 1), (2, .int (fR_at β 0 (β.1 8))), (0, .ref (kad g 4))]) hx hb d_Lex_skip_35 rfl hl (by decide) rfl (fun ls hl => ?_)
          refine lv_goto (tgt := 73) hx hb d_Lex_skip_36 (by decide) ?_
          exact J73 1 _ _ _ _ _ _ _ h hI (lv_sub hl [0, 2] rfl)
  exact L2 N 0 _ _ _ _ _ _ _ h hI (lv_sub hl [0, 1] rfl)
def f_Lex_isLetter_j12  (y0 : Int32) (α : kS) : Int32 := if y0 < 65 then (0) else (if 90 < y0 then (0) else (1))
def f_Lex_isLetter (a1 : Int32) (α : kS) : Int32 := if a1 < 97 then (f_Lex_isLetter_j12 a1 α) else (if a1 ≤ 122 then (1) else (f_Lex_isLetter_j12 a1 α))
set_option maxHeartbeats 4000000 in
set_option maxRecDepth 100000 in
theorem k_Lex_isLetter {l : Launch} {g : kG} {α : kS} (a1 : Int32)  : kV l g y_Lex_isLetter b_Lex_isLetter 1 (some .boolean) 1 1 [.int a1] α (f_Lex_isLetter a1 α) := by
  generalize h : f_Lex_isLetter a1 α = x
  unfold f_Lex_isLetter at h
  refine kv_ofW (by decide) (fun A ad p e s m args below meth c S hr hlocks hargs E hJ => ?_)
  have hx := S.1
  have hb := S.2.1
  have hown := S.2.2.2.1
  have hT := S.2.2.2.2
  subst hargs
  have hl := lv_entry ([.int a1]) (n := 1) (Nat.le_of_ble_eq_true rfl)
  rw [lg_entry_eq]
  generalize (lg_sl ([.int a1]) ++ List.replicate (1 - (lg_sl ([.int a1])).length) Slot.unset).toArray = ls at hl ⊢
  have hl : lv_has ls 1 [(0, .int a1)] := hl
  have J12 : ∀ (y0 : Int32) (ls : Array Slot), f_Lex_isLetter_j12 y0 α = x → lv_has ls 1 [(0, .int y0)] → W p l e { frames := 1, cells := 0, slots := 0, locals := 1 } s m ([.int a1]).toArray below meth c s.heap [] 0 0 (MQ below (QcRead x) ([.int a1]).toArray s 0 0 (fun _ => False)) (F0 m 12 ls []) := by
    intro y0 ls h hl
    unfold f_Lex_isLetter_j12 at h
    refine lv_iload_n hx hb d_Lex_isLetter_12 rfl (lv_at hl 0 rfl) ?_
    refine lv_bipush (v := 65) hx hb d_Lex_isLetter_13 (by decide) ?_
    refine lv_icmp_lt (tgt := 28) hx hb d_Lex_isLetter_15 (by decide) (fun c2 => ?_) (fun c2 => ?_)
    · replace h := Eq.trans (if_pos c2).symm h
      refine lv_iconst (v := 0) hx hb d_Lex_isLetter_28 (by decide) ?_
      exact kv_iret (w := 0) hx hb hr (by decide) hlocks h d_Lex_isLetter_29
    · replace h := Eq.trans (if_neg c2).symm h
      refine lv_iload_n hx hb d_Lex_isLetter_18 rfl (lv_at hl 0 rfl) ?_
      refine lv_bipush (v := 90) hx hb d_Lex_isLetter_19 (by decide) ?_
      refine lv_icmp_gt (tgt := 28) hx hb d_Lex_isLetter_21 (by decide) (fun c3 => ?_) (fun c3 => ?_)
      · replace h := Eq.trans (if_pos c3).symm h
        refine lv_iconst (v := 0) hx hb d_Lex_isLetter_28 (by decide) ?_
        exact kv_iret (w := 0) hx hb hr (by decide) hlocks h d_Lex_isLetter_29
      · replace h := Eq.trans (if_neg c3).symm h
        refine lv_iconst (v := 1) hx hb d_Lex_isLetter_24 (by decide) ?_
        refine lv_goto (tgt := 29) hx hb d_Lex_isLetter_25 (by decide) ?_
        exact kv_iret (w := 1) hx hb hr (by decide) hlocks h d_Lex_isLetter_29
  refine lv_iload_n hx hb d_Lex_isLetter_0 rfl (lv_at hl 0 rfl) ?_
  refine lv_bipush (v := 97) hx hb d_Lex_isLetter_1 (by decide) ?_
  refine lv_icmp_lt (tgt := 12) hx hb d_Lex_isLetter_3 (by decide) (fun c1 => ?_) (fun c1 => ?_)
  · replace h := Eq.trans (if_pos c1).symm h
    exact J12 a1 _ h (lv_sub hl [0] rfl)
  · replace h := Eq.trans (if_neg c1).symm h
    refine lv_iload_n hx hb d_Lex_isLetter_6 rfl (lv_at hl 0 rfl) ?_
    refine lv_bipush (v := 122) hx hb d_Lex_isLetter_7 (by decide) ?_
    refine lv_icmp_le (tgt := 24) hx hb d_Lex_isLetter_9 (by decide) (fun c4 => ?_) (fun c4 => ?_)
    · replace h := Eq.trans (if_pos c4).symm h
      refine lv_iconst (v := 1) hx hb d_Lex_isLetter_24 (by decide) ?_
      refine lv_goto (tgt := 29) hx hb d_Lex_isLetter_25 (by decide) ?_
      exact kv_iret (w := 1) hx hb hr (by decide) hlocks h d_Lex_isLetter_29
    · replace h := Eq.trans (if_neg c4).symm h
      exact J12 a1 _ h (lv_sub hl [0] rfl)
def f_Lex_isDigit (a1 : Int32) (α : kS) : Int32 := if a1 < 48 then (0) else (if 57 < a1 then (0) else (1))
set_option maxHeartbeats 4000000 in
set_option maxRecDepth 100000 in
theorem k_Lex_isDigit {l : Launch} {g : kG} {α : kS} (a1 : Int32)  : kV l g y_Lex_isDigit b_Lex_isDigit 1 (some .boolean) 1 1 [.int a1] α (f_Lex_isDigit a1 α) := by
  generalize h : f_Lex_isDigit a1 α = x
  unfold f_Lex_isDigit at h
  refine kv_ofW (by decide) (fun A ad p e s m args below meth c S hr hlocks hargs E hJ => ?_)
  have hx := S.1
  have hb := S.2.1
  have hown := S.2.2.2.1
  have hT := S.2.2.2.2
  subst hargs
  have hl := lv_entry ([.int a1]) (n := 1) (Nat.le_of_ble_eq_true rfl)
  rw [lg_entry_eq]
  generalize (lg_sl ([.int a1]) ++ List.replicate (1 - (lg_sl ([.int a1])).length) Slot.unset).toArray = ls at hl ⊢
  have hl : lv_has ls 1 [(0, .int a1)] := hl
  refine lv_iload_n hx hb d_Lex_isDigit_0 rfl (lv_at hl 0 rfl) ?_
  refine lv_bipush (v := 48) hx hb d_Lex_isDigit_1 (by decide) ?_
  refine lv_icmp_lt (tgt := 16) hx hb d_Lex_isDigit_3 (by decide) (fun c1 => ?_) (fun c1 => ?_)
  · replace h := Eq.trans (if_pos c1).symm h
    refine lv_iconst (v := 0) hx hb d_Lex_isDigit_16 (by decide) ?_
    exact kv_iret (w := 0) hx hb hr (by decide) hlocks h d_Lex_isDigit_17
  · replace h := Eq.trans (if_neg c1).symm h
    refine lv_iload_n hx hb d_Lex_isDigit_6 rfl (lv_at hl 0 rfl) ?_
    refine lv_bipush (v := 57) hx hb d_Lex_isDigit_7 (by decide) ?_
    refine lv_icmp_gt (tgt := 16) hx hb d_Lex_isDigit_9 (by decide) (fun c2 => ?_) (fun c2 => ?_)
    · replace h := Eq.trans (if_pos c2).symm h
      refine lv_iconst (v := 0) hx hb d_Lex_isDigit_16 (by decide) ?_
      exact kv_iret (w := 0) hx hb hr (by decide) hlocks h d_Lex_isDigit_17
    · replace h := Eq.trans (if_neg c2).symm h
      refine lv_iconst (v := 1) hx hb d_Lex_isDigit_12 (by decide) ?_
      refine lv_goto (tgt := 17) hx hb d_Lex_isDigit_13 (by decide) ?_
      exact kv_iret (w := 1) hx hb hr (by decide) hlocks h d_Lex_isDigit_17
theorem kw_Lex_77 : kWs "FamilyKernel$Lexer" 77 y_Lex_isLetter b_Lex_isLetter 1 (some .boolean) 1 := ⟨vt_273, vt_274, vt_33, vt_275, by decide, by decide, by decide +kernel⟩
theorem kw_Lex_84 : kWs "FamilyKernel$Lexer" 84 y_Lex_isDigit b_Lex_isDigit 1 (some .boolean) 1 := ⟨vt_280, vt_281, vt_33, vt_282, by decide, by decide, by decide +kernel⟩
def f_Lex_isInWord (a1 : Int32) (α : kS) : Int32 := if (f_Lex_isLetter a1 α) = 0 then (if (f_Lex_isDigit a1 α) = 0 then (if a1 = 95 then (1) else (if a1 = 39 then (1) else (0))) else (1)) else (1)
set_option maxHeartbeats 4000000 in
set_option maxRecDepth 100000 in
theorem k_Lex_isInWord {l : Launch} {g : kG} {α : kS} (a1 : Int32)  : kV l g y_Lex_isInWord b_Lex_isInWord 1 (some .boolean) 2 21 [.int a1] α (f_Lex_isInWord a1 α) := by
  generalize h : f_Lex_isInWord a1 α = x
  unfold f_Lex_isInWord at h
  refine kv_ofW (by decide) (fun A ad p e s m args below meth c S hr hlocks hargs E hJ => ?_)
  have hx := S.1
  have hb := S.2.1
  have hown := S.2.2.2.1
  have hT := S.2.2.2.2
  subst hargs
  have hl := lv_entry ([.int a1]) (n := 1) (Nat.le_of_ble_eq_true rfl)
  rw [lg_entry_eq]
  generalize (lg_sl ([.int a1]) ++ List.replicate (1 - (lg_sl ([.int a1])).length) Slot.unset).toArray = ls at hl ⊢
  have hl : lv_has ls 1 [(0, .int a1)] := hl
  refine lv_iload_n hx hb d_Lex_isInWord_0 rfl (lv_at hl 0 rfl) ?_
  refine kg_pS (As := [.int a1]) (rest := []) (k_Lex_isLetter (l := l) (g := g) (α := α) a1) S E hJ kw_Lex_77 ⟨Nat.le_of_ble_eq_true rfl, Nat.le_of_ble_eq_true rfl⟩ ⟨Nat.le_refl _, Nat.le_refl _⟩ rfl hl.1 rfl (Nat.le_of_ble_eq_true rfl) d_Lex_isInWord_1 ?_
  refine lv_if_ne (tgt := 26) hx hb d_Lex_isInWord_4 (by decide) (fun c1 => ?_) (fun c1 => ?_)
  · replace h := Eq.trans (if_neg c1).symm h
    refine lv_iconst (v := 1) hx hb d_Lex_isInWord_26 (by decide) ?_
    refine lv_goto (tgt := 31) hx hb d_Lex_isInWord_27 (by decide) ?_
    exact kv_iret (w := 1) hx hb hr (by decide) hlocks h d_Lex_isInWord_31
  · replace h := Eq.trans (if_pos c1).symm h
    refine lv_iload_n hx hb d_Lex_isInWord_7 rfl (lv_at hl 0 rfl) ?_
    refine kg_pS (As := [.int a1]) (rest := []) (k_Lex_isDigit (l := l) (g := g) (α := α) a1) S E hJ kw_Lex_84 ⟨Nat.le_of_ble_eq_true rfl, Nat.le_of_ble_eq_true rfl⟩ ⟨Nat.le_refl _, Nat.le_refl _⟩ rfl hl.1 rfl (Nat.le_of_ble_eq_true rfl) d_Lex_isInWord_8 ?_
    refine lv_if_ne (tgt := 26) hx hb d_Lex_isInWord_11 (by decide) (fun c2 => ?_) (fun c2 => ?_)
    · replace h := Eq.trans (if_neg c2).symm h
      refine lv_iconst (v := 1) hx hb d_Lex_isInWord_26 (by decide) ?_
      refine lv_goto (tgt := 31) hx hb d_Lex_isInWord_27 (by decide) ?_
      exact kv_iret (w := 1) hx hb hr (by decide) hlocks h d_Lex_isInWord_31
    · replace h := Eq.trans (if_pos c2).symm h
      refine lv_iload_n hx hb d_Lex_isInWord_14 rfl (lv_at hl 0 rfl) ?_
      refine lv_bipush (v := 95) hx hb d_Lex_isInWord_15 (by decide) ?_
      refine lv_icmp_eq (tgt := 26) hx hb d_Lex_isInWord_17 (by decide) (fun c3 => ?_) (fun c3 => ?_)
      · replace h := Eq.trans (if_pos c3).symm h
        refine lv_iconst (v := 1) hx hb d_Lex_isInWord_26 (by decide) ?_
        refine lv_goto (tgt := 31) hx hb d_Lex_isInWord_27 (by decide) ?_
        exact kv_iret (w := 1) hx hb hr (by decide) hlocks h d_Lex_isInWord_31
      · replace h := Eq.trans (if_neg c3).symm h
        refine lv_iload_n hx hb d_Lex_isInWord_20 rfl (lv_at hl 0 rfl) ?_
        refine lv_bipush (v := 39) hx hb d_Lex_isInWord_21 (by decide) ?_
        refine lv_icmp_ne (tgt := 30) hx hb d_Lex_isInWord_23 (by decide) (fun c4 => ?_) (fun c4 => ?_)
        · replace h := Eq.trans (if_neg c4).symm h
          refine lv_iconst (v := 0) hx hb d_Lex_isInWord_30 (by decide) ?_
          exact kv_iret (w := 0) hx hb hr (by decide) hlocks h d_Lex_isInWord_31
        · replace h := Eq.trans (if_pos c4).symm h
          refine lv_iconst (v := 1) hx hb d_Lex_isInWord_26 (by decide) ?_
          refine lv_goto (tgt := 31) hx hb d_Lex_isInWord_27 (by decide) ?_
          exact kv_iret (w := 1) hx hb hr (by decide) hlocks h d_Lex_isInWord_31
theorem kw_Lex_129 : kWv "FamilyKernel$Lexer" 129 "java/lang/String" y_Str_length b_Str_length 1 (some .int) 0 := ⟨vt_302, vt_304, vt_305, vt_303, vt_306, by decide, by decide, by decide +kernel⟩
theorem kw_Lex_133 : kWv "FamilyKernel$Lexer" 133 "java/lang/String" y_Str_charAt b_Str_charAt 2 (some .char) 1 := ⟨vt_307, vt_308, vt_309, vt_303, vt_310, by decide, by decide, by decide +kernel⟩
def f_Lex_reads_19 (N : Nat) (r1 : Nat) (α : kS) : Nat → Int32 → Int32 → Option Int32
  | 0, _, _ => none
  | n + 1, x3, x2 => if x2 = 0 then (some (x2 &&& 1)) else (if (α.1 12) ≤ x3 then (some (x2 &&& 1)) else (((sCh r1 x3)).bind fun v4 => (if (fR_at α 0 ((α.1 11) + x3)) = v4 then (f_Lex_reads_19 N r1 α n (x3 + 1) 1) else (f_Lex_reads_19 N r1 α n (x3 + 1) 0))))
def f_Lex_reads (N : Nat) (r1 : Nat) (α : kS) : Option Int32 := if (sLn r1) = (α.1 12) then (f_Lex_reads_19 N r1 α N 0 1) else (f_Lex_reads_19 N r1 α N 0 0)
set_option maxHeartbeats 4000000 in
set_option maxRecDepth 100000 in
theorem k_Lex_reads {l : Launch} {g : kG} {α : kS} (N : Nat) (r1 : Nat) (hr1 : r1 < 51) : ∀ x, f_Lex_reads N r1 α = some x → kV l g y_Lex_reads b_Lex_reads 4 (some .boolean) 11 321 [.ref (kad g 4), .ref (kst g r1)] α x := by
  intro x h
  unfold f_Lex_reads at h
  refine kv_ofW (by decide) (fun A ad p e s m args below meth c S hr hlocks hargs E hJ => ?_)
  have hx := S.1
  have hb := S.2.1
  have hown := S.2.2.2.1
  have hT := S.2.2.2.2
  subst hargs
  have hl := lv_entry ([.ref (kad g 4), .ref (kst g r1)]) (n := 4) (Nat.le_of_ble_eq_true rfl)
  rw [lg_entry_eq]
  generalize (lg_sl ([.ref (kad g 4), .ref (kst g r1)]) ++ List.replicate (4 - (lg_sl ([.ref (kad g 4), .ref (kst g r1)])).length) Slot.unset).toArray = ls at hl ⊢
  have hl : lv_has ls 4 [(0, .ref (kad g 4)), (1, .ref (kst g r1))] := hl
  refine lv_aload_n hx hb d_Lex_reads_0 rfl (lv_at hl 1 rfl) ?_
  refine kg_p (As := []) (rest := []) (k_Str_length (l := l) (g := g) (α := α) hr1) S E hJ kw_Lex_129 ⟨Nat.le_of_ble_eq_true rfl, Nat.le_of_ble_eq_true rfl⟩ ⟨Nat.le_refl _, Nat.le_refl _⟩ (kv_Str hr1 E hJ) rfl hl.1 rfl (Nat.le_of_ble_eq_true rfl) d_Lex_reads_1 rfl ?_
  refine lv_aload_n hx hb d_Lex_reads_4 rfl (lv_at hl 0 rfl) ?_
  refine kf_Lex_length S E hJ vt_247 d_Lex_reads_5 ?_
  refine lv_icmp_ne (tgt := 15) hx hb d_Lex_reads_8 (by decide) (fun c1 => ?_) (fun c1 => ?_)
  · replace h := Eq.trans (if_neg c1).symm h
    refine lv_iconst (v := 0) hx hb d_Lex_reads_15 (by decide) ?_
    refine lv_istore_n (lv' := [(2, .int 0), (0, .ref (kad g 4)), (1, .ref (kst g r1))]) hx hb d_Lex_reads_16 rfl hl (by decide) rfl (fun ls hl => ?_)
    refine lv_iconst (v := 0) hx hb d_Lex_reads_17 (by decide) ?_
    refine lv_istore_n (lv' := [(3, .int 0), (2, .int 0), (0, .ref (kad g 4)), (1, .ref (kst g r1))]) hx hb d_Lex_reads_18 rfl hl (by decide) rfl (fun ls hl => ?_)
    have L19 : ∀ (n19 : Nat) (x3 : Int32) (x2 : Int32) (ls : Array Slot), f_Lex_reads_19 N r1 α n19 x3 x2 = some x → lv_has ls 4 [(3, .int x3), (2, .int x2), (0, .ref (kad g 4)), (1, .ref (kst g r1))] → W p l e { frames := 11, cells := 0, slots := 0, locals := 321 } s m ([.ref (kad g 4), .ref (kst g r1)]).toArray below meth c s.heap [] 0 0 (MQ below (QcRead x) ([.ref (kad g 4), .ref (kst g r1)]).toArray s 0 0 (fun _ => False)) (F0 m 19 ls []) := by
      intro n19
      induction n19 with
      | zero => intro x3 x2 ls h hl; rw [f_Lex_reads_19] at h; cases h
      | succ n19 ih19 =>
        intro x3 x2 ls h hl
        rw [f_Lex_reads_19] at h
        refine lv_iload_n hx hb d_Lex_reads_19 rfl (lv_at hl 1 rfl) ?_
        refine lv_if_eq (tgt := 64) hx hb d_Lex_reads_20 (by decide) (fun c2 => ?_) (fun c2 => ?_)
        · replace h := Eq.trans (if_pos c2).symm h
          refine lv_iload_n hx hb d_Lex_reads_64 rfl (lv_at hl 1 rfl) ?_
          exact kv_iret (w := (x2 &&& 1)) hx hb hr rfl hlocks (Option.some.inj h) d_Lex_reads_65
        · replace h := Eq.trans (if_neg c2).symm h
          refine lv_iload_n hx hb d_Lex_reads_23 rfl (lv_at hl 0 rfl) ?_
          refine lv_aload_n hx hb d_Lex_reads_24 rfl (lv_at hl 2 rfl) ?_
          refine kf_Lex_length S E hJ vt_247 d_Lex_reads_25 ?_
          refine lv_icmp_ge (tgt := 64) hx hb d_Lex_reads_28 (by decide) (fun c3 => ?_) (fun c3 => ?_)
          · replace h := Eq.trans (if_pos c3).symm h
            refine lv_iload_n hx hb d_Lex_reads_64 rfl (lv_at hl 1 rfl) ?_
            exact kv_iret (w := (x2 &&& 1)) hx hb hr rfl hlocks (Option.some.inj h) d_Lex_reads_65
          · replace h := Eq.trans (if_neg c3).symm h
            refine lv_aload_n hx hb d_Lex_reads_31 rfl (lv_at hl 2 rfl) ?_
            refine kf_Lex_text S E hJ vt_108 d_Lex_reads_32 ?_
            refine lv_aload_n hx hb d_Lex_reads_35 rfl (lv_at hl 2 rfl) ?_
            refine kf_Lex_start S E hJ vt_246 d_Lex_reads_36 ?_
            refine lv_iload_n hx hb d_Lex_reads_39 rfl (lv_at hl 0 rfl) ?_
            refine lv_iadd hx hb d_Lex_reads_40 ?_
            refine kg_p (As := [.int ((α.1 11) + x3)]) (rest := []) (k_Row_at (l := l) (g := g) (α := α) (r := 0) (by decide) ((α.1 11) + x3)) S E hJ kw_Lex_58 ⟨Nat.le_of_ble_eq_true rfl, Nat.le_of_ble_eq_true rfl⟩ ⟨Nat.le_refl _, Nat.le_refl _⟩ (kv_Row (r := 0) (by decide) E hJ) rfl hl.1 rfl (Nat.le_of_ble_eq_true rfl) d_Lex_reads_41 rfl ?_
            refine lv_aload_n hx hb d_Lex_reads_44 rfl (lv_at hl 3 rfl) ?_
            refine lv_iload_n hx hb d_Lex_reads_45 rfl (lv_at hl 0 rfl) ?_
            obtain ⟨v4, e5, h⟩ := Option.bind_eq_some_iff.mp h
            refine kg_p (As := [.int x3]) (rest := [.int (fR_at α 0 ((α.1 11) + x3))]) ((k_Str_charAt (l := l) (g := g) (α := α) hr1 x3) _ e5) S E hJ kw_Lex_133 ⟨Nat.le_of_ble_eq_true rfl, Nat.le_of_ble_eq_true rfl⟩ ⟨Nat.le_refl _, Nat.le_refl _⟩ (kv_Str hr1 E hJ) rfl hl.1 rfl (Nat.le_of_ble_eq_true rfl) d_Lex_reads_46 rfl ?_
            refine lv_icmp_ne (tgt := 56) hx hb d_Lex_reads_49 (by decide) (fun c6 => ?_) (fun c6 => ?_)
            · replace h := Eq.trans (if_neg c6).symm h
              refine lv_iconst (v := 0) hx hb d_Lex_reads_56 (by decide) ?_
              refine lv_istore_n (lv' := [(2, .int 0), (3, .int x3), (0, .ref (kad g 4)), (1, .ref (kst g r1))]) hx hb d_Lex_reads_57 rfl hl (by decide) rfl (fun ls hl => ?_)
              refine lv_iinc (v := (x3 + 1)) (lv' := [(3, .int (x3 + 1)), (2, .int 0), (0, .ref (kad g 4)), (1, .ref (kst g r1))]) hx hb d_Lex_reads_58 hl (k := 1) rfl rfl (by decide) rfl (fun ls hl => ?_)
              refine lv_goto (tgt := 19) hx hb d_Lex_reads_61 (by decide) ?_
              exact ih19 (x3 + 1) 0 _ h (lv_sub hl [0, 1, 2, 3] rfl)
            · replace h := Eq.trans (if_pos c6).symm h
              refine lv_iconst (v := 1) hx hb d_Lex_reads_52 (by decide) ?_
              refine lv_goto (tgt := 57) hx hb d_Lex_reads_53 (by decide) ?_
              refine lv_istore_n (lv' := [(2, .int 1), (3, .int x3), (0, .ref (kad g 4)), (1, .ref (kst g r1))]) hx hb d_Lex_reads_57 rfl hl (by decide) rfl (fun ls hl => ?_)
              refine lv_iinc (v := (x3 + 1)) (lv' := [(3, .int (x3 + 1)), (2, .int 1), (0, .ref (kad g 4)), (1, .ref (kst g r1))]) hx hb d_Lex_reads_58 hl (k := 1) rfl rfl (by decide) rfl (fun ls hl => ?_)
              refine lv_goto (tgt := 19) hx hb d_Lex_reads_61 (by decide) ?_
              exact ih19 (x3 + 1) 1 _ h (lv_sub hl [0, 1, 2, 3] rfl)
    exact L19 N 0 0 _ h (lv_sub hl [0, 1, 2, 3] rfl)
  · replace h := Eq.trans (if_pos c1).symm h
    refine lv_iconst (v := 1) hx hb d_Lex_reads_11 (by decide) ?_
    refine lv_goto (tgt := 16) hx hb d_Lex_reads_12 (by decide) ?_
    refine lv_istore_n (lv' := [(2, .int 1), (0, .ref (kad g 4)), (1, .ref (kst g r1))]) hx hb d_Lex_reads_16 rfl hl (by decide) rfl (fun ls hl => ?_)
    refine lv_iconst (v := 0) hx hb d_Lex_reads_17 (by decide) ?_
    refine lv_istore_n (lv' := [(3, .int 0), (2, .int 1), (0, .ref (kad g 4)), (1, .ref (kst g r1))]) hx hb d_Lex_reads_18 rfl hl (by decide) rfl (fun ls hl => ?_)
    have L19 : ∀ (n19 : Nat) (x3 : Int32) (x2 : Int32) (ls : Array Slot), f_Lex_reads_19 N r1 α n19 x3 x2 = some x → lv_has ls 4 [(3, .int x3), (2, .int x2), (0, .ref (kad g 4)), (1, .ref (kst g r1))] → W p l e { frames := 11, cells := 0, slots := 0, locals := 321 } s m ([.ref (kad g 4), .ref (kst g r1)]).toArray below meth c s.heap [] 0 0 (MQ below (QcRead x) ([.ref (kad g 4), .ref (kst g r1)]).toArray s 0 0 (fun _ => False)) (F0 m 19 ls []) := by
      intro n19
      induction n19 with
      | zero => intro x3 x2 ls h hl; rw [f_Lex_reads_19] at h; cases h
      | succ n19 ih19 =>
        intro x3 x2 ls h hl
        rw [f_Lex_reads_19] at h
        refine lv_iload_n hx hb d_Lex_reads_19 rfl (lv_at hl 1 rfl) ?_
        refine lv_if_eq (tgt := 64) hx hb d_Lex_reads_20 (by decide) (fun c7 => ?_) (fun c7 => ?_)
        · replace h := Eq.trans (if_pos c7).symm h
          refine lv_iload_n hx hb d_Lex_reads_64 rfl (lv_at hl 1 rfl) ?_
          exact kv_iret (w := (x2 &&& 1)) hx hb hr rfl hlocks (Option.some.inj h) d_Lex_reads_65
        · replace h := Eq.trans (if_neg c7).symm h
          refine lv_iload_n hx hb d_Lex_reads_23 rfl (lv_at hl 0 rfl) ?_
          refine lv_aload_n hx hb d_Lex_reads_24 rfl (lv_at hl 2 rfl) ?_
          refine kf_Lex_length S E hJ vt_247 d_Lex_reads_25 ?_
          refine lv_icmp_ge (tgt := 64) hx hb d_Lex_reads_28 (by decide) (fun c8 => ?_) (fun c8 => ?_)
          · replace h := Eq.trans (if_pos c8).symm h
            refine lv_iload_n hx hb d_Lex_reads_64 rfl (lv_at hl 1 rfl) ?_
            exact kv_iret (w := (x2 &&& 1)) hx hb hr rfl hlocks (Option.some.inj h) d_Lex_reads_65
          · replace h := Eq.trans (if_neg c8).symm h
            refine lv_aload_n hx hb d_Lex_reads_31 rfl (lv_at hl 2 rfl) ?_
            refine kf_Lex_text S E hJ vt_108 d_Lex_reads_32 ?_
            refine lv_aload_n hx hb d_Lex_reads_35 rfl (lv_at hl 2 rfl) ?_
            refine kf_Lex_start S E hJ vt_246 d_Lex_reads_36 ?_
            refine lv_iload_n hx hb d_Lex_reads_39 rfl (lv_at hl 0 rfl) ?_
            refine lv_iadd hx hb d_Lex_reads_40 ?_
            refine kg_p (As := [.int ((α.1 11) + x3)]) (rest := []) (k_Row_at (l := l) (g := g) (α := α) (r := 0) (by decide) ((α.1 11) + x3)) S E hJ kw_Lex_58 ⟨Nat.le_of_ble_eq_true rfl, Nat.le_of_ble_eq_true rfl⟩ ⟨Nat.le_refl _, Nat.le_refl _⟩ (kv_Row (r := 0) (by decide) E hJ) rfl hl.1 rfl (Nat.le_of_ble_eq_true rfl) d_Lex_reads_41 rfl ?_
            refine lv_aload_n hx hb d_Lex_reads_44 rfl (lv_at hl 3 rfl) ?_
            refine lv_iload_n hx hb d_Lex_reads_45 rfl (lv_at hl 0 rfl) ?_
            obtain ⟨v9, e10, h⟩ := Option.bind_eq_some_iff.mp h
            refine kg_p (As := [.int x3]) (rest := [.int (fR_at α 0 ((α.1 11) + x3))]) ((k_Str_charAt (l := l) (g := g) (α := α) hr1 x3) _ e10) S E hJ kw_Lex_133 ⟨Nat.le_of_ble_eq_true rfl, Nat.le_of_ble_eq_true rfl⟩ ⟨Nat.le_refl _, Nat.le_refl _⟩ (kv_Str hr1 E hJ) rfl hl.1 rfl (Nat.le_of_ble_eq_true rfl) d_Lex_reads_46 rfl ?_
            refine lv_icmp_ne (tgt := 56) hx hb d_Lex_reads_49 (by decide) (fun c11 => ?_) (fun c11 => ?_)
            · replace h := Eq.trans (if_neg c11).symm h
              refine lv_iconst (v := 0) hx hb d_Lex_reads_56 (by decide) ?_
              refine lv_istore_n (lv' := [(2, .int 0), (3, .int x3), (0, .ref (kad g 4)), (1, .ref (kst g r1))]) hx hb d_Lex_reads_57 rfl hl (by decide) rfl (fun ls hl => ?_)
              refine lv_iinc (v := (x3 + 1)) (lv' := [(3, .int (x3 + 1)), (2, .int 0), (0, .ref (kad g 4)), (1, .ref (kst g r1))]) hx hb d_Lex_reads_58 hl (k := 1) rfl rfl (by decide) rfl (fun ls hl => ?_)
              refine lv_goto (tgt := 19) hx hb d_Lex_reads_61 (by decide) ?_
              exact ih19 (x3 + 1) 0 _ h (lv_sub hl [0, 1, 2, 3] rfl)
            · replace h := Eq.trans (if_pos c11).symm h
              refine lv_iconst (v := 1) hx hb d_Lex_reads_52 (by decide) ?_
              refine lv_goto (tgt := 57) hx hb d_Lex_reads_53 (by decide) ?_
              refine lv_istore_n (lv' := [(2, .int 1), (3, .int x3), (0, .ref (kad g 4)), (1, .ref (kst g r1))]) hx hb d_Lex_reads_57 rfl hl (by decide) rfl (fun ls hl => ?_)
              refine lv_iinc (v := (x3 + 1)) (lv' := [(3, .int (x3 + 1)), (2, .int 1), (0, .ref (kad g 4)), (1, .ref (kst g r1))]) hx hb d_Lex_reads_58 hl (k := 1) rfl rfl (by decide) rfl (fun ls hl => ?_)
              refine lv_goto (tgt := 19) hx hb d_Lex_reads_61 (by decide) ?_
              exact ih19 (x3 + 1) 1 _ h (lv_sub hl [0, 1, 2, 3] rfl)
    exact L19 N 0 1 _ h (lv_sub hl [0, 1, 2, 3] rfl)
theorem kw_Lex_101 : kWv "FamilyKernel$Lexer" 101 "FamilyKernel$Lexer" y_Lex_reads b_Lex_reads 4 (some .boolean) 1 := ⟨vt_298, vt_299, vt_300, vt_33, vt_301, by decide, by decide, by decide +kernel⟩
def f_Lex_wordKind (N : Nat)  (α : kS) : Option Int32 := if (fR_at α 0 (α.1 11)) = 80 then (((f_Lex_reads N 7 α)).bind fun v2 => (if v2 = 0 then (some 2) else (some 14))) else (if (fR_at α 0 (α.1 11)) = 81 then (some 2) else (if (fR_at α 0 (α.1 11)) = 82 then (some 2) else (if (fR_at α 0 (α.1 11)) = 83 then (some 2) else (if (fR_at α 0 (α.1 11)) = 84 then (((f_Lex_reads N 8 α)).bind fun v9 => (if v9 = 0 then (some 2) else (some 15))) else (if (fR_at α 0 (α.1 11)) = 85 then (some 2) else (if (fR_at α 0 (α.1 11)) = 86 then (some 2) else (if (fR_at α 0 (α.1 11)) = 87 then (some 2) else (if (fR_at α 0 (α.1 11)) = 88 then (some 2) else (if (fR_at α 0 (α.1 11)) = 89 then (some 2) else (if (fR_at α 0 (α.1 11)) = 90 then (some 2) else (if (fR_at α 0 (α.1 11)) = 91 then (some 2) else (if (fR_at α 0 (α.1 11)) = 92 then (some 2) else (if (fR_at α 0 (α.1 11)) = 93 then (some 2) else (if (fR_at α 0 (α.1 11)) = 94 then (some 2) else (if (fR_at α 0 (α.1 11)) = 95 then (some 2) else (if (fR_at α 0 (α.1 11)) = 96 then (some 2) else (if (fR_at α 0 (α.1 11)) = 97 then (((f_Lex_reads N 0 α)).bind fun v25 => (if v25 = 0 then (some 2) else (some 4))) else (if (fR_at α 0 (α.1 11)) = 98 then (some 2) else (if (fR_at α 0 (α.1 11)) = 99 then (((f_Lex_reads N 3 α)).bind fun v30 => (if v30 = 0 then (some 2) else (some 8))) else (if (fR_at α 0 (α.1 11)) = 100 then (((f_Lex_reads N 1 α)).bind fun v34 => (if v34 = 0 then (some 2) else (some 5))) else (if (fR_at α 0 (α.1 11)) = 101 then (((f_Lex_reads N 4 α)).bind fun v38 => (if v38 = 0 then (some 2) else (some 9))) else (if (fR_at α 0 (α.1 11)) = 102 then (((f_Lex_reads N 11 α)).bind fun v42 => (if v42 = 0 then (((f_Lex_reads N 12 α)).bind fun v45 => (if v45 = 0 then (some 2) else (some 11))) else (some 10))) else (if (fR_at α 0 (α.1 11)) = 103 then (some 2) else (if (fR_at α 0 (α.1 11)) = 104 then (some 2) else (if (fR_at α 0 (α.1 11)) = 105 then (((f_Lex_reads N 9 α)).bind fun v51 => (if v51 = 0 then (((f_Lex_reads N 10 α)).bind fun v54 => (if v54 = 0 then (some 2) else (some 7))) else (some 13))) else (if (fR_at α 0 (α.1 11)) = 106 then (some 2) else (if (fR_at α 0 (α.1 11)) = 107 then (some 2) else (if (fR_at α 0 (α.1 11)) = 108 then (((f_Lex_reads N 5 α)).bind fun v60 => (if v60 = 0 then (some 2) else (some 12))) else (if (fR_at α 0 (α.1 11)) = 109 then (some 2) else (if (fR_at α 0 (α.1 11)) = 110 then (some 2) else (if (fR_at α 0 (α.1 11)) = 111 then (some 2) else (if (fR_at α 0 (α.1 11)) = 112 then (some 2) else (if (fR_at α 0 (α.1 11)) = 113 then (some 2) else (if (fR_at α 0 (α.1 11)) = 114 then (((f_Lex_reads N 6 α)).bind fun v69 => (if v69 = 0 then (some 2) else (some 16))) else (if (fR_at α 0 (α.1 11)) = 115 then (some 2) else (if (fR_at α 0 (α.1 11)) = 116 then (((f_Lex_reads N 2 α)).bind fun v74 => (if v74 = 0 then (some 2) else (some 6))) else (some 2)))))))))))))))))))))))))))))))))))))
set_option maxHeartbeats 4000000 in
set_option maxRecDepth 100000 in
theorem k_Lex_wordKind {l : Launch} {g : kG} {α : kS} (N : Nat)   : ∀ x, f_Lex_wordKind N α = some x → kV l g y_Lex_wordKind b_Lex_wordKind 1 (some .int) 12 344 [.ref (kad g 4)] α x := by
  intro x h
  unfold f_Lex_wordKind at h
  refine kv_ofW (by decide) (fun A ad p e s m args below meth c S hr hlocks hargs E hJ => ?_)
  have hx := S.1
  have hb := S.2.1
  have hown := S.2.2.2.1
  have hT := S.2.2.2.2
  subst hargs
  have hl := lv_entry ([.ref (kad g 4)]) (n := 1) (Nat.le_of_ble_eq_true rfl)
  rw [lg_entry_eq]
  generalize (lg_sl ([.ref (kad g 4)]) ++ List.replicate (1 - (lg_sl ([.ref (kad g 4)])).length) Slot.unset).toArray = ls at hl ⊢
  have hl : lv_has ls 1 [(0, .ref (kad g 4))] := hl
  refine lv_aload_n hx hb d_Lex_wordKind_0 rfl (lv_at hl 0 rfl) ?_
  refine kf_Lex_text S E hJ vt_108 d_Lex_wordKind_1 ?_
  refine lv_aload_n hx hb d_Lex_wordKind_4 rfl (lv_at hl 0 rfl) ?_
  refine kf_Lex_start S E hJ vt_246 d_Lex_wordKind_5 ?_
  refine kg_p (As := [.int (α.1 11)]) (rest := []) (k_Row_at (l := l) (g := g) (α := α) (r := 0) (by decide) (α.1 11)) S E hJ kw_Lex_58 ⟨Nat.le_of_ble_eq_true rfl, Nat.le_of_ble_eq_true rfl⟩ ⟨Nat.le_refl _, Nat.le_refl _⟩ (kv_Row (r := 0) (by decide) E hJ) rfl hl.1 rfl (Nat.le_of_ble_eq_true rfl) d_Lex_wordKind_8 rfl ?_
  by_cases c1 : (fR_at α 0 (α.1 11)) = 80
  · replace h := Eq.trans (if_pos c1).symm h
    refine lv_tableIn (off := 271) (tgt := 282) hx hb d_Lex_wordKind_11 (by rw [c1]; decide) (by rw [c1]; decide) (by rw [c1]; rfl) (by decide) ?_
    refine lv_aload_n hx hb d_Lex_wordKind_282 rfl (lv_at hl 0 rfl) ?_
    refine va_ldcS hx hb hown (E.2.2.2.2.2.1 7 (by decide)) d_Lex_wordKind_283 ?_
    obtain ⟨v2, e3, h⟩ := Option.bind_eq_some_iff.mp h
    refine kg_p (As := [.ref (kst g 7)]) (rest := []) ((k_Lex_reads (l := l) (g := g) (α := α) N 7 (by decide)) _ e3) S E hJ kw_Lex_101 ⟨Nat.le_of_ble_eq_true rfl, Nat.le_of_ble_eq_true rfl⟩ ⟨Nat.le_refl _, Nat.le_refl _⟩ (kv_Lex E hJ) rfl hl.1 rfl (Nat.le_of_ble_eq_true rfl) d_Lex_wordKind_285 rfl ?_
    refine lv_if_eq (tgt := 296) hx hb d_Lex_wordKind_288 (by decide) (fun c4 => ?_) (fun c4 => ?_)
    · replace h := Eq.trans (if_pos c4).symm h
      refine lv_iconst (v := 2) hx hb d_Lex_wordKind_296 (by decide) ?_
      exact kv_iret (w := 2) hx hb hr rfl hlocks (Option.some.inj h) d_Lex_wordKind_297
    · replace h := Eq.trans (if_neg c4).symm h
      refine lv_bipush (v := 14) hx hb d_Lex_wordKind_291 (by decide) ?_
      refine lv_goto (tgt := 297) hx hb d_Lex_wordKind_293 (by decide) ?_
      exact kv_iret (w := 14) hx hb hr rfl hlocks (Option.some.inj h) d_Lex_wordKind_297
  · replace h := Eq.trans (if_neg c1).symm h
    have nc1 := ksw (z := 80) rfl c1
    by_cases c5 : (fR_at α 0 (α.1 11)) = 81
    · replace h := Eq.trans (if_pos c5).symm h
      refine lv_tableIn (off := 359) (tgt := 370) hx hb d_Lex_wordKind_11 (by rw [c5]; decide) (by rw [c5]; decide) (by rw [c5]; rfl) (by decide) ?_
      refine lv_iconst (v := 2) hx hb d_Lex_wordKind_370 (by decide) ?_
      exact kv_iret (w := 2) hx hb hr rfl hlocks (Option.some.inj h) d_Lex_wordKind_371
    · replace h := Eq.trans (if_neg c5).symm h
      have nc5 := ksw (z := 81) rfl c5
      by_cases c6 : (fR_at α 0 (α.1 11)) = 82
      · replace h := Eq.trans (if_pos c6).symm h
        refine lv_tableIn (off := 359) (tgt := 370) hx hb d_Lex_wordKind_11 (by rw [c6]; decide) (by rw [c6]; decide) (by rw [c6]; rfl) (by decide) ?_
        refine lv_iconst (v := 2) hx hb d_Lex_wordKind_370 (by decide) ?_
        exact kv_iret (w := 2) hx hb hr rfl hlocks (Option.some.inj h) d_Lex_wordKind_371
      · replace h := Eq.trans (if_neg c6).symm h
        have nc6 := ksw (z := 82) rfl c6
        by_cases c7 : (fR_at α 0 (α.1 11)) = 83
        · replace h := Eq.trans (if_pos c7).symm h
          refine lv_tableIn (off := 359) (tgt := 370) hx hb d_Lex_wordKind_11 (by rw [c7]; decide) (by rw [c7]; decide) (by rw [c7]; rfl) (by decide) ?_
          refine lv_iconst (v := 2) hx hb d_Lex_wordKind_370 (by decide) ?_
          exact kv_iret (w := 2) hx hb hr rfl hlocks (Option.some.inj h) d_Lex_wordKind_371
        · replace h := Eq.trans (if_neg c7).symm h
          have nc7 := ksw (z := 83) rfl c7
          by_cases c8 : (fR_at α 0 (α.1 11)) = 84
          · replace h := Eq.trans (if_pos c8).symm h
            refine lv_tableIn (off := 287) (tgt := 298) hx hb d_Lex_wordKind_11 (by rw [c8]; decide) (by rw [c8]; decide) (by rw [c8]; rfl) (by decide) ?_
            refine lv_aload_n hx hb d_Lex_wordKind_298 rfl (lv_at hl 0 rfl) ?_
            refine va_ldcS hx hb hown (E.2.2.2.2.2.1 8 (by decide)) d_Lex_wordKind_299 ?_
            obtain ⟨v9, e10, h⟩ := Option.bind_eq_some_iff.mp h
            refine kg_p (As := [.ref (kst g 8)]) (rest := []) ((k_Lex_reads (l := l) (g := g) (α := α) N 8 (by decide)) _ e10) S E hJ kw_Lex_101 ⟨Nat.le_of_ble_eq_true rfl, Nat.le_of_ble_eq_true rfl⟩ ⟨Nat.le_refl _, Nat.le_refl _⟩ (kv_Lex E hJ) rfl hl.1 rfl (Nat.le_of_ble_eq_true rfl) d_Lex_wordKind_301 rfl ?_
            refine lv_if_eq (tgt := 312) hx hb d_Lex_wordKind_304 (by decide) (fun c11 => ?_) (fun c11 => ?_)
            · replace h := Eq.trans (if_pos c11).symm h
              refine lv_iconst (v := 2) hx hb d_Lex_wordKind_312 (by decide) ?_
              exact kv_iret (w := 2) hx hb hr rfl hlocks (Option.some.inj h) d_Lex_wordKind_313
            · replace h := Eq.trans (if_neg c11).symm h
              refine lv_bipush (v := 15) hx hb d_Lex_wordKind_307 (by decide) ?_
              refine lv_goto (tgt := 313) hx hb d_Lex_wordKind_309 (by decide) ?_
              exact kv_iret (w := 15) hx hb hr rfl hlocks (Option.some.inj h) d_Lex_wordKind_313
          · replace h := Eq.trans (if_neg c8).symm h
            have nc8 := ksw (z := 84) rfl c8
            by_cases c12 : (fR_at α 0 (α.1 11)) = 85
            · replace h := Eq.trans (if_pos c12).symm h
              refine lv_tableIn (off := 359) (tgt := 370) hx hb d_Lex_wordKind_11 (by rw [c12]; decide) (by rw [c12]; decide) (by rw [c12]; rfl) (by decide) ?_
              refine lv_iconst (v := 2) hx hb d_Lex_wordKind_370 (by decide) ?_
              exact kv_iret (w := 2) hx hb hr rfl hlocks (Option.some.inj h) d_Lex_wordKind_371
            · replace h := Eq.trans (if_neg c12).symm h
              have nc12 := ksw (z := 85) rfl c12
              by_cases c13 : (fR_at α 0 (α.1 11)) = 86
              · replace h := Eq.trans (if_pos c13).symm h
                refine lv_tableIn (off := 359) (tgt := 370) hx hb d_Lex_wordKind_11 (by rw [c13]; decide) (by rw [c13]; decide) (by rw [c13]; rfl) (by decide) ?_
                refine lv_iconst (v := 2) hx hb d_Lex_wordKind_370 (by decide) ?_
                exact kv_iret (w := 2) hx hb hr rfl hlocks (Option.some.inj h) d_Lex_wordKind_371
              · replace h := Eq.trans (if_neg c13).symm h
                have nc13 := ksw (z := 86) rfl c13
                by_cases c14 : (fR_at α 0 (α.1 11)) = 87
                · replace h := Eq.trans (if_pos c14).symm h
                  refine lv_tableIn (off := 359) (tgt := 370) hx hb d_Lex_wordKind_11 (by rw [c14]; decide) (by rw [c14]; decide) (by rw [c14]; rfl) (by decide) ?_
                  refine lv_iconst (v := 2) hx hb d_Lex_wordKind_370 (by decide) ?_
                  exact kv_iret (w := 2) hx hb hr rfl hlocks (Option.some.inj h) d_Lex_wordKind_371
                · replace h := Eq.trans (if_neg c14).symm h
                  have nc14 := ksw (z := 87) rfl c14
                  by_cases c15 : (fR_at α 0 (α.1 11)) = 88
                  · replace h := Eq.trans (if_pos c15).symm h
                    refine lv_tableIn (off := 359) (tgt := 370) hx hb d_Lex_wordKind_11 (by rw [c15]; decide) (by rw [c15]; decide) (by rw [c15]; rfl) (by decide) ?_
                    refine lv_iconst (v := 2) hx hb d_Lex_wordKind_370 (by decide) ?_
                    exact kv_iret (w := 2) hx hb hr rfl hlocks (Option.some.inj h) d_Lex_wordKind_371
                  · replace h := Eq.trans (if_neg c15).symm h
                    have nc15 := ksw (z := 88) rfl c15
                    by_cases c16 : (fR_at α 0 (α.1 11)) = 89
                    · replace h := Eq.trans (if_pos c16).symm h
                      refine lv_tableIn (off := 359) (tgt := 370) hx hb d_Lex_wordKind_11 (by rw [c16]; decide) (by rw [c16]; decide) (by rw [c16]; rfl) (by decide) ?_
                      refine lv_iconst (v := 2) hx hb d_Lex_wordKind_370 (by decide) ?_
                      exact kv_iret (w := 2) hx hb hr rfl hlocks (Option.some.inj h) d_Lex_wordKind_371
                    · replace h := Eq.trans (if_neg c16).symm h
                      have nc16 := ksw (z := 89) rfl c16
                      by_cases c17 : (fR_at α 0 (α.1 11)) = 90
                      · replace h := Eq.trans (if_pos c17).symm h
                        refine lv_tableIn (off := 359) (tgt := 370) hx hb d_Lex_wordKind_11 (by rw [c17]; decide) (by rw [c17]; decide) (by rw [c17]; rfl) (by decide) ?_
                        refine lv_iconst (v := 2) hx hb d_Lex_wordKind_370 (by decide) ?_
                        exact kv_iret (w := 2) hx hb hr rfl hlocks (Option.some.inj h) d_Lex_wordKind_371
                      · replace h := Eq.trans (if_neg c17).symm h
                        have nc17 := ksw (z := 90) rfl c17
                        by_cases c18 : (fR_at α 0 (α.1 11)) = 91
                        · replace h := Eq.trans (if_pos c18).symm h
                          refine lv_tableIn (off := 359) (tgt := 370) hx hb d_Lex_wordKind_11 (by rw [c18]; decide) (by rw [c18]; decide) (by rw [c18]; rfl) (by decide) ?_
                          refine lv_iconst (v := 2) hx hb d_Lex_wordKind_370 (by decide) ?_
                          exact kv_iret (w := 2) hx hb hr rfl hlocks (Option.some.inj h) d_Lex_wordKind_371
                        · replace h := Eq.trans (if_neg c18).symm h
                          have nc18 := ksw (z := 91) rfl c18
                          by_cases c19 : (fR_at α 0 (α.1 11)) = 92
                          · replace h := Eq.trans (if_pos c19).symm h
                            refine lv_tableIn (off := 359) (tgt := 370) hx hb d_Lex_wordKind_11 (by rw [c19]; decide) (by rw [c19]; decide) (by rw [c19]; rfl) (by decide) ?_
                            refine lv_iconst (v := 2) hx hb d_Lex_wordKind_370 (by decide) ?_
                            exact kv_iret (w := 2) hx hb hr rfl hlocks (Option.some.inj h) d_Lex_wordKind_371
                          · replace h := Eq.trans (if_neg c19).symm h
                            have nc19 := ksw (z := 92) rfl c19
                            by_cases c20 : (fR_at α 0 (α.1 11)) = 93
                            · replace h := Eq.trans (if_pos c20).symm h
                              refine lv_tableIn (off := 359) (tgt := 370) hx hb d_Lex_wordKind_11 (by rw [c20]; decide) (by rw [c20]; decide) (by rw [c20]; rfl) (by decide) ?_
                              refine lv_iconst (v := 2) hx hb d_Lex_wordKind_370 (by decide) ?_
                              exact kv_iret (w := 2) hx hb hr rfl hlocks (Option.some.inj h) d_Lex_wordKind_371
                            · replace h := Eq.trans (if_neg c20).symm h
                              have nc20 := ksw (z := 93) rfl c20
                              by_cases c21 : (fR_at α 0 (α.1 11)) = 94
                              · replace h := Eq.trans (if_pos c21).symm h
                                refine lv_tableIn (off := 359) (tgt := 370) hx hb d_Lex_wordKind_11 (by rw [c21]; decide) (by rw [c21]; decide) (by rw [c21]; rfl) (by decide) ?_
                                refine lv_iconst (v := 2) hx hb d_Lex_wordKind_370 (by decide) ?_
                                exact kv_iret (w := 2) hx hb hr rfl hlocks (Option.some.inj h) d_Lex_wordKind_371
                              · replace h := Eq.trans (if_neg c21).symm h
                                have nc21 := ksw (z := 94) rfl c21
                                by_cases c22 : (fR_at α 0 (α.1 11)) = 95
                                · replace h := Eq.trans (if_pos c22).symm h
                                  refine lv_tableIn (off := 359) (tgt := 370) hx hb d_Lex_wordKind_11 (by rw [c22]; decide) (by rw [c22]; decide) (by rw [c22]; rfl) (by decide) ?_
                                  refine lv_iconst (v := 2) hx hb d_Lex_wordKind_370 (by decide) ?_
                                  exact kv_iret (w := 2) hx hb hr rfl hlocks (Option.some.inj h) d_Lex_wordKind_371
                                · replace h := Eq.trans (if_neg c22).symm h
                                  have nc22 := ksw (z := 95) rfl c22
                                  by_cases c23 : (fR_at α 0 (α.1 11)) = 96
                                  · replace h := Eq.trans (if_pos c23).symm h
                                    refine lv_tableIn (off := 359) (tgt := 370) hx hb d_Lex_wordKind_11 (by rw [c23]; decide) (by rw [c23]; decide) (by rw [c23]; rfl) (by decide) ?_
                                    refine lv_iconst (v := 2) hx hb d_Lex_wordKind_370 (by decide) ?_
                                    exact kv_iret (w := 2) hx hb hr rfl hlocks (Option.some.inj h) d_Lex_wordKind_371
                                  · replace h := Eq.trans (if_neg c23).symm h
                                    have nc23 := ksw (z := 96) rfl c23
                                    by_cases c24 : (fR_at α 0 (α.1 11)) = 97
                                    · replace h := Eq.trans (if_pos c24).symm h
                                      refine lv_tableIn (off := 161) (tgt := 172) hx hb d_Lex_wordKind_11 (by rw [c24]; decide) (by rw [c24]; decide) (by rw [c24]; rfl) (by decide) ?_
                                      refine lv_aload_n hx hb d_Lex_wordKind_172 rfl (lv_at hl 0 rfl) ?_
                                      refine va_ldcS hx hb hown (E.2.2.2.2.2.1 0 (by decide)) d_Lex_wordKind_173 ?_
                                      obtain ⟨v25, e26, h⟩ := Option.bind_eq_some_iff.mp h
                                      refine kg_p (As := [.ref (kst g 0)]) (rest := []) ((k_Lex_reads (l := l) (g := g) (α := α) N 0 (by decide)) _ e26) S E hJ kw_Lex_101 ⟨Nat.le_of_ble_eq_true rfl, Nat.le_of_ble_eq_true rfl⟩ ⟨Nat.le_refl _, Nat.le_refl _⟩ (kv_Lex E hJ) rfl hl.1 rfl (Nat.le_of_ble_eq_true rfl) d_Lex_wordKind_175 rfl ?_
                                      refine lv_if_eq (tgt := 185) hx hb d_Lex_wordKind_178 (by decide) (fun c27 => ?_) (fun c27 => ?_)
                                      · replace h := Eq.trans (if_pos c27).symm h
                                        refine lv_iconst (v := 2) hx hb d_Lex_wordKind_185 (by decide) ?_
                                        exact kv_iret (w := 2) hx hb hr rfl hlocks (Option.some.inj h) d_Lex_wordKind_186
                                      · replace h := Eq.trans (if_neg c27).symm h
                                        refine lv_iconst (v := 4) hx hb d_Lex_wordKind_181 (by decide) ?_
                                        refine lv_goto (tgt := 186) hx hb d_Lex_wordKind_182 (by decide) ?_
                                        exact kv_iret (w := 4) hx hb hr rfl hlocks (Option.some.inj h) d_Lex_wordKind_186
                                    · replace h := Eq.trans (if_neg c24).symm h
                                      have nc24 := ksw (z := 97) rfl c24
                                      by_cases c28 : (fR_at α 0 (α.1 11)) = 98
                                      · replace h := Eq.trans (if_pos c28).symm h
                                        refine lv_tableIn (off := 359) (tgt := 370) hx hb d_Lex_wordKind_11 (by rw [c28]; decide) (by rw [c28]; decide) (by rw [c28]; rfl) (by decide) ?_
                                        refine lv_iconst (v := 2) hx hb d_Lex_wordKind_370 (by decide) ?_
                                        exact kv_iret (w := 2) hx hb hr rfl hlocks (Option.some.inj h) d_Lex_wordKind_371
                                      · replace h := Eq.trans (if_neg c28).symm h
                                        have nc28 := ksw (z := 98) rfl c28
                                        by_cases c29 : (fR_at α 0 (α.1 11)) = 99
                                        · replace h := Eq.trans (if_pos c29).symm h
                                          refine lv_tableIn (off := 207) (tgt := 218) hx hb d_Lex_wordKind_11 (by rw [c29]; decide) (by rw [c29]; decide) (by rw [c29]; rfl) (by decide) ?_
                                          refine lv_aload_n hx hb d_Lex_wordKind_218 rfl (lv_at hl 0 rfl) ?_
                                          refine va_ldcS hx hb hown (E.2.2.2.2.2.1 3 (by decide)) d_Lex_wordKind_219 ?_
                                          obtain ⟨v30, e31, h⟩ := Option.bind_eq_some_iff.mp h
                                          refine kg_p (As := [.ref (kst g 3)]) (rest := []) ((k_Lex_reads (l := l) (g := g) (α := α) N 3 (by decide)) _ e31) S E hJ kw_Lex_101 ⟨Nat.le_of_ble_eq_true rfl, Nat.le_of_ble_eq_true rfl⟩ ⟨Nat.le_refl _, Nat.le_refl _⟩ (kv_Lex E hJ) rfl hl.1 rfl (Nat.le_of_ble_eq_true rfl) d_Lex_wordKind_221 rfl ?_
                                          refine lv_if_eq (tgt := 232) hx hb d_Lex_wordKind_224 (by decide) (fun c32 => ?_) (fun c32 => ?_)
                                          · replace h := Eq.trans (if_pos c32).symm h
                                            refine lv_iconst (v := 2) hx hb d_Lex_wordKind_232 (by decide) ?_
                                            exact kv_iret (w := 2) hx hb hr rfl hlocks (Option.some.inj h) d_Lex_wordKind_233
                                          · replace h := Eq.trans (if_neg c32).symm h
                                            refine lv_bipush (v := 8) hx hb d_Lex_wordKind_227 (by decide) ?_
                                            refine lv_goto (tgt := 233) hx hb d_Lex_wordKind_229 (by decide) ?_
                                            exact kv_iret (w := 8) hx hb hr rfl hlocks (Option.some.inj h) d_Lex_wordKind_233
                                        · replace h := Eq.trans (if_neg c29).symm h
                                          have nc29 := ksw (z := 99) rfl c29
                                          by_cases c33 : (fR_at α 0 (α.1 11)) = 100
                                          · replace h := Eq.trans (if_pos c33).symm h
                                            refine lv_tableIn (off := 176) (tgt := 187) hx hb d_Lex_wordKind_11 (by rw [c33]; decide) (by rw [c33]; decide) (by rw [c33]; rfl) (by decide) ?_
                                            refine lv_aload_n hx hb d_Lex_wordKind_187 rfl (lv_at hl 0 rfl) ?_
                                            refine va_ldcS hx hb hown (E.2.2.2.2.2.1 1 (by decide)) d_Lex_wordKind_188 ?_
                                            obtain ⟨v34, e35, h⟩ := Option.bind_eq_some_iff.mp h
                                            refine kg_p (As := [.ref (kst g 1)]) (rest := []) ((k_Lex_reads (l := l) (g := g) (α := α) N 1 (by decide)) _ e35) S E hJ kw_Lex_101 ⟨Nat.le_of_ble_eq_true rfl, Nat.le_of_ble_eq_true rfl⟩ ⟨Nat.le_refl _, Nat.le_refl _⟩ (kv_Lex E hJ) rfl hl.1 rfl (Nat.le_of_ble_eq_true rfl) d_Lex_wordKind_190 rfl ?_
                                            refine lv_if_eq (tgt := 200) hx hb d_Lex_wordKind_193 (by decide) (fun c36 => ?_) (fun c36 => ?_)
                                            · replace h := Eq.trans (if_pos c36).symm h
                                              refine lv_iconst (v := 2) hx hb d_Lex_wordKind_200 (by decide) ?_
                                              exact kv_iret (w := 2) hx hb hr rfl hlocks (Option.some.inj h) d_Lex_wordKind_201
                                            · replace h := Eq.trans (if_neg c36).symm h
                                              refine lv_iconst (v := 5) hx hb d_Lex_wordKind_196 (by decide) ?_
                                              refine lv_goto (tgt := 201) hx hb d_Lex_wordKind_197 (by decide) ?_
                                              exact kv_iret (w := 5) hx hb hr rfl hlocks (Option.some.inj h) d_Lex_wordKind_201
                                          · replace h := Eq.trans (if_neg c33).symm h
                                            have nc33 := ksw (z := 100) rfl c33
                                            by_cases c37 : (fR_at α 0 (α.1 11)) = 101
                                            · replace h := Eq.trans (if_pos c37).symm h
                                              refine lv_tableIn (off := 223) (tgt := 234) hx hb d_Lex_wordKind_11 (by rw [c37]; decide) (by rw [c37]; decide) (by rw [c37]; rfl) (by decide) ?_
                                              refine lv_aload_n hx hb d_Lex_wordKind_234 rfl (lv_at hl 0 rfl) ?_
                                              refine va_ldcS hx hb hown (E.2.2.2.2.2.1 4 (by decide)) d_Lex_wordKind_235 ?_
                                              obtain ⟨v38, e39, h⟩ := Option.bind_eq_some_iff.mp h
                                              refine kg_p (As := [.ref (kst g 4)]) (rest := []) ((k_Lex_reads (l := l) (g := g) (α := α) N 4 (by decide)) _ e39) S E hJ kw_Lex_101 ⟨Nat.le_of_ble_eq_true rfl, Nat.le_of_ble_eq_true rfl⟩ ⟨Nat.le_refl _, Nat.le_refl _⟩ (kv_Lex E hJ) rfl hl.1 rfl (Nat.le_of_ble_eq_true rfl) d_Lex_wordKind_237 rfl ?_
                                              refine lv_if_eq (tgt := 248) hx hb d_Lex_wordKind_240 (by decide) (fun c40 => ?_) (fun c40 => ?_)
                                              · replace h := Eq.trans (if_pos c40).symm h
                                                refine lv_iconst (v := 2) hx hb d_Lex_wordKind_248 (by decide) ?_
                                                exact kv_iret (w := 2) hx hb hr rfl hlocks (Option.some.inj h) d_Lex_wordKind_249
                                              · replace h := Eq.trans (if_neg c40).symm h
                                                refine lv_bipush (v := 9) hx hb d_Lex_wordKind_243 (by decide) ?_
                                                refine lv_goto (tgt := 249) hx hb d_Lex_wordKind_245 (by decide) ?_
                                                exact kv_iret (w := 9) hx hb hr rfl hlocks (Option.some.inj h) d_Lex_wordKind_249
                                            · replace h := Eq.trans (if_neg c37).symm h
                                              have nc37 := ksw (z := 101) rfl c37
                                              by_cases c41 : (fR_at α 0 (α.1 11)) = 102
                                              · replace h := Eq.trans (if_pos c41).symm h
                                                refine lv_tableIn (off := 331) (tgt := 342) hx hb d_Lex_wordKind_11 (by rw [c41]; decide) (by rw [c41]; decide) (by rw [c41]; rfl) (by decide) ?_
                                                refine lv_aload_n hx hb d_Lex_wordKind_342 rfl (lv_at hl 0 rfl) ?_
                                                refine va_ldcS hx hb hown (E.2.2.2.2.2.1 11 (by decide)) d_Lex_wordKind_343 ?_
                                                obtain ⟨v42, e43, h⟩ := Option.bind_eq_some_iff.mp h
                                                refine kg_p (As := [.ref (kst g 11)]) (rest := []) ((k_Lex_reads (l := l) (g := g) (α := α) N 11 (by decide)) _ e43) S E hJ kw_Lex_101 ⟨Nat.le_of_ble_eq_true rfl, Nat.le_of_ble_eq_true rfl⟩ ⟨Nat.le_refl _, Nat.le_refl _⟩ (kv_Lex E hJ) rfl hl.1 rfl (Nat.le_of_ble_eq_true rfl) d_Lex_wordKind_345 rfl ?_
                                                refine lv_if_eq (tgt := 354) hx hb d_Lex_wordKind_348 (by decide) (fun c44 => ?_) (fun c44 => ?_)
                                                · replace h := Eq.trans (if_pos c44).symm h
                                                  refine lv_aload_n hx hb d_Lex_wordKind_354 rfl (lv_at hl 0 rfl) ?_
                                                  refine va_ldcS hx hb hown (E.2.2.2.2.2.1 12 (by decide)) d_Lex_wordKind_355 ?_
                                                  obtain ⟨v45, e46, h⟩ := Option.bind_eq_some_iff.mp h
                                                  refine kg_p (As := [.ref (kst g 12)]) (rest := []) ((k_Lex_reads (l := l) (g := g) (α := α) N 12 (by decide)) _ e46) S E hJ kw_Lex_101 ⟨Nat.le_of_ble_eq_true rfl, Nat.le_of_ble_eq_true rfl⟩ ⟨Nat.le_refl _, Nat.le_refl _⟩ (kv_Lex E hJ) rfl hl.1 rfl (Nat.le_of_ble_eq_true rfl) d_Lex_wordKind_357 rfl ?_
                                                  refine lv_if_eq (tgt := 368) hx hb d_Lex_wordKind_360 (by decide) (fun c47 => ?_) (fun c47 => ?_)
                                                  · replace h := Eq.trans (if_pos c47).symm h
                                                    refine lv_iconst (v := 2) hx hb d_Lex_wordKind_368 (by decide) ?_
                                                    exact kv_iret (w := 2) hx hb hr rfl hlocks (Option.some.inj h) d_Lex_wordKind_369
                                                  · replace h := Eq.trans (if_neg c47).symm h
                                                    refine lv_bipush (v := 11) hx hb d_Lex_wordKind_363 (by decide) ?_
                                                    refine lv_goto (tgt := 369) hx hb d_Lex_wordKind_365 (by decide) ?_
                                                    exact kv_iret (w := 11) hx hb hr rfl hlocks (Option.some.inj h) d_Lex_wordKind_369
                                                · replace h := Eq.trans (if_neg c44).symm h
                                                  refine lv_bipush (v := 10) hx hb d_Lex_wordKind_351 (by decide) ?_
                                                  exact kv_iret (w := 10) hx hb hr rfl hlocks (Option.some.inj h) d_Lex_wordKind_353
                                              · replace h := Eq.trans (if_neg c41).symm h
                                                have nc41 := ksw (z := 102) rfl c41
                                                by_cases c48 : (fR_at α 0 (α.1 11)) = 103
                                                · replace h := Eq.trans (if_pos c48).symm h
                                                  refine lv_tableIn (off := 359) (tgt := 370) hx hb d_Lex_wordKind_11 (by rw [c48]; decide) (by rw [c48]; decide) (by rw [c48]; rfl) (by decide) ?_
                                                  refine lv_iconst (v := 2) hx hb d_Lex_wordKind_370 (by decide) ?_
                                                  exact kv_iret (w := 2) hx hb hr rfl hlocks (Option.some.inj h) d_Lex_wordKind_371
                                                · replace h := Eq.trans (if_neg c48).symm h
                                                  have nc48 := ksw (z := 103) rfl c48
                                                  by_cases c49 : (fR_at α 0 (α.1 11)) = 104
                                                  · replace h := Eq.trans (if_pos c49).symm h
                                                    refine lv_tableIn (off := 359) (tgt := 370) hx hb d_Lex_wordKind_11 (by rw [c49]; decide) (by rw [c49]; decide) (by rw [c49]; rfl) (by decide) ?_
                                                    refine lv_iconst (v := 2) hx hb d_Lex_wordKind_370 (by decide) ?_
                                                    exact kv_iret (w := 2) hx hb hr rfl hlocks (Option.some.inj h) d_Lex_wordKind_371
                                                  · replace h := Eq.trans (if_neg c49).symm h
                                                    have nc49 := ksw (z := 104) rfl c49
                                                    by_cases c50 : (fR_at α 0 (α.1 11)) = 105
                                                    · replace h := Eq.trans (if_pos c50).symm h
                                                      refine lv_tableIn (off := 303) (tgt := 314) hx hb d_Lex_wordKind_11 (by rw [c50]; decide) (by rw [c50]; decide) (by rw [c50]; rfl) (by decide) ?_
                                                      refine lv_aload_n hx hb d_Lex_wordKind_314 rfl (lv_at hl 0 rfl) ?_
                                                      refine va_ldcS hx hb hown (E.2.2.2.2.2.1 9 (by decide)) d_Lex_wordKind_315 ?_
                                                      obtain ⟨v51, e52, h⟩ := Option.bind_eq_some_iff.mp h
                                                      refine kg_p (As := [.ref (kst g 9)]) (rest := []) ((k_Lex_reads (l := l) (g := g) (α := α) N 9 (by decide)) _ e52) S E hJ kw_Lex_101 ⟨Nat.le_of_ble_eq_true rfl, Nat.le_of_ble_eq_true rfl⟩ ⟨Nat.le_refl _, Nat.le_refl _⟩ (kv_Lex E hJ) rfl hl.1 rfl (Nat.le_of_ble_eq_true rfl) d_Lex_wordKind_317 rfl ?_
                                                      refine lv_if_eq (tgt := 326) hx hb d_Lex_wordKind_320 (by decide) (fun c53 => ?_) (fun c53 => ?_)
                                                      · replace h := Eq.trans (if_pos c53).symm h
                                                        refine lv_aload_n hx hb d_Lex_wordKind_326 rfl (lv_at hl 0 rfl) ?_
                                                        refine va_ldcS hx hb hown (E.2.2.2.2.2.1 10 (by decide)) d_Lex_wordKind_327 ?_
                                                        obtain ⟨v54, e55, h⟩ := Option.bind_eq_some_iff.mp h
                                                        refine kg_p (As := [.ref (kst g 10)]) (rest := []) ((k_Lex_reads (l := l) (g := g) (α := α) N 10 (by decide)) _ e55) S E hJ kw_Lex_101 ⟨Nat.le_of_ble_eq_true rfl, Nat.le_of_ble_eq_true rfl⟩ ⟨Nat.le_refl _, Nat.le_refl _⟩ (kv_Lex E hJ) rfl hl.1 rfl (Nat.le_of_ble_eq_true rfl) d_Lex_wordKind_329 rfl ?_
                                                        refine lv_if_eq (tgt := 340) hx hb d_Lex_wordKind_332 (by decide) (fun c56 => ?_) (fun c56 => ?_)
                                                        · replace h := Eq.trans (if_pos c56).symm h
                                                          refine lv_iconst (v := 2) hx hb d_Lex_wordKind_340 (by decide) ?_
                                                          exact kv_iret (w := 2) hx hb hr rfl hlocks (Option.some.inj h) d_Lex_wordKind_341
                                                        · replace h := Eq.trans (if_neg c56).symm h
                                                          refine lv_bipush (v := 7) hx hb d_Lex_wordKind_335 (by decide) ?_
                                                          refine lv_goto (tgt := 341) hx hb d_Lex_wordKind_337 (by decide) ?_
                                                          exact kv_iret (w := 7) hx hb hr rfl hlocks (Option.some.inj h) d_Lex_wordKind_341
                                                      · replace h := Eq.trans (if_neg c53).symm h
                                                        refine lv_bipush (v := 13) hx hb d_Lex_wordKind_323 (by decide) ?_
                                                        exact kv_iret (w := 13) hx hb hr rfl hlocks (Option.some.inj h) d_Lex_wordKind_325
                                                    · replace h := Eq.trans (if_neg c50).symm h
                                                      have nc50 := ksw (z := 105) rfl c50
                                                      by_cases c57 : (fR_at α 0 (α.1 11)) = 106
                                                      · replace h := Eq.trans (if_pos c57).symm h
                                                        refine lv_tableIn (off := 359) (tgt := 370) hx hb d_Lex_wordKind_11 (by rw [c57]; decide) (by rw [c57]; decide) (by rw [c57]; rfl) (by decide) ?_
                                                        refine lv_iconst (v := 2) hx hb d_Lex_wordKind_370 (by decide) ?_
                                                        exact kv_iret (w := 2) hx hb hr rfl hlocks (Option.some.inj h) d_Lex_wordKind_371
                                                      · replace h := Eq.trans (if_neg c57).symm h
                                                        have nc57 := ksw (z := 106) rfl c57
                                                        by_cases c58 : (fR_at α 0 (α.1 11)) = 107
                                                        · replace h := Eq.trans (if_pos c58).symm h
                                                          refine lv_tableIn (off := 359) (tgt := 370) hx hb d_Lex_wordKind_11 (by rw [c58]; decide) (by rw [c58]; decide) (by rw [c58]; rfl) (by decide) ?_
                                                          refine lv_iconst (v := 2) hx hb d_Lex_wordKind_370 (by decide) ?_
                                                          exact kv_iret (w := 2) hx hb hr rfl hlocks (Option.some.inj h) d_Lex_wordKind_371
                                                        · replace h := Eq.trans (if_neg c58).symm h
                                                          have nc58 := ksw (z := 107) rfl c58
                                                          by_cases c59 : (fR_at α 0 (α.1 11)) = 108
                                                          · replace h := Eq.trans (if_pos c59).symm h
                                                            refine lv_tableIn (off := 239) (tgt := 250) hx hb d_Lex_wordKind_11 (by rw [c59]; decide) (by rw [c59]; decide) (by rw [c59]; rfl) (by decide) ?_
                                                            refine lv_aload_n hx hb d_Lex_wordKind_250 rfl (lv_at hl 0 rfl) ?_
                                                            refine va_ldcS hx hb hown (E.2.2.2.2.2.1 5 (by decide)) d_Lex_wordKind_251 ?_
                                                            obtain ⟨v60, e61, h⟩ := Option.bind_eq_some_iff.mp h
                                                            refine kg_p (As := [.ref (kst g 5)]) (rest := []) ((k_Lex_reads (l := l) (g := g) (α := α) N 5 (by decide)) _ e61) S E hJ kw_Lex_101 ⟨Nat.le_of_ble_eq_true rfl, Nat.le_of_ble_eq_true rfl⟩ ⟨Nat.le_refl _, Nat.le_refl _⟩ (kv_Lex E hJ) rfl hl.1 rfl (Nat.le_of_ble_eq_true rfl) d_Lex_wordKind_253 rfl ?_
                                                            refine lv_if_eq (tgt := 264) hx hb d_Lex_wordKind_256 (by decide) (fun c62 => ?_) (fun c62 => ?_)
                                                            · replace h := Eq.trans (if_pos c62).symm h
                                                              refine lv_iconst (v := 2) hx hb d_Lex_wordKind_264 (by decide) ?_
                                                              exact kv_iret (w := 2) hx hb hr rfl hlocks (Option.some.inj h) d_Lex_wordKind_265
                                                            · replace h := Eq.trans (if_neg c62).symm h
                                                              refine lv_bipush (v := 12) hx hb d_Lex_wordKind_259 (by decide) ?_
                                                              refine lv_goto (tgt := 265) hx hb d_Lex_wordKind_261 (by decide) ?_
                                                              exact kv_iret (w := 12) hx hb hr rfl hlocks (Option.some.inj h) d_Lex_wordKind_265
                                                          · replace h := Eq.trans (if_neg c59).symm h
                                                            have nc59 := ksw (z := 108) rfl c59
                                                            by_cases c63 : (fR_at α 0 (α.1 11)) = 109
                                                            · replace h := Eq.trans (if_pos c63).symm h
                                                              refine lv_tableIn (off := 359) (tgt := 370) hx hb d_Lex_wordKind_11 (by rw [c63]; decide) (by rw [c63]; decide) (by rw [c63]; rfl) (by decide) ?_
                                                              refine lv_iconst (v := 2) hx hb d_Lex_wordKind_370 (by decide) ?_
                                                              exact kv_iret (w := 2) hx hb hr rfl hlocks (Option.some.inj h) d_Lex_wordKind_371
                                                            · replace h := Eq.trans (if_neg c63).symm h
                                                              have nc63 := ksw (z := 109) rfl c63
                                                              by_cases c64 : (fR_at α 0 (α.1 11)) = 110
                                                              · replace h := Eq.trans (if_pos c64).symm h
                                                                refine lv_tableIn (off := 359) (tgt := 370) hx hb d_Lex_wordKind_11 (by rw [c64]; decide) (by rw [c64]; decide) (by rw [c64]; rfl) (by decide) ?_
                                                                refine lv_iconst (v := 2) hx hb d_Lex_wordKind_370 (by decide) ?_
                                                                exact kv_iret (w := 2) hx hb hr rfl hlocks (Option.some.inj h) d_Lex_wordKind_371
                                                              · replace h := Eq.trans (if_neg c64).symm h
                                                                have nc64 := ksw (z := 110) rfl c64
                                                                by_cases c65 : (fR_at α 0 (α.1 11)) = 111
                                                                · replace h := Eq.trans (if_pos c65).symm h
                                                                  refine lv_tableIn (off := 359) (tgt := 370) hx hb d_Lex_wordKind_11 (by rw [c65]; decide) (by rw [c65]; decide) (by rw [c65]; rfl) (by decide) ?_
                                                                  refine lv_iconst (v := 2) hx hb d_Lex_wordKind_370 (by decide) ?_
                                                                  exact kv_iret (w := 2) hx hb hr rfl hlocks (Option.some.inj h) d_Lex_wordKind_371
                                                                · replace h := Eq.trans (if_neg c65).symm h
                                                                  have nc65 := ksw (z := 111) rfl c65
                                                                  by_cases c66 : (fR_at α 0 (α.1 11)) = 112
                                                                  · replace h := Eq.trans (if_pos c66).symm h
                                                                    refine lv_tableIn (off := 359) (tgt := 370) hx hb d_Lex_wordKind_11 (by rw [c66]; decide) (by rw [c66]; decide) (by rw [c66]; rfl) (by decide) ?_
                                                                    refine lv_iconst (v := 2) hx hb d_Lex_wordKind_370 (by decide) ?_
                                                                    exact kv_iret (w := 2) hx hb hr rfl hlocks (Option.some.inj h) d_Lex_wordKind_371
                                                                  · replace h := Eq.trans (if_neg c66).symm h
                                                                    have nc66 := ksw (z := 112) rfl c66
                                                                    by_cases c67 : (fR_at α 0 (α.1 11)) = 113
                                                                    · replace h := Eq.trans (if_pos c67).symm h
                                                                      refine lv_tableIn (off := 359) (tgt := 370) hx hb d_Lex_wordKind_11 (by rw [c67]; decide) (by rw [c67]; decide) (by rw [c67]; rfl) (by decide) ?_
                                                                      refine lv_iconst (v := 2) hx hb d_Lex_wordKind_370 (by decide) ?_
                                                                      exact kv_iret (w := 2) hx hb hr rfl hlocks (Option.some.inj h) d_Lex_wordKind_371
                                                                    · replace h := Eq.trans (if_neg c67).symm h
                                                                      have nc67 := ksw (z := 113) rfl c67
                                                                      by_cases c68 : (fR_at α 0 (α.1 11)) = 114
                                                                      · replace h := Eq.trans (if_pos c68).symm h
                                                                        refine lv_tableIn (off := 255) (tgt := 266) hx hb d_Lex_wordKind_11 (by rw [c68]; decide) (by rw [c68]; decide) (by rw [c68]; rfl) (by decide) ?_
                                                                        refine lv_aload_n hx hb d_Lex_wordKind_266 rfl (lv_at hl 0 rfl) ?_
                                                                        refine va_ldcS hx hb hown (E.2.2.2.2.2.1 6 (by decide)) d_Lex_wordKind_267 ?_
                                                                        obtain ⟨v69, e70, h⟩ := Option.bind_eq_some_iff.mp h
                                                                        refine kg_p (As := [.ref (kst g 6)]) (rest := []) ((k_Lex_reads (l := l) (g := g) (α := α) N 6 (by decide)) _ e70) S E hJ kw_Lex_101 ⟨Nat.le_of_ble_eq_true rfl, Nat.le_of_ble_eq_true rfl⟩ ⟨Nat.le_refl _, Nat.le_refl _⟩ (kv_Lex E hJ) rfl hl.1 rfl (Nat.le_of_ble_eq_true rfl) d_Lex_wordKind_269 rfl ?_
                                                                        refine lv_if_eq (tgt := 280) hx hb d_Lex_wordKind_272 (by decide) (fun c71 => ?_) (fun c71 => ?_)
                                                                        · replace h := Eq.trans (if_pos c71).symm h
                                                                          refine lv_iconst (v := 2) hx hb d_Lex_wordKind_280 (by decide) ?_
                                                                          exact kv_iret (w := 2) hx hb hr rfl hlocks (Option.some.inj h) d_Lex_wordKind_281
                                                                        · replace h := Eq.trans (if_neg c71).symm h
                                                                          refine lv_bipush (v := 16) hx hb d_Lex_wordKind_275 (by decide) ?_
                                                                          refine lv_goto (tgt := 281) hx hb d_Lex_wordKind_277 (by decide) ?_
                                                                          exact kv_iret (w := 16) hx hb hr rfl hlocks (Option.some.inj h) d_Lex_wordKind_281
                                                                      · replace h := Eq.trans (if_neg c68).symm h
                                                                        have nc68 := ksw (z := 114) rfl c68
                                                                        by_cases c72 : (fR_at α 0 (α.1 11)) = 115
                                                                        · replace h := Eq.trans (if_pos c72).symm h
                                                                          refine lv_tableIn (off := 359) (tgt := 370) hx hb d_Lex_wordKind_11 (by rw [c72]; decide) (by rw [c72]; decide) (by rw [c72]; rfl) (by decide) ?_
                                                                          refine lv_iconst (v := 2) hx hb d_Lex_wordKind_370 (by decide) ?_
                                                                          exact kv_iret (w := 2) hx hb hr rfl hlocks (Option.some.inj h) d_Lex_wordKind_371
                                                                        · replace h := Eq.trans (if_neg c72).symm h
                                                                          have nc72 := ksw (z := 115) rfl c72
                                                                          by_cases c73 : (fR_at α 0 (α.1 11)) = 116
                                                                          · replace h := Eq.trans (if_pos c73).symm h
                                                                            refine lv_tableIn (off := 191) (tgt := 202) hx hb d_Lex_wordKind_11 (by rw [c73]; decide) (by rw [c73]; decide) (by rw [c73]; rfl) (by decide) ?_
                                                                            refine lv_aload_n hx hb d_Lex_wordKind_202 rfl (lv_at hl 0 rfl) ?_
                                                                            refine va_ldcS hx hb hown (E.2.2.2.2.2.1 2 (by decide)) d_Lex_wordKind_203 ?_
                                                                            obtain ⟨v74, e75, h⟩ := Option.bind_eq_some_iff.mp h
                                                                            refine kg_p (As := [.ref (kst g 2)]) (rest := []) ((k_Lex_reads (l := l) (g := g) (α := α) N 2 (by decide)) _ e75) S E hJ kw_Lex_101 ⟨Nat.le_of_ble_eq_true rfl, Nat.le_of_ble_eq_true rfl⟩ ⟨Nat.le_refl _, Nat.le_refl _⟩ (kv_Lex E hJ) rfl hl.1 rfl (Nat.le_of_ble_eq_true rfl) d_Lex_wordKind_205 rfl ?_
                                                                            refine lv_if_eq (tgt := 216) hx hb d_Lex_wordKind_208 (by decide) (fun c76 => ?_) (fun c76 => ?_)
                                                                            · replace h := Eq.trans (if_pos c76).symm h
                                                                              refine lv_iconst (v := 2) hx hb d_Lex_wordKind_216 (by decide) ?_
                                                                              exact kv_iret (w := 2) hx hb hr rfl hlocks (Option.some.inj h) d_Lex_wordKind_217
                                                                            · replace h := Eq.trans (if_neg c76).symm h
                                                                              refine lv_bipush (v := 6) hx hb d_Lex_wordKind_211 (by decide) ?_
                                                                              refine lv_goto (tgt := 217) hx hb d_Lex_wordKind_213 (by decide) ?_
                                                                              exact kv_iret (w := 6) hx hb hr rfl hlocks (Option.some.inj h) d_Lex_wordKind_217
                                                                          · replace h := Eq.trans (if_neg c73).symm h
                                                                            have nc73 := ksw (z := 116) rfl c73
                                                                            refine lv_tableOut (tgt := 370) hx hb d_Lex_wordKind_11 (by omega) (by decide) ?_
                                                                            refine lv_iconst (v := 2) hx hb d_Lex_wordKind_370 (by decide) ?_
                                                                            exact kv_iret (w := 2) hx hb hr rfl hlocks (Option.some.inj h) d_Lex_wordKind_371
theorem kw_Lex_96 : kWv "FamilyKernel$Lexer" 96 "FamilyKernel$Lexer" y_Lex_wordKind b_Lex_wordKind 1 (some .int) 0 := ⟨vt_294, vt_295, vt_296, vt_33, vt_297, by decide, by decide, by decide +kernel⟩
theorem kw_Lex_93 : kWs "FamilyKernel$Lexer" 93 y_Lex_isInWord b_Lex_isInWord 1 (some .boolean) 1 := ⟨vt_291, vt_292, vt_33, vt_293, by decide, by decide, by decide +kernel⟩
def f_Lex_scanWord_j82 (N : Nat)  (y1 : Int32) (t0 : Int32) (γ : kS) : Option (kO × kS) := if y1 = 0 then (some (some none, (kSi (kSi γ 12 t0) 10 1))) else (((f_Lex_wordKind N (kSi γ 12 t0))).bind fun v5 => (some (some none, (kSi (kSi γ 12 t0) 10 v5))))
def f_Lex_scanWord_j63 (N : Nat)  (t0 : Int32) (γ : kS) : Option (kO × kS) := if t0 = 0 then (f_Lex_scanWord_j82 N t0 0 γ) else (f_Lex_scanWord_j82 N t0 ((γ.1 8) - (γ.1 11)) γ)
def f_Lex_scanWord_j44 (N : Nat)  (γ : kS) : Option (kO × kS) := if 31 < ((γ.1 8) - (γ.1 11)) then (f_Lex_scanWord_j63 N 0 γ) else (f_Lex_scanWord_j63 N 1 γ)
def f_Lex_scanWord_0 (N : Nat)  : Nat → kS → Option (kO × kS)
  | 0, _ => none
  | n + 1, β => if (fR_size β 0) ≤ (β.1 8) then (f_Lex_scanWord_j44 N  β) else (if (f_Lex_isInWord (fR_at β 0 (β.1 8)) β) = 0 then (f_Lex_scanWord_j44 N  β) else (f_Lex_scanWord_0 N n  (kSi β 8 ((β.1 8) + 1))))
def f_Lex_scanWord (N : Nat)  (α : kS) : Option (kO × kS) := f_Lex_scanWord_0 N N  α
set_option maxHeartbeats 4000000 in
set_option maxRecDepth 100000 in
theorem k_Lex_scanWord {l : Launch} {g : kG} {α : kS} (hfl : kFl l) (N : Nat)   : ∀ x, f_Lex_scanWord N α = some x → kC l g y_Lex_scanWord b_Lex_scanWord 2 none 13 364 [.ref (kad g 4)] α (kQr x) := by
  intro x h
  unfold f_Lex_scanWord at h
  refine kc_ofW (by decide) (fun A ad0 p e s m args below meth c S hr hlocks hno hadm hargs E hI => ?_)
  have hx := S.1
  have hb := S.2.1
  have hown := S.2.2.2.1
  have hT := S.2.2.2.2
  subst hargs
  have hl := lv_entry ([.ref (kad g 4)]) (n := 2) (Nat.le_of_ble_eq_true rfl)
  rw [lg_entry_eq]
  generalize (lg_sl ([.ref (kad g 4)]) ++ List.replicate (2 - (lg_sl ([.ref (kad g 4)])).length) Slot.unset).toArray = ls at hl ⊢
  have hl : lv_has ls 2 [(0, .ref (kad g 4))] := hl
  have L0 : ∀ (n0 : Nat)  (β : kS) (ad : Nat → Nat) (H : Heap) (locs : List Loc) (cells slots : Nat) (ls : Array Slot), f_Lex_scanWord_0 N n0 β = some x → kI g A s α ad0 β ad H locs cells slots → lv_has ls 2 [(0, .ref (kad g 4))] → W p l e (kR 13 364 α) s m ([.ref (kad g 4)]).toArray below meth c H locs cells slots (vEQ below (kQ g A α ad0 (kQr x)) ([.ref (kad g 4)]).toArray s A) (F0 m 0 ls []) := by
    intro n0
    induction n0 with
    | zero => intro  β ad H locs cells slots ls h hI hl; rw [f_Lex_scanWord_0] at h; cases h
    | succ n0 ih0 =>
      intro  β ad H locs cells slots ls h hI hl
      rw [f_Lex_scanWord_0] at h
      have J82 : ∀ (y1 : Int32) (t0 : Int32) (γ : kS) (ad : Nat → Nat) (H : Heap) (locs : List Loc) (cells slots : Nat) (ls : Array Slot), f_Lex_scanWord_j82 N y1 t0 γ = some x → kI g A s α ad0 γ ad H locs cells slots → lv_has ls 2 [(1, .int y1), (0, .ref (kad g 4))] → W p l e (kR 13 364 α) s m ([.ref (kad g 4)]).toArray below meth c H locs cells slots (vEQ below (kQ g A α ad0 (kQr x)) ([.ref (kad g 4)]).toArray s A) (F0 m 82 ls [.int t0, .ref (kad g 4)]) := by
        intro y1 t0 γ ad H locs cells slots ls h hI hl
        unfold f_Lex_scanWord_j82 at h
        refine kp_Lex_length S E hI vt_247 d_Lex_scanWord_82 (fun H locs hI => ?_)
        refine lv_aload_n hx hb d_Lex_scanWord_85 rfl (lv_at hl 1 rfl) ?_
        refine lv_iload_n hx hb d_Lex_scanWord_86 rfl (lv_at hl 0 rfl) ?_
        refine lv_if_eq (tgt := 97) hx hb d_Lex_scanWord_87 (by decide) (fun c4 => ?_) (fun c4 => ?_)
        · replace h := Eq.trans (if_pos c4).symm h
          refine lv_iconst (v := 1) hx hb d_Lex_scanWord_97 (by decide) ?_
          refine kp_Lex_kind S E hI vt_240 d_Lex_scanWord_98 (fun H locs hI => ?_)
          exact kc_vret hx hb hr hlocks E hI h d_Lex_scanWord_101
        · replace h := Eq.trans (if_neg c4).symm h
          refine lv_aload_n hx hb d_Lex_scanWord_90 rfl (lv_at hl 1 rfl) ?_
          obtain ⟨v5, e6, h⟩ := Option.bind_eq_some_iff.mp h
          refine kg_p (As := []) (rest := [.ref (kad g 4)]) ((k_Lex_wordKind (l := l) (g := g) (α := (kSi γ 12 t0)) N) _ e6) S E hI.1 kw_Lex_96 ⟨Nat.le_of_ble_eq_true rfl, Nat.le_of_ble_eq_true rfl⟩ hI.room (kv_Lex E hI.1) rfl hl.1 rfl (Nat.le_of_ble_eq_true rfl) d_Lex_scanWord_91 rfl ?_
          refine lv_goto (tgt := 98) hx hb d_Lex_scanWord_94 (by decide) ?_
          refine kp_Lex_kind S E hI vt_240 d_Lex_scanWord_98 (fun H locs hI => ?_)
          exact kc_vret hx hb hr hlocks E hI h d_Lex_scanWord_101
      have J63 : ∀ (t0 : Int32) (γ : kS) (ad : Nat → Nat) (H : Heap) (locs : List Loc) (cells slots : Nat) (ls : Array Slot), f_Lex_scanWord_j63 N t0 γ = some x → kI g A s α ad0 γ ad H locs cells slots → lv_has ls 2 [(0, .ref (kad g 4))] → W p l e (kR 13 364 α) s m ([.ref (kad g 4)]).toArray below meth c H locs cells slots (vEQ below (kQ g A α ad0 (kQr x)) ([.ref (kad g 4)]).toArray s A) (F0 m 63 ls [.int t0]) := by
        intro t0 γ ad H locs cells slots ls h hI hl
        unfold f_Lex_scanWord_j63 at h
        refine lv_istore_n (lv' := [(1, .int t0), (0, .ref (kad g 4))]) hx hb d_Lex_scanWord_63 rfl hl (by decide) rfl (fun ls hl => ?_)
        refine lv_aload_n hx hb d_Lex_scanWord_64 rfl (lv_at hl 1 rfl) ?_
        refine lv_iload_n hx hb d_Lex_scanWord_65 rfl (lv_at hl 0 rfl) ?_
        refine lv_if_eq (tgt := 81) hx hb d_Lex_scanWord_66 (by decide) (fun c3 => ?_) (fun c3 => ?_)
        · replace h := Eq.trans (if_pos c3).symm h
          refine lv_iconst (v := 0) hx hb d_Lex_scanWord_81 (by decide) ?_
          exact J82 t0 0 _ _ _ _ _ _ _ h hI (lv_sub hl [0, 1] rfl)
        · replace h := Eq.trans (if_neg c3).symm h
          refine lv_aload_n hx hb d_Lex_scanWord_69 rfl (lv_at hl 1 rfl) ?_
          refine kf_Lex_place S E hI.1 vt_239 d_Lex_scanWord_70 ?_
          refine lv_aload_n hx hb d_Lex_scanWord_73 rfl (lv_at hl 1 rfl) ?_
          refine kf_Lex_start S E hI.1 vt_246 d_Lex_scanWord_74 ?_
          refine lv_isub hx hb d_Lex_scanWord_77 ?_
          refine lv_goto (tgt := 82) hx hb d_Lex_scanWord_78 (by decide) ?_
          exact J82 t0 ((γ.1 8) - (γ.1 11)) _ _ _ _ _ _ _ h hI (lv_sub hl [0, 1] rfl)
      have J44 : ∀ (γ : kS) (ad : Nat → Nat) (H : Heap) (locs : List Loc) (cells slots : Nat) (ls : Array Slot), f_Lex_scanWord_j44 N γ = some x → kI g A s α ad0 γ ad H locs cells slots → lv_has ls 2 [(0, .ref (kad g 4))] → W p l e (kR 13 364 α) s m ([.ref (kad g 4)]).toArray below meth c H locs cells slots (vEQ below (kQ g A α ad0 (kQr x)) ([.ref (kad g 4)]).toArray s A) (F0 m 44 ls []) := by
        intro  γ ad H locs cells slots ls h hI hl
        unfold f_Lex_scanWord_j44 at h
        refine lv_aload_n hx hb d_Lex_scanWord_44 rfl (lv_at hl 0 rfl) ?_
        refine kf_Lex_place S E hI.1 vt_239 d_Lex_scanWord_45 ?_
        refine lv_aload_n hx hb d_Lex_scanWord_48 rfl (lv_at hl 0 rfl) ?_
        refine kf_Lex_start S E hI.1 vt_246 d_Lex_scanWord_49 ?_
        refine lv_isub hx hb d_Lex_scanWord_52 ?_
        refine lv_bipush (v := 31) hx hb d_Lex_scanWord_53 (by decide) ?_
        refine lv_icmp_gt (tgt := 62) hx hb d_Lex_scanWord_55 (by decide) (fun c2 => ?_) (fun c2 => ?_)
        · replace h := Eq.trans (if_pos c2).symm h
          refine lv_iconst (v := 0) hx hb d_Lex_scanWord_62 (by decide) ?_
          exact J63 0 _ _ _ _ _ _ _ h hI (lv_sub hl [0] rfl)
        · replace h := Eq.trans (if_neg c2).symm h
          refine lv_iconst (v := 1) hx hb d_Lex_scanWord_58 (by decide) ?_
          refine lv_goto (tgt := 63) hx hb d_Lex_scanWord_59 (by decide) ?_
          exact J63 1 _ _ _ _ _ _ _ h hI (lv_sub hl [0] rfl)
      refine lv_aload_n hx hb d_Lex_scanWord_0 rfl (lv_at hl 0 rfl) ?_
      refine kf_Lex_place S E hI.1 vt_239 d_Lex_scanWord_1 ?_
      refine lv_aload_n hx hb d_Lex_scanWord_4 rfl (lv_at hl 0 rfl) ?_
      refine kf_Lex_text S E hI.1 vt_108 d_Lex_scanWord_5 ?_
      refine kg_p (As := []) (rest := [.int (β.1 8)]) (k_Row_size (l := l) (g := g) (α := β) (r := 0) (by decide)) S E hI.1 kw_Lex_73 ⟨Nat.le_of_ble_eq_true rfl, Nat.le_of_ble_eq_true rfl⟩ hI.room (kv_Row (r := 0) (by decide) E hI.1) rfl hl.1 rfl (Nat.le_of_ble_eq_true rfl) d_Lex_scanWord_8 rfl ?_
      refine lv_icmp_ge (tgt := 44) hx hb d_Lex_scanWord_11 (by decide) (fun c1 => ?_) (fun c1 => ?_)
      · replace h := Eq.trans (if_pos c1).symm h
        exact J44  _ _ _ _ _ _ _ h hI (lv_sub hl [0] rfl)
      · replace h := Eq.trans (if_neg c1).symm h
        refine lv_aload_n hx hb d_Lex_scanWord_14 rfl (lv_at hl 0 rfl) ?_
        refine kf_Lex_text S E hI.1 vt_108 d_Lex_scanWord_15 ?_
        refine lv_aload_n hx hb d_Lex_scanWord_18 rfl (lv_at hl 0 rfl) ?_
        refine kf_Lex_place S E hI.1 vt_239 d_Lex_scanWord_19 ?_
        refine kg_p (As := [.int (β.1 8)]) (rest := []) (k_Row_at (l := l) (g := g) (α := β) (r := 0) (by decide) (β.1 8)) S E hI.1 kw_Lex_58 ⟨Nat.le_of_ble_eq_true rfl, Nat.le_of_ble_eq_true rfl⟩ hI.room (kv_Row (r := 0) (by decide) E hI.1) rfl hl.1 rfl (Nat.le_of_ble_eq_true rfl) d_Lex_scanWord_22 rfl ?_
        refine kg_pS (As := [.int (fR_at β 0 (β.1 8))]) (rest := []) (k_Lex_isInWord (l := l) (g := g) (α := β) (fR_at β 0 (β.1 8))) S E hI.1 kw_Lex_93 ⟨Nat.le_of_ble_eq_true rfl, Nat.le_of_ble_eq_true rfl⟩ hI.room rfl hl.1 rfl (Nat.le_of_ble_eq_true rfl) d_Lex_scanWord_25 ?_
        refine lv_if_eq (tgt := 44) hx hb d_Lex_scanWord_28 (by decide) (fun c7 => ?_) (fun c7 => ?_)
        · replace h := Eq.trans (if_pos c7).symm h
          exact J44  _ _ _ _ _ _ _ h hI (lv_sub hl [0] rfl)
        · replace h := Eq.trans (if_neg c7).symm h
          refine lv_aload_n hx hb d_Lex_scanWord_31 rfl (lv_at hl 0 rfl) ?_
          refine lv_dup hx hb d_Lex_scanWord_32 rfl ?_
          refine kf_Lex_place S E hI.1 vt_239 d_Lex_scanWord_33 ?_
          refine lv_iconst (v := 1) hx hb d_Lex_scanWord_36 (by decide) ?_
          refine lv_iadd hx hb d_Lex_scanWord_37 ?_
          refine kp_Lex_place S E hI vt_239 d_Lex_scanWord_38 (fun H locs hI => ?_)
          refine lv_goto (tgt := 0) hx hb d_Lex_scanWord_41 (by decide) ?_
          exact ih0  _ _ _ _ _ _ _ h hI (lv_sub hl [0] rfl)
  exact L0 N  _ _ _ _ _ _ _ h hI (lv_sub hl [0] rfl)
def f_Lex_scanNumber_j81 (N : Nat)  (y1 : Int32) (t0 : Int32) (γ : kS) : Option (kO × kS) := if y1 = 0 then (some (some none, (kSi (kSi γ 12 t0) 10 1))) else (some (some none, (kSi (kSi γ 12 t0) 10 3)))
def f_Lex_scanNumber_j62 (N : Nat)  (t0 : Int32) (γ : kS) : Option (kO × kS) := if t0 = 0 then (f_Lex_scanNumber_j81 N t0 0 γ) else (f_Lex_scanNumber_j81 N t0 ((γ.1 8) - (γ.1 11)) γ)
def f_Lex_scanNumber_j44 (N : Nat)  (γ : kS) : Option (kO × kS) := if 4 < ((γ.1 8) - (γ.1 11)) then (f_Lex_scanNumber_j62 N 0 γ) else (f_Lex_scanNumber_j62 N 1 γ)
def f_Lex_scanNumber_0 (N : Nat)  : Nat → kS → Option (kO × kS)
  | 0, _ => none
  | n + 1, β => if (fR_size β 0) ≤ (β.1 8) then (f_Lex_scanNumber_j44 N  β) else (if (f_Lex_isDigit (fR_at β 0 (β.1 8)) β) = 0 then (f_Lex_scanNumber_j44 N  β) else (f_Lex_scanNumber_0 N n  (kSi β 8 ((β.1 8) + 1))))
def f_Lex_scanNumber (N : Nat)  (α : kS) : Option (kO × kS) := f_Lex_scanNumber_0 N N  α
set_option maxHeartbeats 4000000 in
set_option maxRecDepth 100000 in
theorem k_Lex_scanNumber {l : Launch} {g : kG} {α : kS} (hfl : kFl l) (N : Nat)   : ∀ x, f_Lex_scanNumber N α = some x → kC l g y_Lex_scanNumber b_Lex_scanNumber 2 none 11 321 [.ref (kad g 4)] α (kQr x) := by
  intro x h
  unfold f_Lex_scanNumber at h
  refine kc_ofW (by decide) (fun A ad0 p e s m args below meth c S hr hlocks hno hadm hargs E hI => ?_)
  have hx := S.1
  have hb := S.2.1
  have hown := S.2.2.2.1
  have hT := S.2.2.2.2
  subst hargs
  have hl := lv_entry ([.ref (kad g 4)]) (n := 2) (Nat.le_of_ble_eq_true rfl)
  rw [lg_entry_eq]
  generalize (lg_sl ([.ref (kad g 4)]) ++ List.replicate (2 - (lg_sl ([.ref (kad g 4)])).length) Slot.unset).toArray = ls at hl ⊢
  have hl : lv_has ls 2 [(0, .ref (kad g 4))] := hl
  have L0 : ∀ (n0 : Nat)  (β : kS) (ad : Nat → Nat) (H : Heap) (locs : List Loc) (cells slots : Nat) (ls : Array Slot), f_Lex_scanNumber_0 N n0 β = some x → kI g A s α ad0 β ad H locs cells slots → lv_has ls 2 [(0, .ref (kad g 4))] → W p l e (kR 11 321 α) s m ([.ref (kad g 4)]).toArray below meth c H locs cells slots (vEQ below (kQ g A α ad0 (kQr x)) ([.ref (kad g 4)]).toArray s A) (F0 m 0 ls []) := by
    intro n0
    induction n0 with
    | zero => intro  β ad H locs cells slots ls h hI hl; rw [f_Lex_scanNumber_0] at h; cases h
    | succ n0 ih0 =>
      intro  β ad H locs cells slots ls h hI hl
      rw [f_Lex_scanNumber_0] at h
      have J81 : ∀ (y1 : Int32) (t0 : Int32) (γ : kS) (ad : Nat → Nat) (H : Heap) (locs : List Loc) (cells slots : Nat) (ls : Array Slot), f_Lex_scanNumber_j81 N y1 t0 γ = some x → kI g A s α ad0 γ ad H locs cells slots → lv_has ls 2 [(1, .int y1), (0, .ref (kad g 4))] → W p l e (kR 11 321 α) s m ([.ref (kad g 4)]).toArray below meth c H locs cells slots (vEQ below (kQ g A α ad0 (kQr x)) ([.ref (kad g 4)]).toArray s A) (F0 m 81 ls [.int t0, .ref (kad g 4)]) := by
        intro y1 t0 γ ad H locs cells slots ls h hI hl
        unfold f_Lex_scanNumber_j81 at h
        refine kp_Lex_length S E hI vt_247 d_Lex_scanNumber_81 (fun H locs hI => ?_)
        refine lv_aload_n hx hb d_Lex_scanNumber_84 rfl (lv_at hl 1 rfl) ?_
        refine lv_iload_n hx hb d_Lex_scanNumber_85 rfl (lv_at hl 0 rfl) ?_
        refine lv_if_eq (tgt := 93) hx hb d_Lex_scanNumber_86 (by decide) (fun c4 => ?_) (fun c4 => ?_)
        · replace h := Eq.trans (if_pos c4).symm h
          refine lv_iconst (v := 1) hx hb d_Lex_scanNumber_93 (by decide) ?_
          refine kp_Lex_kind S E hI vt_240 d_Lex_scanNumber_94 (fun H locs hI => ?_)
          exact kc_vret hx hb hr hlocks E hI h d_Lex_scanNumber_97
        · replace h := Eq.trans (if_neg c4).symm h
          refine lv_iconst (v := 3) hx hb d_Lex_scanNumber_89 (by decide) ?_
          refine lv_goto (tgt := 94) hx hb d_Lex_scanNumber_90 (by decide) ?_
          refine kp_Lex_kind S E hI vt_240 d_Lex_scanNumber_94 (fun H locs hI => ?_)
          exact kc_vret hx hb hr hlocks E hI h d_Lex_scanNumber_97
      have J62 : ∀ (t0 : Int32) (γ : kS) (ad : Nat → Nat) (H : Heap) (locs : List Loc) (cells slots : Nat) (ls : Array Slot), f_Lex_scanNumber_j62 N t0 γ = some x → kI g A s α ad0 γ ad H locs cells slots → lv_has ls 2 [(0, .ref (kad g 4))] → W p l e (kR 11 321 α) s m ([.ref (kad g 4)]).toArray below meth c H locs cells slots (vEQ below (kQ g A α ad0 (kQr x)) ([.ref (kad g 4)]).toArray s A) (F0 m 62 ls [.int t0]) := by
        intro t0 γ ad H locs cells slots ls h hI hl
        unfold f_Lex_scanNumber_j62 at h
        refine lv_istore_n (lv' := [(1, .int t0), (0, .ref (kad g 4))]) hx hb d_Lex_scanNumber_62 rfl hl (by decide) rfl (fun ls hl => ?_)
        refine lv_aload_n hx hb d_Lex_scanNumber_63 rfl (lv_at hl 1 rfl) ?_
        refine lv_iload_n hx hb d_Lex_scanNumber_64 rfl (lv_at hl 0 rfl) ?_
        refine lv_if_eq (tgt := 80) hx hb d_Lex_scanNumber_65 (by decide) (fun c3 => ?_) (fun c3 => ?_)
        · replace h := Eq.trans (if_pos c3).symm h
          refine lv_iconst (v := 0) hx hb d_Lex_scanNumber_80 (by decide) ?_
          exact J81 t0 0 _ _ _ _ _ _ _ h hI (lv_sub hl [0, 1] rfl)
        · replace h := Eq.trans (if_neg c3).symm h
          refine lv_aload_n hx hb d_Lex_scanNumber_68 rfl (lv_at hl 1 rfl) ?_
          refine kf_Lex_place S E hI.1 vt_239 d_Lex_scanNumber_69 ?_
          refine lv_aload_n hx hb d_Lex_scanNumber_72 rfl (lv_at hl 1 rfl) ?_
          refine kf_Lex_start S E hI.1 vt_246 d_Lex_scanNumber_73 ?_
          refine lv_isub hx hb d_Lex_scanNumber_76 ?_
          refine lv_goto (tgt := 81) hx hb d_Lex_scanNumber_77 (by decide) ?_
          exact J81 t0 ((γ.1 8) - (γ.1 11)) _ _ _ _ _ _ _ h hI (lv_sub hl [0, 1] rfl)
      have J44 : ∀ (γ : kS) (ad : Nat → Nat) (H : Heap) (locs : List Loc) (cells slots : Nat) (ls : Array Slot), f_Lex_scanNumber_j44 N γ = some x → kI g A s α ad0 γ ad H locs cells slots → lv_has ls 2 [(0, .ref (kad g 4))] → W p l e (kR 11 321 α) s m ([.ref (kad g 4)]).toArray below meth c H locs cells slots (vEQ below (kQ g A α ad0 (kQr x)) ([.ref (kad g 4)]).toArray s A) (F0 m 44 ls []) := by
        intro  γ ad H locs cells slots ls h hI hl
        unfold f_Lex_scanNumber_j44 at h
        refine lv_aload_n hx hb d_Lex_scanNumber_44 rfl (lv_at hl 0 rfl) ?_
        refine kf_Lex_place S E hI.1 vt_239 d_Lex_scanNumber_45 ?_
        refine lv_aload_n hx hb d_Lex_scanNumber_48 rfl (lv_at hl 0 rfl) ?_
        refine kf_Lex_start S E hI.1 vt_246 d_Lex_scanNumber_49 ?_
        refine lv_isub hx hb d_Lex_scanNumber_52 ?_
        refine lv_iconst (v := 4) hx hb d_Lex_scanNumber_53 (by decide) ?_
        refine lv_icmp_gt (tgt := 61) hx hb d_Lex_scanNumber_54 (by decide) (fun c2 => ?_) (fun c2 => ?_)
        · replace h := Eq.trans (if_pos c2).symm h
          refine lv_iconst (v := 0) hx hb d_Lex_scanNumber_61 (by decide) ?_
          exact J62 0 _ _ _ _ _ _ _ h hI (lv_sub hl [0] rfl)
        · replace h := Eq.trans (if_neg c2).symm h
          refine lv_iconst (v := 1) hx hb d_Lex_scanNumber_57 (by decide) ?_
          refine lv_goto (tgt := 62) hx hb d_Lex_scanNumber_58 (by decide) ?_
          exact J62 1 _ _ _ _ _ _ _ h hI (lv_sub hl [0] rfl)
      refine lv_aload_n hx hb d_Lex_scanNumber_0 rfl (lv_at hl 0 rfl) ?_
      refine kf_Lex_place S E hI.1 vt_239 d_Lex_scanNumber_1 ?_
      refine lv_aload_n hx hb d_Lex_scanNumber_4 rfl (lv_at hl 0 rfl) ?_
      refine kf_Lex_text S E hI.1 vt_108 d_Lex_scanNumber_5 ?_
      refine kg_p (As := []) (rest := [.int (β.1 8)]) (k_Row_size (l := l) (g := g) (α := β) (r := 0) (by decide)) S E hI.1 kw_Lex_73 ⟨Nat.le_of_ble_eq_true rfl, Nat.le_of_ble_eq_true rfl⟩ hI.room (kv_Row (r := 0) (by decide) E hI.1) rfl hl.1 rfl (Nat.le_of_ble_eq_true rfl) d_Lex_scanNumber_8 rfl ?_
      refine lv_icmp_ge (tgt := 44) hx hb d_Lex_scanNumber_11 (by decide) (fun c1 => ?_) (fun c1 => ?_)
      · replace h := Eq.trans (if_pos c1).symm h
        exact J44  _ _ _ _ _ _ _ h hI (lv_sub hl [0] rfl)
      · replace h := Eq.trans (if_neg c1).symm h
        refine lv_aload_n hx hb d_Lex_scanNumber_14 rfl (lv_at hl 0 rfl) ?_
        refine kf_Lex_text S E hI.1 vt_108 d_Lex_scanNumber_15 ?_
        refine lv_aload_n hx hb d_Lex_scanNumber_18 rfl (lv_at hl 0 rfl) ?_
        refine kf_Lex_place S E hI.1 vt_239 d_Lex_scanNumber_19 ?_
        refine kg_p (As := [.int (β.1 8)]) (rest := []) (k_Row_at (l := l) (g := g) (α := β) (r := 0) (by decide) (β.1 8)) S E hI.1 kw_Lex_58 ⟨Nat.le_of_ble_eq_true rfl, Nat.le_of_ble_eq_true rfl⟩ hI.room (kv_Row (r := 0) (by decide) E hI.1) rfl hl.1 rfl (Nat.le_of_ble_eq_true rfl) d_Lex_scanNumber_22 rfl ?_
        refine kg_pS (As := [.int (fR_at β 0 (β.1 8))]) (rest := []) (k_Lex_isDigit (l := l) (g := g) (α := β) (fR_at β 0 (β.1 8))) S E hI.1 kw_Lex_84 ⟨Nat.le_of_ble_eq_true rfl, Nat.le_of_ble_eq_true rfl⟩ hI.room rfl hl.1 rfl (Nat.le_of_ble_eq_true rfl) d_Lex_scanNumber_25 ?_
        refine lv_if_eq (tgt := 44) hx hb d_Lex_scanNumber_28 (by decide) (fun c5 => ?_) (fun c5 => ?_)
        · replace h := Eq.trans (if_pos c5).symm h
          exact J44  _ _ _ _ _ _ _ h hI (lv_sub hl [0] rfl)
        · replace h := Eq.trans (if_neg c5).symm h
          refine lv_aload_n hx hb d_Lex_scanNumber_31 rfl (lv_at hl 0 rfl) ?_
          refine lv_dup hx hb d_Lex_scanNumber_32 rfl ?_
          refine kf_Lex_place S E hI.1 vt_239 d_Lex_scanNumber_33 ?_
          refine lv_iconst (v := 1) hx hb d_Lex_scanNumber_36 (by decide) ?_
          refine lv_iadd hx hb d_Lex_scanNumber_37 ?_
          refine kp_Lex_place S E hI vt_239 d_Lex_scanNumber_38 (fun H locs hI => ?_)
          refine lv_goto (tgt := 0) hx hb d_Lex_scanNumber_41 (by decide) ?_
          exact ih0  _ _ _ _ _ _ _ h hI (lv_sub hl [0] rfl)
  exact L0 N  _ _ _ _ _ _ _ h hI (lv_sub hl [0] rfl)
def f_Lex_scanSign_j56  (y3 : Int32) (y1 : Int32) (t0 : Int32) (t1 : Int32) (γ : kS) : kS := if y1 = 40 then ((kSi (kSi γ 8 (t1 + t0)) 10 17)) else (if y1 = 41 then ((kSi (kSi γ 8 (t1 + t0)) 10 18)) else (if y1 = 44 then ((kSi (kSi γ 8 (t1 + t0)) 10 22)) else (if y1 = 45 then (if y3 = 0 then ((kSi (kSi γ 8 (t1 + t0)) 10 1)) else ((kSi (kSi γ 8 (t1 + t0)) 10 27))) else (if y1 = 46 then ((kSi (kSi γ 8 (t1 + t0)) 10 23)) else (if y1 = 58 then (if y3 = 0 then ((kSi (kSi γ 8 (t1 + t0)) 10 21)) else ((kSi (kSi γ 8 (t1 + t0)) 10 25))) else (if y1 = 61 then (if y3 = 0 then ((kSi (kSi γ 8 (t1 + t0)) 10 1)) else ((kSi (kSi γ 8 (t1 + t0)) 10 26))) else (if y1 = 123 then ((kSi (kSi γ 8 (t1 + t0)) 10 19)) else (if y1 = 124 then ((kSi (kSi γ 8 (t1 + t0)) 10 24)) else (if y1 = 125 then ((kSi (kSi γ 8 (t1 + t0)) 10 20)) else ((kSi (kSi γ 8 (t1 + t0)) 10 1)))))))))))
def f_Lex_scanSign_j41  (y1 : Int32) (t0 : Int32) (γ : kS) : kS := if t0 = 0 then (f_Lex_scanSign_j56 t0 y1 1 (γ.1 8) γ) else (f_Lex_scanSign_j56 t0 y1 2 (γ.1 8) γ)
def f_Lex_scanSign_j40  (y1 : Int32) (γ : kS) : kS := f_Lex_scanSign_j41 y1 0 γ
def f_Lex_scanSign_j36  (y1 : Int32) (γ : kS) : kS := f_Lex_scanSign_j41 y1 1 γ
def f_Lex_scanSign_j24  (y1 : Int32) (y2 : Int32) (γ : kS) : kS := if y1 = 45 then (if y2 = 62 then (f_Lex_scanSign_j36 y1 γ) else (f_Lex_scanSign_j40 y1 γ)) else (f_Lex_scanSign_j40 y1 γ)
def f_Lex_scanSign_j12  (y1 : Int32) (y2 : Int32) (γ : kS) : kS := if y1 = 61 then (if y2 = 62 then (f_Lex_scanSign_j36 y1 γ) else (f_Lex_scanSign_j24 y1 y2 γ)) else (f_Lex_scanSign_j24 y1 y2 γ)
def f_Lex_scanSign (a1 : Int32) (a2 : Int32) (α : kS) : kS := if a1 = 58 then (if a2 = 61 then (f_Lex_scanSign_j36 a1 α) else (f_Lex_scanSign_j12 a1 a2 α)) else (f_Lex_scanSign_j12 a1 a2 α)
set_option maxHeartbeats 4000000 in
set_option maxRecDepth 100000 in
theorem k_Lex_scanSign {l : Launch} {g : kG} {α : kS} (a1 : Int32) (a2 : Int32)  : kC l g y_Lex_scanSign b_Lex_scanSign 4 none 1 1 [.ref (kad g 4), .int a1, .int a2] α (kQr (some none, f_Lex_scanSign a1 a2 α)) := by
  generalize h : f_Lex_scanSign a1 a2 α = x
  unfold f_Lex_scanSign at h
  refine kc_ofW (by decide) (fun A ad0 p e s m args below meth c S hr hlocks hno hadm hargs E hI => ?_)
  have hx := S.1
  have hb := S.2.1
  have hown := S.2.2.2.1
  have hT := S.2.2.2.2
  subst hargs
  have hl := lv_entry ([.ref (kad g 4), .int a1, .int a2]) (n := 4) (Nat.le_of_ble_eq_true rfl)
  rw [lg_entry_eq]
  generalize (lg_sl ([.ref (kad g 4), .int a1, .int a2]) ++ List.replicate (4 - (lg_sl ([.ref (kad g 4), .int a1, .int a2])).length) Slot.unset).toArray = ls at hl ⊢
  have hl : lv_has ls 4 [(0, .ref (kad g 4)), (1, .int a1), (2, .int a2)] := hl
  have J56 : ∀ (y3 : Int32) (y1 : Int32) (t0 : Int32) (t1 : Int32) (γ : kS) (ad : Nat → Nat) (H : Heap) (locs : List Loc) (cells slots : Nat) (ls : Array Slot), f_Lex_scanSign_j56 y3 y1 t0 t1 γ = x → kI g A s α ad0 γ ad H locs cells slots → lv_has ls 4 [(3, .int y3), (0, .ref (kad g 4)), (1, .int y1)] → W p l e (kR 1 1 α) s m ([.ref (kad g 4), .int a1, .int a2]).toArray below meth c H locs cells slots (vEQ below (kQ g A α ad0 (kQr (some none, x))) ([.ref (kad g 4), .int a1, .int a2]).toArray s A) (F0 m 56 ls [.int t0, .int t1, .ref (kad g 4)]) := by
    intro y3 y1 t0 t1 γ ad H locs cells slots ls h hI hl
    unfold f_Lex_scanSign_j56 at h
    refine lv_iadd hx hb d_Lex_scanSign_56 ?_
    refine kp_Lex_place S E hI vt_239 d_Lex_scanSign_57 (fun H locs hI => ?_)
    refine lv_iload_n hx hb d_Lex_scanSign_60 rfl (lv_at hl 2 rfl) ?_
    by_cases c5 : y1 = 40
    · replace h := Eq.trans (if_pos c5).symm h
      refine lv_lookup (off := 91) (tgt := 152) hx hb d_Lex_scanSign_61 (by decide) (by rw [c5]; decide) (by decide) ?_
      refine lv_aload_n hx hb d_Lex_scanSign_152 rfl (lv_at hl 1 rfl) ?_
      refine lv_bipush (v := 17) hx hb d_Lex_scanSign_153 (by decide) ?_
      refine kp_Lex_kind S E hI vt_240 d_Lex_scanSign_155 (fun H locs hI => ?_)
      refine lv_goto (tgt := 272) hx hb d_Lex_scanSign_158 (by decide) ?_
      exact kc_vret hx hb hr hlocks E hI (by rw [← h]) d_Lex_scanSign_272
    · replace h := Eq.trans (if_neg c5).symm h
      by_cases c6 : y1 = 41
      · replace h := Eq.trans (if_pos c6).symm h
        refine lv_lookup (off := 100) (tgt := 161) hx hb d_Lex_scanSign_61 (by decide) (by rw [c6]; decide) (by decide) ?_
        refine lv_aload_n hx hb d_Lex_scanSign_161 rfl (lv_at hl 1 rfl) ?_
        refine lv_bipush (v := 18) hx hb d_Lex_scanSign_162 (by decide) ?_
        refine kp_Lex_kind S E hI vt_240 d_Lex_scanSign_164 (fun H locs hI => ?_)
        refine lv_goto (tgt := 272) hx hb d_Lex_scanSign_167 (by decide) ?_
        exact kc_vret hx hb hr hlocks E hI (by rw [← h]) d_Lex_scanSign_272
      · replace h := Eq.trans (if_neg c6).symm h
        by_cases c7 : y1 = 44
        · replace h := Eq.trans (if_pos c7).symm h
          refine lv_lookup (off := 127) (tgt := 188) hx hb d_Lex_scanSign_61 (by decide) (by rw [c7]; decide) (by decide) ?_
          refine lv_aload_n hx hb d_Lex_scanSign_188 rfl (lv_at hl 1 rfl) ?_
          refine lv_bipush (v := 22) hx hb d_Lex_scanSign_189 (by decide) ?_
          refine kp_Lex_kind S E hI vt_240 d_Lex_scanSign_191 (fun H locs hI => ?_)
          refine lv_goto (tgt := 272) hx hb d_Lex_scanSign_194 (by decide) ?_
          exact kc_vret hx hb hr hlocks E hI (by rw [← h]) d_Lex_scanSign_272
        · replace h := Eq.trans (if_neg c7).symm h
          by_cases c8 : y1 = 45
          · replace h := Eq.trans (if_pos c8).symm h
            refine lv_lookup (off := 189) (tgt := 250) hx hb d_Lex_scanSign_61 (by decide) (by rw [c8]; decide) (by decide) ?_
            refine lv_aload_n hx hb d_Lex_scanSign_250 rfl (lv_at hl 1 rfl) ?_
            refine lv_iload_n hx hb d_Lex_scanSign_251 rfl (lv_at hl 0 rfl) ?_
            refine lv_if_eq (tgt := 260) hx hb d_Lex_scanSign_252 (by decide) (fun c9 => ?_) (fun c9 => ?_)
            · replace h := Eq.trans (if_pos c9).symm h
              refine lv_iconst (v := 1) hx hb d_Lex_scanSign_260 (by decide) ?_
              refine kp_Lex_kind S E hI vt_240 d_Lex_scanSign_261 (fun H locs hI => ?_)
              refine lv_goto (tgt := 272) hx hb d_Lex_scanSign_264 (by decide) ?_
              exact kc_vret hx hb hr hlocks E hI (by rw [← h]) d_Lex_scanSign_272
            · replace h := Eq.trans (if_neg c9).symm h
              refine lv_bipush (v := 27) hx hb d_Lex_scanSign_255 (by decide) ?_
              refine lv_goto (tgt := 261) hx hb d_Lex_scanSign_257 (by decide) ?_
              refine kp_Lex_kind S E hI vt_240 d_Lex_scanSign_261 (fun H locs hI => ?_)
              refine lv_goto (tgt := 272) hx hb d_Lex_scanSign_264 (by decide) ?_
              exact kc_vret hx hb hr hlocks E hI (by rw [← h]) d_Lex_scanSign_272
          · replace h := Eq.trans (if_neg c8).symm h
            by_cases c10 : y1 = 46
            · replace h := Eq.trans (if_pos c10).symm h
              refine lv_lookup (off := 136) (tgt := 197) hx hb d_Lex_scanSign_61 (by decide) (by rw [c10]; decide) (by decide) ?_
              refine lv_aload_n hx hb d_Lex_scanSign_197 rfl (lv_at hl 1 rfl) ?_
              refine lv_bipush (v := 23) hx hb d_Lex_scanSign_198 (by decide) ?_
              refine kp_Lex_kind S E hI vt_240 d_Lex_scanSign_200 (fun H locs hI => ?_)
              refine lv_goto (tgt := 272) hx hb d_Lex_scanSign_203 (by decide) ?_
              exact kc_vret hx hb hr hlocks E hI (by rw [← h]) d_Lex_scanSign_272
            · replace h := Eq.trans (if_neg c10).symm h
              by_cases c11 : y1 = 58
              · replace h := Eq.trans (if_pos c11).symm h
                refine lv_lookup (off := 154) (tgt := 215) hx hb d_Lex_scanSign_61 (by decide) (by rw [c11]; decide) (by decide) ?_
                refine lv_aload_n hx hb d_Lex_scanSign_215 rfl (lv_at hl 1 rfl) ?_
                refine lv_iload_n hx hb d_Lex_scanSign_216 rfl (lv_at hl 0 rfl) ?_
                refine lv_if_eq (tgt := 225) hx hb d_Lex_scanSign_217 (by decide) (fun c12 => ?_) (fun c12 => ?_)
                · replace h := Eq.trans (if_pos c12).symm h
                  refine lv_bipush (v := 21) hx hb d_Lex_scanSign_225 (by decide) ?_
                  refine kp_Lex_kind S E hI vt_240 d_Lex_scanSign_227 (fun H locs hI => ?_)
                  refine lv_goto (tgt := 272) hx hb d_Lex_scanSign_230 (by decide) ?_
                  exact kc_vret hx hb hr hlocks E hI (by rw [← h]) d_Lex_scanSign_272
                · replace h := Eq.trans (if_neg c12).symm h
                  refine lv_bipush (v := 25) hx hb d_Lex_scanSign_220 (by decide) ?_
                  refine lv_goto (tgt := 227) hx hb d_Lex_scanSign_222 (by decide) ?_
                  refine kp_Lex_kind S E hI vt_240 d_Lex_scanSign_227 (fun H locs hI => ?_)
                  refine lv_goto (tgt := 272) hx hb d_Lex_scanSign_230 (by decide) ?_
                  exact kc_vret hx hb hr hlocks E hI (by rw [← h]) d_Lex_scanSign_272
              · replace h := Eq.trans (if_neg c11).symm h
                by_cases c13 : y1 = 61
                · replace h := Eq.trans (if_pos c13).symm h
                  refine lv_lookup (off := 172) (tgt := 233) hx hb d_Lex_scanSign_61 (by decide) (by rw [c13]; decide) (by decide) ?_
                  refine lv_aload_n hx hb d_Lex_scanSign_233 rfl (lv_at hl 1 rfl) ?_
                  refine lv_iload_n hx hb d_Lex_scanSign_234 rfl (lv_at hl 0 rfl) ?_
                  refine lv_if_eq (tgt := 243) hx hb d_Lex_scanSign_235 (by decide) (fun c14 => ?_) (fun c14 => ?_)
                  · replace h := Eq.trans (if_pos c14).symm h
                    refine lv_iconst (v := 1) hx hb d_Lex_scanSign_243 (by decide) ?_
                    refine kp_Lex_kind S E hI vt_240 d_Lex_scanSign_244 (fun H locs hI => ?_)
                    refine lv_goto (tgt := 272) hx hb d_Lex_scanSign_247 (by decide) ?_
                    exact kc_vret hx hb hr hlocks E hI (by rw [← h]) d_Lex_scanSign_272
                  · replace h := Eq.trans (if_neg c14).symm h
                    refine lv_bipush (v := 26) hx hb d_Lex_scanSign_238 (by decide) ?_
                    refine lv_goto (tgt := 244) hx hb d_Lex_scanSign_240 (by decide) ?_
                    refine kp_Lex_kind S E hI vt_240 d_Lex_scanSign_244 (fun H locs hI => ?_)
                    refine lv_goto (tgt := 272) hx hb d_Lex_scanSign_247 (by decide) ?_
                    exact kc_vret hx hb hr hlocks E hI (by rw [← h]) d_Lex_scanSign_272
                · replace h := Eq.trans (if_neg c13).symm h
                  by_cases c15 : y1 = 123
                  · replace h := Eq.trans (if_pos c15).symm h
                    refine lv_lookup (off := 109) (tgt := 170) hx hb d_Lex_scanSign_61 (by decide) (by rw [c15]; decide) (by decide) ?_
                    refine lv_aload_n hx hb d_Lex_scanSign_170 rfl (lv_at hl 1 rfl) ?_
                    refine lv_bipush (v := 19) hx hb d_Lex_scanSign_171 (by decide) ?_
                    refine kp_Lex_kind S E hI vt_240 d_Lex_scanSign_173 (fun H locs hI => ?_)
                    refine lv_goto (tgt := 272) hx hb d_Lex_scanSign_176 (by decide) ?_
                    exact kc_vret hx hb hr hlocks E hI (by rw [← h]) d_Lex_scanSign_272
                  · replace h := Eq.trans (if_neg c15).symm h
                    by_cases c16 : y1 = 124
                    · replace h := Eq.trans (if_pos c16).symm h
                      refine lv_lookup (off := 145) (tgt := 206) hx hb d_Lex_scanSign_61 (by decide) (by rw [c16]; decide) (by decide) ?_
                      refine lv_aload_n hx hb d_Lex_scanSign_206 rfl (lv_at hl 1 rfl) ?_
                      refine lv_bipush (v := 24) hx hb d_Lex_scanSign_207 (by decide) ?_
                      refine kp_Lex_kind S E hI vt_240 d_Lex_scanSign_209 (fun H locs hI => ?_)
                      refine lv_goto (tgt := 272) hx hb d_Lex_scanSign_212 (by decide) ?_
                      exact kc_vret hx hb hr hlocks E hI (by rw [← h]) d_Lex_scanSign_272
                    · replace h := Eq.trans (if_neg c16).symm h
                      by_cases c17 : y1 = 125
                      · replace h := Eq.trans (if_pos c17).symm h
                        refine lv_lookup (off := 118) (tgt := 179) hx hb d_Lex_scanSign_61 (by decide) (by rw [c17]; decide) (by decide) ?_
                        refine lv_aload_n hx hb d_Lex_scanSign_179 rfl (lv_at hl 1 rfl) ?_
                        refine lv_bipush (v := 20) hx hb d_Lex_scanSign_180 (by decide) ?_
                        refine kp_Lex_kind S E hI vt_240 d_Lex_scanSign_182 (fun H locs hI => ?_)
                        refine lv_goto (tgt := 272) hx hb d_Lex_scanSign_185 (by decide) ?_
                        exact kc_vret hx hb hr hlocks E hI (by rw [← h]) d_Lex_scanSign_272
                      · replace h := Eq.trans (if_neg c17).symm h
                        refine lv_lookup (off := 206) (tgt := 267) hx hb d_Lex_scanSign_61 (by decide) ((lv_osw c5 rfl).trans ((lv_osw c6 rfl).trans ((lv_osw c7 rfl).trans ((lv_osw c8 rfl).trans ((lv_osw c10 rfl).trans ((lv_osw c11 rfl).trans ((lv_osw c13 rfl).trans ((lv_osw c15 rfl).trans ((lv_osw c16 rfl).trans ((lv_osw c17 rfl).trans (rfl))))))))))) (by decide) ?_
                        refine lv_aload_n hx hb d_Lex_scanSign_267 rfl (lv_at hl 1 rfl) ?_
                        refine lv_iconst (v := 1) hx hb d_Lex_scanSign_268 (by decide) ?_
                        refine kp_Lex_kind S E hI vt_240 d_Lex_scanSign_269 (fun H locs hI => ?_)
                        exact kc_vret hx hb hr hlocks E hI (by rw [← h]) d_Lex_scanSign_272
  have J41 : ∀ (y1 : Int32) (t0 : Int32) (γ : kS) (ad : Nat → Nat) (H : Heap) (locs : List Loc) (cells slots : Nat) (ls : Array Slot), f_Lex_scanSign_j41 y1 t0 γ = x → kI g A s α ad0 γ ad H locs cells slots → lv_has ls 4 [(0, .ref (kad g 4)), (1, .int y1)] → W p l e (kR 1 1 α) s m ([.ref (kad g 4), .int a1, .int a2]).toArray below meth c H locs cells slots (vEQ below (kQ g A α ad0 (kQr (some none, x))) ([.ref (kad g 4), .int a1, .int a2]).toArray s A) (F0 m 41 ls [.int t0]) := by
    intro y1 t0 γ ad H locs cells slots ls h hI hl
    unfold f_Lex_scanSign_j41 at h
    refine lv_istore_n (lv' := [(3, .int t0), (0, .ref (kad g 4)), (1, .int y1)]) hx hb d_Lex_scanSign_41 rfl hl (by decide) rfl (fun ls hl => ?_)
    refine lv_aload_n hx hb d_Lex_scanSign_42 rfl (lv_at hl 1 rfl) ?_
    refine lv_dup hx hb d_Lex_scanSign_43 rfl ?_
    refine kf_Lex_place S E hI.1 vt_239 d_Lex_scanSign_44 ?_
    refine lv_iload_n hx hb d_Lex_scanSign_47 rfl (lv_at hl 0 rfl) ?_
    refine lv_if_eq (tgt := 55) hx hb d_Lex_scanSign_48 (by decide) (fun c4 => ?_) (fun c4 => ?_)
    · replace h := Eq.trans (if_pos c4).symm h
      refine lv_iconst (v := 1) hx hb d_Lex_scanSign_55 (by decide) ?_
      exact J56 t0 y1 1 (γ.1 8) _ _ _ _ _ _ _ h hI (lv_sub hl [0, 1, 2] rfl)
    · replace h := Eq.trans (if_neg c4).symm h
      refine lv_iconst (v := 2) hx hb d_Lex_scanSign_51 (by decide) ?_
      refine lv_goto (tgt := 56) hx hb d_Lex_scanSign_52 (by decide) ?_
      exact J56 t0 y1 2 (γ.1 8) _ _ _ _ _ _ _ h hI (lv_sub hl [0, 1, 2] rfl)
  have J40 : ∀ (y1 : Int32) (γ : kS) (ad : Nat → Nat) (H : Heap) (locs : List Loc) (cells slots : Nat) (ls : Array Slot), f_Lex_scanSign_j40 y1 γ = x → kI g A s α ad0 γ ad H locs cells slots → lv_has ls 4 [(0, .ref (kad g 4)), (1, .int y1)] → W p l e (kR 1 1 α) s m ([.ref (kad g 4), .int a1, .int a2]).toArray below meth c H locs cells slots (vEQ below (kQ g A α ad0 (kQr (some none, x))) ([.ref (kad g 4), .int a1, .int a2]).toArray s A) (F0 m 40 ls []) := by
    intro y1 γ ad H locs cells slots ls h hI hl
    unfold f_Lex_scanSign_j40 at h
    refine lv_iconst (v := 0) hx hb d_Lex_scanSign_40 (by decide) ?_
    exact J41 y1 0 _ _ _ _ _ _ _ h hI (lv_sub hl [0, 1] rfl)
  have J36 : ∀ (y1 : Int32) (γ : kS) (ad : Nat → Nat) (H : Heap) (locs : List Loc) (cells slots : Nat) (ls : Array Slot), f_Lex_scanSign_j36 y1 γ = x → kI g A s α ad0 γ ad H locs cells slots → lv_has ls 4 [(0, .ref (kad g 4)), (1, .int y1)] → W p l e (kR 1 1 α) s m ([.ref (kad g 4), .int a1, .int a2]).toArray below meth c H locs cells slots (vEQ below (kQ g A α ad0 (kQr (some none, x))) ([.ref (kad g 4), .int a1, .int a2]).toArray s A) (F0 m 36 ls []) := by
    intro y1 γ ad H locs cells slots ls h hI hl
    unfold f_Lex_scanSign_j36 at h
    refine lv_iconst (v := 1) hx hb d_Lex_scanSign_36 (by decide) ?_
    refine lv_goto (tgt := 41) hx hb d_Lex_scanSign_37 (by decide) ?_
    exact J41 y1 1 _ _ _ _ _ _ _ h hI (lv_sub hl [0, 1] rfl)
  have J24 : ∀ (y1 : Int32) (y2 : Int32) (γ : kS) (ad : Nat → Nat) (H : Heap) (locs : List Loc) (cells slots : Nat) (ls : Array Slot), f_Lex_scanSign_j24 y1 y2 γ = x → kI g A s α ad0 γ ad H locs cells slots → lv_has ls 4 [(0, .ref (kad g 4)), (1, .int y1), (2, .int y2)] → W p l e (kR 1 1 α) s m ([.ref (kad g 4), .int a1, .int a2]).toArray below meth c H locs cells slots (vEQ below (kQ g A α ad0 (kQr (some none, x))) ([.ref (kad g 4), .int a1, .int a2]).toArray s A) (F0 m 24 ls []) := by
    intro y1 y2 γ ad H locs cells slots ls h hI hl
    unfold f_Lex_scanSign_j24 at h
    refine lv_iload_n hx hb d_Lex_scanSign_24 rfl (lv_at hl 1 rfl) ?_
    refine lv_bipush (v := 45) hx hb d_Lex_scanSign_25 (by decide) ?_
    refine lv_icmp_ne (tgt := 40) hx hb d_Lex_scanSign_27 (by decide) (fun c3 => ?_) (fun c3 => ?_)
    · replace h := Eq.trans (if_neg c3).symm h
      exact J40 y1 _ _ _ _ _ _ _ h hI (lv_sub hl [0, 1] rfl)
    · replace h := Eq.trans (if_pos c3).symm h
      refine lv_iload_n hx hb d_Lex_scanSign_30 rfl (lv_at hl 2 rfl) ?_
      refine lv_bipush (v := 62) hx hb d_Lex_scanSign_31 (by decide) ?_
      refine lv_icmp_ne (tgt := 40) hx hb d_Lex_scanSign_33 (by decide) (fun c18 => ?_) (fun c18 => ?_)
      · replace h := Eq.trans (if_neg c18).symm h
        exact J40 y1 _ _ _ _ _ _ _ h hI (lv_sub hl [0, 1] rfl)
      · replace h := Eq.trans (if_pos c18).symm h
        exact J36 y1 _ _ _ _ _ _ _ h hI (lv_sub hl [0, 1] rfl)
  have J12 : ∀ (y1 : Int32) (y2 : Int32) (γ : kS) (ad : Nat → Nat) (H : Heap) (locs : List Loc) (cells slots : Nat) (ls : Array Slot), f_Lex_scanSign_j12 y1 y2 γ = x → kI g A s α ad0 γ ad H locs cells slots → lv_has ls 4 [(0, .ref (kad g 4)), (1, .int y1), (2, .int y2)] → W p l e (kR 1 1 α) s m ([.ref (kad g 4), .int a1, .int a2]).toArray below meth c H locs cells slots (vEQ below (kQ g A α ad0 (kQr (some none, x))) ([.ref (kad g 4), .int a1, .int a2]).toArray s A) (F0 m 12 ls []) := by
    intro y1 y2 γ ad H locs cells slots ls h hI hl
    unfold f_Lex_scanSign_j12 at h
    refine lv_iload_n hx hb d_Lex_scanSign_12 rfl (lv_at hl 1 rfl) ?_
    refine lv_bipush (v := 61) hx hb d_Lex_scanSign_13 (by decide) ?_
    refine lv_icmp_ne (tgt := 24) hx hb d_Lex_scanSign_15 (by decide) (fun c2 => ?_) (fun c2 => ?_)
    · replace h := Eq.trans (if_neg c2).symm h
      exact J24 y1 y2 _ _ _ _ _ _ _ h hI (lv_sub hl [0, 1, 2] rfl)
    · replace h := Eq.trans (if_pos c2).symm h
      refine lv_iload_n hx hb d_Lex_scanSign_18 rfl (lv_at hl 2 rfl) ?_
      refine lv_bipush (v := 62) hx hb d_Lex_scanSign_19 (by decide) ?_
      refine lv_icmp_eq (tgt := 36) hx hb d_Lex_scanSign_21 (by decide) (fun c19 => ?_) (fun c19 => ?_)
      · replace h := Eq.trans (if_pos c19).symm h
        exact J36 y1 _ _ _ _ _ _ _ h hI (lv_sub hl [0, 1] rfl)
      · replace h := Eq.trans (if_neg c19).symm h
        exact J24 y1 y2 _ _ _ _ _ _ _ h hI (lv_sub hl [0, 1, 2] rfl)
  refine lv_iload_n hx hb d_Lex_scanSign_0 rfl (lv_at hl 1 rfl) ?_
  refine lv_bipush (v := 58) hx hb d_Lex_scanSign_1 (by decide) ?_
  refine lv_icmp_ne (tgt := 12) hx hb d_Lex_scanSign_3 (by decide) (fun c1 => ?_) (fun c1 => ?_)
  · replace h := Eq.trans (if_neg c1).symm h
    exact J12 a1 a2 _ _ _ _ _ _ _ h hI (lv_sub hl [0, 1, 2] rfl)
  · replace h := Eq.trans (if_pos c1).symm h
    refine lv_iload_n hx hb d_Lex_scanSign_6 rfl (lv_at hl 2 rfl) ?_
    refine lv_bipush (v := 61) hx hb d_Lex_scanSign_7 (by decide) ?_
    refine lv_icmp_eq (tgt := 36) hx hb d_Lex_scanSign_9 (by decide) (fun c20 => ?_) (fun c20 => ?_)
    · replace h := Eq.trans (if_pos c20).symm h
      exact J36 a1 _ _ _ _ _ _ _ h hI (lv_sub hl [0, 1] rfl)
    · replace h := Eq.trans (if_neg c20).symm h
      exact J12 a1 a2 _ _ _ _ _ _ _ h hI (lv_sub hl [0, 1, 2] rfl)
theorem kw_Lex_70 : kWv "FamilyKernel$Lexer" 70 "FamilyKernel$Lexer" y_Lex_skip b_Lex_skip 3 none 0 := ⟨vt_261, vt_262, vt_263, vt_33, vt_264, by decide, by decide, by decide +kernel⟩
theorem kw_Lex_90 : kWv "FamilyKernel$Lexer" 90 "FamilyKernel$Lexer" y_Lex_scanSign b_Lex_scanSign 4 none 2 := ⟨vt_287, vt_288, vt_289, vt_33, vt_290, by decide, by decide, by decide +kernel⟩
theorem kw_Lex_87 : kWv "FamilyKernel$Lexer" 87 "FamilyKernel$Lexer" y_Lex_scanNumber b_Lex_scanNumber 2 none 0 := ⟨vt_283, vt_284, vt_285, vt_33, vt_286, by decide, by decide, by decide +kernel⟩
theorem kw_Lex_81 : kWv "FamilyKernel$Lexer" 81 "FamilyKernel$Lexer" y_Lex_scanWord b_Lex_scanWord 2 none 0 := ⟨vt_276, vt_277, vt_278, vt_33, vt_279, by decide, by decide, by decide +kernel⟩
def f_Lex_scan (N : Nat)  (α : kS) : Option (kO × kS) := kBv (f_Lex_skip N α) fun α1 => (if (α1.1 8) < (fR_size (kSi (kSi α1 11 (α1.1 8)) 12 0) 0) then (if (f_Lex_isLetter (fR_at (kSi (kSi α1 11 (α1.1 8)) 12 0) 0 (α1.1 8)) (kSi (kSi α1 11 (α1.1 8)) 12 0)) = 0 then (if (f_Lex_isDigit (fR_at (kSi (kSi α1 11 (α1.1 8)) 12 0) 0 (α1.1 8)) (kSi (kSi α1 11 (α1.1 8)) 12 0)) = 0 then (some (some none, (f_Lex_scanSign (fR_at (kSi (kSi α1 11 (α1.1 8)) 12 0) 0 (α1.1 8)) (fR_at (kSi (kSi α1 11 (α1.1 8)) 12 0) 0 ((α1.1 8) + 1)) (kSi (kSi α1 11 (α1.1 8)) 12 0)))) else (kBv (f_Lex_scanNumber N (kSi (kSi α1 11 (α1.1 8)) 12 0)) fun α6 => (some (some none, α6)))) else (kBv (f_Lex_scanWord N (kSi (kSi α1 11 (α1.1 8)) 12 0)) fun α8 => (some (some none, α8)))) else (some (some none, (kSi (kSi (kSi α1 11 (α1.1 8)) 12 0) 10 0))))
set_option maxHeartbeats 4000000 in
set_option maxRecDepth 100000 in
theorem k_Lex_scan {l : Launch} {g : kG} {α : kS} (hfl : kFl l) (N : Nat)   : ∀ x, f_Lex_scan N α = some x → kC l g y_Lex_scan b_Lex_scan 2 none 14 385 [.ref (kad g 4)] α (kQr x) := by
  intro x h
  unfold f_Lex_scan at h
  refine kc_ofW (by decide) (fun A ad0 p e s m args below meth c S hr hlocks hno hadm hargs E hI => ?_)
  have hx := S.1
  have hb := S.2.1
  have hown := S.2.2.2.1
  have hT := S.2.2.2.2
  subst hargs
  have hl := lv_entry ([.ref (kad g 4)]) (n := 2) (Nat.le_of_ble_eq_true rfl)
  rw [lg_entry_eq]
  generalize (lg_sl ([.ref (kad g 4)]) ++ List.replicate (2 - (lg_sl ([.ref (kad g 4)])).length) Slot.unset).toArray = ls at hl ⊢
  have hl : lv_has ls 2 [(0, .ref (kad g 4))] := hl
  refine lv_aload_n hx hb d_Lex_scan_0 rfl (lv_at hl 0 rfl) ?_
  refine kg_cV (As := []) (rest := []) h (k_Lex_skip (l := l) (g := g) (α := α) hfl N) S hlocks hno E hI kw_Lex_70 ⟨Nat.le_of_ble_eq_true rfl, Nat.le_of_ble_eq_true rfl⟩ (kv_Lex E hI.1) rfl hl.1 rfl (Nat.le_of_ble_eq_true rfl) d_Lex_scan_1 (fun α1 ad H locs cells slots e2 h hRm hI => ?_)
  refine lv_aload_n hx hb d_Lex_scan_4 rfl (lv_at hl 0 rfl) ?_
  refine lv_aload_n hx hb d_Lex_scan_5 rfl (lv_at hl 0 rfl) ?_
  refine kf_Lex_place S E hI.1 vt_239 d_Lex_scan_6 ?_
  refine kp_Lex_start S E hI vt_246 d_Lex_scan_9 (fun H locs hI => ?_)
  refine lv_aload_n hx hb d_Lex_scan_12 rfl (lv_at hl 0 rfl) ?_
  refine lv_iconst (v := 0) hx hb d_Lex_scan_13 (by decide) ?_
  refine kp_Lex_length S E hI vt_247 d_Lex_scan_14 (fun H locs hI => ?_)
  refine lv_aload_n hx hb d_Lex_scan_17 rfl (lv_at hl 0 rfl) ?_
  refine kf_Lex_text S E hI.1 vt_108 d_Lex_scan_18 ?_
  refine lv_aload_n hx hb d_Lex_scan_21 rfl (lv_at hl 0 rfl) ?_
  refine kf_Lex_place S E hI.1 vt_239 d_Lex_scan_22 ?_
  refine kg_p (As := [.int (α1.1 8)]) (rest := []) (k_Row_at (l := l) (g := g) (α := (kSi (kSi α1 11 (α1.1 8)) 12 0)) (r := 0) (by decide) (α1.1 8)) S E hI.1 kw_Lex_58 ⟨Nat.le_of_ble_eq_true rfl, Nat.le_of_ble_eq_true rfl⟩ hI.room (kv_Row (r := 0) (by decide) E hI.1) rfl hl.1 rfl (Nat.le_of_ble_eq_true rfl) d_Lex_scan_25 rfl ?_
  refine lv_istore_n (lv' := [(1, .int (fR_at (kSi (kSi α1 11 (α1.1 8)) 12 0) 0 (α1.1 8))), (0, .ref (kad g 4))]) hx hb d_Lex_scan_28 rfl hl (by decide) rfl (fun ls hl => ?_)
  refine lv_aload_n hx hb d_Lex_scan_29 rfl (lv_at hl 1 rfl) ?_
  refine kf_Lex_place S E hI.1 vt_239 d_Lex_scan_30 ?_
  refine lv_aload_n hx hb d_Lex_scan_33 rfl (lv_at hl 1 rfl) ?_
  refine kf_Lex_text S E hI.1 vt_108 d_Lex_scan_34 ?_
  refine kg_p (As := []) (rest := [.int (α1.1 8)]) (k_Row_size (l := l) (g := g) (α := (kSi (kSi α1 11 (α1.1 8)) 12 0)) (r := 0) (by decide)) S E hI.1 kw_Lex_73 ⟨Nat.le_of_ble_eq_true rfl, Nat.le_of_ble_eq_true rfl⟩ hI.room (kv_Row (r := 0) (by decide) E hI.1) rfl hl.1 rfl (Nat.le_of_ble_eq_true rfl) d_Lex_scan_37 rfl ?_
  refine lv_icmp_lt (tgt := 51) hx hb d_Lex_scan_40 (by decide) (fun c3 => ?_) (fun c3 => ?_)
  · replace h := Eq.trans (if_pos c3).symm h
    refine lv_iload_n hx hb d_Lex_scan_51 rfl (lv_at hl 0 rfl) ?_
    refine kg_pS (As := [.int (fR_at (kSi (kSi α1 11 (α1.1 8)) 12 0) 0 (α1.1 8))]) (rest := []) (k_Lex_isLetter (l := l) (g := g) (α := (kSi (kSi α1 11 (α1.1 8)) 12 0)) (fR_at (kSi (kSi α1 11 (α1.1 8)) 12 0) 0 (α1.1 8))) S E hI.1 kw_Lex_77 ⟨Nat.le_of_ble_eq_true rfl, Nat.le_of_ble_eq_true rfl⟩ hI.room rfl hl.1 rfl (Nat.le_of_ble_eq_true rfl) d_Lex_scan_52 ?_
    refine lv_if_eq (tgt := 65) hx hb d_Lex_scan_55 (by decide) (fun c4 => ?_) (fun c4 => ?_)
    · replace h := Eq.trans (if_pos c4).symm h
      refine lv_iload_n hx hb d_Lex_scan_65 rfl (lv_at hl 0 rfl) ?_
      refine kg_pS (As := [.int (fR_at (kSi (kSi α1 11 (α1.1 8)) 12 0) 0 (α1.1 8))]) (rest := []) (k_Lex_isDigit (l := l) (g := g) (α := (kSi (kSi α1 11 (α1.1 8)) 12 0)) (fR_at (kSi (kSi α1 11 (α1.1 8)) 12 0) 0 (α1.1 8))) S E hI.1 kw_Lex_84 ⟨Nat.le_of_ble_eq_true rfl, Nat.le_of_ble_eq_true rfl⟩ hI.room rfl hl.1 rfl (Nat.le_of_ble_eq_true rfl) d_Lex_scan_66 ?_
      refine lv_if_eq (tgt := 79) hx hb d_Lex_scan_69 (by decide) (fun c5 => ?_) (fun c5 => ?_)
      · replace h := Eq.trans (if_pos c5).symm h
        refine lv_aload_n hx hb d_Lex_scan_79 rfl (lv_at hl 1 rfl) ?_
        refine lv_iload_n hx hb d_Lex_scan_80 rfl (lv_at hl 0 rfl) ?_
        refine lv_aload_n hx hb d_Lex_scan_81 rfl (lv_at hl 1 rfl) ?_
        refine kf_Lex_text S E hI.1 vt_108 d_Lex_scan_82 ?_
        refine lv_aload_n hx hb d_Lex_scan_85 rfl (lv_at hl 1 rfl) ?_
        refine kf_Lex_place S E hI.1 vt_239 d_Lex_scan_86 ?_
        refine lv_iconst (v := 1) hx hb d_Lex_scan_89 (by decide) ?_
        refine lv_iadd hx hb d_Lex_scan_90 ?_
        refine kg_p (As := [.int ((α1.1 8) + 1)]) (rest := [.int (fR_at (kSi (kSi α1 11 (α1.1 8)) 12 0) 0 (α1.1 8)), .ref (kad g 4)]) (k_Row_at (l := l) (g := g) (α := (kSi (kSi α1 11 (α1.1 8)) 12 0)) (r := 0) (by decide) ((α1.1 8) + 1)) S E hI.1 kw_Lex_58 ⟨Nat.le_of_ble_eq_true rfl, Nat.le_of_ble_eq_true rfl⟩ hI.room (kv_Row (r := 0) (by decide) E hI.1) rfl hl.1 rfl (Nat.le_of_ble_eq_true rfl) d_Lex_scan_91 rfl ?_
        refine kg_tV (As := [.int (fR_at (kSi (kSi α1 11 (α1.1 8)) 12 0) 0 (α1.1 8)), .int (fR_at (kSi (kSi α1 11 (α1.1 8)) 12 0) 0 ((α1.1 8) + 1))]) (rest := []) (k_Lex_scanSign (l := l) (g := g) (α := (kSi (kSi α1 11 (α1.1 8)) 12 0)) (fR_at (kSi (kSi α1 11 (α1.1 8)) 12 0) 0 (α1.1 8)) (fR_at (kSi (kSi α1 11 (α1.1 8)) 12 0) 0 ((α1.1 8) + 1))) S hlocks hno E hI kw_Lex_90 ⟨Nat.le_of_ble_eq_true rfl, Nat.le_of_ble_eq_true rfl⟩ (kv_Lex E hI.1) rfl hl.1 rfl (Nat.le_of_ble_eq_true rfl) d_Lex_scan_94 (fun ad H locs cells slots hRm hI => ?_)
        exact kc_vret hx hb hr hlocks E hI h d_Lex_scan_97
      · replace h := Eq.trans (if_neg c5).symm h
        refine lv_aload_n hx hb d_Lex_scan_72 rfl (lv_at hl 1 rfl) ?_
        refine kg_cV (As := []) (rest := []) h (k_Lex_scanNumber (l := l) (g := g) (α := (kSi (kSi α1 11 (α1.1 8)) 12 0)) hfl N) S hlocks hno E hI kw_Lex_87 ⟨Nat.le_of_ble_eq_true rfl, Nat.le_of_ble_eq_true rfl⟩ (kv_Lex E hI.1) rfl hl.1 rfl (Nat.le_of_ble_eq_true rfl) d_Lex_scan_73 (fun α6 ad H locs cells slots e7 h hRm hI => ?_)
        refine lv_goto (tgt := 97) hx hb d_Lex_scan_76 (by decide) ?_
        exact kc_vret hx hb hr hlocks E hI h d_Lex_scan_97
    · replace h := Eq.trans (if_neg c4).symm h
      refine lv_aload_n hx hb d_Lex_scan_58 rfl (lv_at hl 1 rfl) ?_
      refine kg_cV (As := []) (rest := []) h (k_Lex_scanWord (l := l) (g := g) (α := (kSi (kSi α1 11 (α1.1 8)) 12 0)) hfl N) S hlocks hno E hI kw_Lex_81 ⟨Nat.le_of_ble_eq_true rfl, Nat.le_of_ble_eq_true rfl⟩ (kv_Lex E hI.1) rfl hl.1 rfl (Nat.le_of_ble_eq_true rfl) d_Lex_scan_59 (fun α8 ad H locs cells slots e9 h hRm hI => ?_)
      refine lv_goto (tgt := 97) hx hb d_Lex_scan_62 (by decide) ?_
      exact kc_vret hx hb hr hlocks E hI h d_Lex_scan_97
  · replace h := Eq.trans (if_neg c3).symm h
    refine lv_aload_n hx hb d_Lex_scan_43 rfl (lv_at hl 1 rfl) ?_
    refine lv_iconst (v := 0) hx hb d_Lex_scan_44 (by decide) ?_
    refine kp_Lex_kind S E hI vt_240 d_Lex_scan_45 (fun H locs hI => ?_)
    refine lv_goto (tgt := 97) hx hb d_Lex_scan_48 (by decide) ?_
    exact kc_vret hx hb hr hlocks E hI h d_Lex_scan_97
def f_Lex_named (a1 : Int32) (a2 : Int32) (α : kS) : Int32 := ((a1 * 32) + a2)
set_option maxHeartbeats 4000000 in
set_option maxRecDepth 100000 in
theorem k_Lex_named {l : Launch} {g : kG} {α : kS} (a1 : Int32) (a2 : Int32)  : kV l g y_Lex_named b_Lex_named 2 (some .int) 1 1 [.int a1, .int a2] α (f_Lex_named a1 a2 α) := by
  generalize h : f_Lex_named a1 a2 α = x
  unfold f_Lex_named at h
  refine kv_ofW (by decide) (fun A ad p e s m args below meth c S hr hlocks hargs E hJ => ?_)
  have hx := S.1
  have hb := S.2.1
  have hown := S.2.2.2.1
  have hT := S.2.2.2.2
  subst hargs
  have hl := lv_entry ([.int a1, .int a2]) (n := 2) (Nat.le_of_ble_eq_true rfl)
  rw [lg_entry_eq]
  generalize (lg_sl ([.int a1, .int a2]) ++ List.replicate (2 - (lg_sl ([.int a1, .int a2])).length) Slot.unset).toArray = ls at hl ⊢
  have hl : lv_has ls 2 [(0, .int a1), (1, .int a2)] := hl
  refine lv_iload_n hx hb d_Lex_named_0 rfl (lv_at hl 0 rfl) ?_
  refine lv_bipush (v := 32) hx hb d_Lex_named_1 (by decide) ?_
  refine lv_imul hx hb d_Lex_named_3 ?_
  refine lv_iload_n hx hb d_Lex_named_4 rfl (lv_at hl 1 rfl) ?_
  refine lv_iadd hx hb d_Lex_named_5 ?_
  exact kv_iret (w := ((a1 * 32) + a2)) hx hb hr rfl hlocks h d_Lex_named_6
def f_Lex_advance  (α : kS) : kS := (kSi (kSi (kSi (kSi α 9 ((α.1 9) + 1)) 10 ((fR_at (kSi α 9 ((α.1 9) + 1)) 7 ((α.1 9) + 1)) - (fR_at (kSi α 9 ((α.1 9) + 1)) 7 ((α.1 9) + 1)) / 32 * 32)) 12 (((fR_at (kSi α 9 ((α.1 9) + 1)) 7 ((α.1 9) + 1)) / 32) - ((fR_at (kSi α 9 ((α.1 9) + 1)) 7 ((α.1 9) + 1)) / 32) / 32 * 32)) 11 (((fR_at (kSi α 9 ((α.1 9) + 1)) 7 ((α.1 9) + 1)) / 32) / 32))
set_option maxHeartbeats 4000000 in
set_option maxRecDepth 100000 in
theorem k_Lex_advance {l : Launch} {g : kG} {α : kS}   : kC l g y_Lex_advance b_Lex_advance 2 none 11 321 [.ref (kad g 4)] α (kQr (some none, f_Lex_advance α)) := by
  generalize h : f_Lex_advance α = x
  unfold f_Lex_advance at h
  refine kc_ofW (by decide) (fun A ad0 p e s m args below meth c S hr hlocks hno hadm hargs E hI => ?_)
  have hx := S.1
  have hb := S.2.1
  have hown := S.2.2.2.1
  have hT := S.2.2.2.2
  subst hargs
  have hl := lv_entry ([.ref (kad g 4)]) (n := 2) (Nat.le_of_ble_eq_true rfl)
  rw [lg_entry_eq]
  generalize (lg_sl ([.ref (kad g 4)]) ++ List.replicate (2 - (lg_sl ([.ref (kad g 4)])).length) Slot.unset).toArray = ls at hl ⊢
  have hl : lv_has ls 2 [(0, .ref (kad g 4))] := hl
  refine lv_aload_n hx hb d_Lex_advance_0 rfl (lv_at hl 0 rfl) ?_
  refine lv_dup hx hb d_Lex_advance_1 rfl ?_
  refine kf_Lex_at S E hI.1 vt_255 d_Lex_advance_2 ?_
  refine lv_iconst (v := 1) hx hb d_Lex_advance_5 (by decide) ?_
  refine lv_iadd hx hb d_Lex_advance_6 ?_
  refine kp_Lex_at S E hI vt_255 d_Lex_advance_7 (fun H locs hI => ?_)
  refine lv_aload_n hx hb d_Lex_advance_10 rfl (lv_at hl 0 rfl) ?_
  refine kf_Lex_tokens S E hI.1 vt_112 d_Lex_advance_11 ?_
  refine lv_aload_n hx hb d_Lex_advance_14 rfl (lv_at hl 0 rfl) ?_
  refine kf_Lex_at S E hI.1 vt_255 d_Lex_advance_15 ?_
  refine kg_p (As := [.int ((α.1 9) + 1)]) (rest := []) (k_Row_at (l := l) (g := g) (α := (kSi α 9 ((α.1 9) + 1))) (r := 7) (by decide) ((α.1 9) + 1)) S E hI.1 kw_Lex_58 ⟨Nat.le_of_ble_eq_true rfl, Nat.le_of_ble_eq_true rfl⟩ hI.room (kv_Row (r := 7) (by decide) E hI.1) rfl hl.1 rfl (Nat.le_of_ble_eq_true rfl) d_Lex_advance_18 rfl ?_
  refine lv_istore_n (lv' := [(1, .int (fR_at (kSi α 9 ((α.1 9) + 1)) 7 ((α.1 9) + 1))), (0, .ref (kad g 4))]) hx hb d_Lex_advance_21 rfl hl (by decide) rfl (fun ls hl => ?_)
  refine lv_aload_n hx hb d_Lex_advance_22 rfl (lv_at hl 1 rfl) ?_
  refine lv_iload_n hx hb d_Lex_advance_23 rfl (lv_at hl 0 rfl) ?_
  refine lv_bipush (v := 32) hx hb d_Lex_advance_24 (by decide) ?_
  refine lv_irem hx hb d_Lex_advance_26 (by decide) ?_
  refine kp_Lex_kind S E hI vt_240 d_Lex_advance_27 (fun H locs hI => ?_)
  refine lv_aload_n hx hb d_Lex_advance_30 rfl (lv_at hl 1 rfl) ?_
  refine lv_iload_n hx hb d_Lex_advance_31 rfl (lv_at hl 0 rfl) ?_
  refine lv_bipush (v := 32) hx hb d_Lex_advance_32 (by decide) ?_
  refine lv_idiv hx hb d_Lex_advance_34 (by decide) ?_
  refine lv_bipush (v := 32) hx hb d_Lex_advance_35 (by decide) ?_
  refine lv_irem hx hb d_Lex_advance_37 (by decide) ?_
  refine kp_Lex_length S E hI vt_247 d_Lex_advance_38 (fun H locs hI => ?_)
  refine lv_aload_n hx hb d_Lex_advance_41 rfl (lv_at hl 1 rfl) ?_
  refine lv_iload_n hx hb d_Lex_advance_42 rfl (lv_at hl 0 rfl) ?_
  refine lv_bipush (v := 32) hx hb d_Lex_advance_43 (by decide) ?_
  refine lv_idiv hx hb d_Lex_advance_45 (by decide) ?_
  refine lv_bipush (v := 32) hx hb d_Lex_advance_46 (by decide) ?_
  refine lv_idiv hx hb d_Lex_advance_48 (by decide) ?_
  refine kp_Lex_start S E hI vt_246 d_Lex_advance_49 (fun H locs hI => ?_)
  exact kc_vret hx hb hr hlocks E hI (by rw [← h]) d_Lex_advance_52
theorem kw_Lex_24 : kWv "FamilyKernel$Lexer" 24 "FamilyKernel$Row" y_Row_cut b_Row_cut 2 none 1 := ⟨vt_238, vt_232, vt_233, vt_4, vt_234, by decide, by decide, by decide +kernel⟩
theorem kw_Lex_55 : kWv "FamilyKernel$Lexer" 55 "FamilyKernel$Lexer" y_Lex_advance b_Lex_advance 2 none 0 := ⟨vt_256, vt_257, vt_258, vt_33, vt_259, by decide, by decide, by decide +kernel⟩
theorem kw_Lex_36 : kWv "FamilyKernel$Lexer" 36 "FamilyKernel$Lexer" y_Lex_scan b_Lex_scan 2 none 0 := ⟨vt_242, vt_243, vt_244, vt_33, vt_245, by decide, by decide, by decide +kernel⟩
theorem kw_Lex_45 : kWs "FamilyKernel$Lexer" 45 y_Lex_named b_Lex_named 2 (some .int) 2 := ⟨vt_248, vt_249, vt_33, vt_250, by decide, by decide, by decide +kernel⟩
theorem kw_Lex_49 : kWv "FamilyKernel$Lexer" 49 "FamilyKernel$Row" y_Row_push b_Row_push 2 none 1 := ⟨vt_251, vt_252, vt_253, vt_4, vt_254, by decide, by decide, by decide +kernel⟩
def f_Lex_begin_j69 (N : Nat)  (γ : kS) : Option (kO × kS) := some (some none, (f_Lex_advance (kSi γ 9 (-1))))
def f_Lex_begin_20 (N : Nat)  : Nat → Int32 → kS → Option (kO × kS)
  | 0, _, _ => none
  | n + 1, x1, β => if 65536 < x1 then (f_Lex_begin_j69 N  β) else (if (β.1 10) = 0 then (f_Lex_begin_j69 N  β) else (kBv (f_Lex_scan N β) fun α3 => (kBv (fR_push α3 7 (((f_Lex_named (α3.1 11) (α3.1 12) α3) * 32) + (α3.1 10))) fun α5 => (f_Lex_begin_20 N n (x1 + 1) α5))))
def f_Lex_begin (N : Nat)  (α : kS) : Option (kO × kS) := f_Lex_begin_20 N N 0 (kSi (kSi (fR_cut α 7 0) 8 0) 10 1)
set_option maxHeartbeats 4000000 in
set_option maxRecDepth 100000 in
theorem k_Lex_begin {l : Launch} {g : kG} {α : kS} (hfl : kFl l) (N : Nat)   : ∀ x, f_Lex_begin N α = some x → kC l g y_Lex_begin b_Lex_begin 2 none 31 921 [.ref (kad g 4)] α (kQr x) := by
  intro x h
  unfold f_Lex_begin at h
  refine kc_ofW (by decide) (fun A ad0 p e s m args below meth c S hr hlocks hno hadm hargs E hI => ?_)
  have hx := S.1
  have hb := S.2.1
  have hown := S.2.2.2.1
  have hT := S.2.2.2.2
  subst hargs
  have hl := lv_entry ([.ref (kad g 4)]) (n := 2) (Nat.le_of_ble_eq_true rfl)
  rw [lg_entry_eq]
  generalize (lg_sl ([.ref (kad g 4)]) ++ List.replicate (2 - (lg_sl ([.ref (kad g 4)])).length) Slot.unset).toArray = ls at hl ⊢
  have hl : lv_has ls 2 [(0, .ref (kad g 4))] := hl
  refine lv_aload_n hx hb d_Lex_begin_0 rfl (lv_at hl 0 rfl) ?_
  refine kf_Lex_tokens S E hI.1 vt_112 d_Lex_begin_1 ?_
  refine lv_iconst (v := 0) hx hb d_Lex_begin_4 (by decide) ?_
  refine kg_tV (As := [.int 0]) (rest := []) (k_Row_cut (l := l) (g := g) (α := α) (r := 7) (by decide) 0) S hlocks hno E hI kw_Lex_24 ⟨Nat.le_of_ble_eq_true rfl, Nat.le_of_ble_eq_true rfl⟩ (kv_Row (r := 7) (by decide) E hI.1) rfl hl.1 rfl (Nat.le_of_ble_eq_true rfl) d_Lex_begin_5 (fun ad H locs cells slots hRm hI => ?_)
  refine lv_aload_n hx hb d_Lex_begin_8 rfl (lv_at hl 0 rfl) ?_
  refine lv_iconst (v := 0) hx hb d_Lex_begin_9 (by decide) ?_
  refine kp_Lex_place S E hI vt_239 d_Lex_begin_10 (fun H locs hI => ?_)
  refine lv_aload_n hx hb d_Lex_begin_13 rfl (lv_at hl 0 rfl) ?_
  refine lv_iconst (v := 1) hx hb d_Lex_begin_14 (by decide) ?_
  refine kp_Lex_kind S E hI vt_240 d_Lex_begin_15 (fun H locs hI => ?_)
  refine lv_iconst (v := 0) hx hb d_Lex_begin_18 (by decide) ?_
  refine lv_istore_n (lv' := [(1, .int 0), (0, .ref (kad g 4))]) hx hb d_Lex_begin_19 rfl hl (by decide) rfl (fun ls hl => ?_)
  have L20 : ∀ (n20 : Nat) (x1 : Int32) (β : kS) (ad : Nat → Nat) (H : Heap) (locs : List Loc) (cells slots : Nat) (ls : Array Slot), f_Lex_begin_20 N n20 x1 β = some x → kI g A s α ad0 β ad H locs cells slots → lv_has ls 2 [(1, .int x1), (0, .ref (kad g 4))] → W p l e (kR 31 921 α) s m ([.ref (kad g 4)]).toArray below meth c H locs cells slots (vEQ below (kQ g A α ad0 (kQr x)) ([.ref (kad g 4)]).toArray s A) (F0 m 20 ls []) := by
    intro n20
    induction n20 with
    | zero => intro x1 β ad H locs cells slots ls h hI hl; rw [f_Lex_begin_20] at h; cases h
    | succ n20 ih20 =>
      intro x1 β ad H locs cells slots ls h hI hl
      rw [f_Lex_begin_20] at h
      have J69 : ∀ (γ : kS) (ad : Nat → Nat) (H : Heap) (locs : List Loc) (cells slots : Nat) (ls : Array Slot), f_Lex_begin_j69 N γ = some x → kI g A s α ad0 γ ad H locs cells slots → lv_has ls 2 [(0, .ref (kad g 4))] → W p l e (kR 31 921 α) s m ([.ref (kad g 4)]).toArray below meth c H locs cells slots (vEQ below (kQ g A α ad0 (kQr x)) ([.ref (kad g 4)]).toArray s A) (F0 m 69 ls []) := by
        intro  γ ad H locs cells slots ls h hI hl
        unfold f_Lex_begin_j69 at h
        refine lv_aload_n hx hb d_Lex_begin_69 rfl (lv_at hl 0 rfl) ?_
        refine lv_iconst (v := (-1)) hx hb d_Lex_begin_70 (by decide) ?_
        refine kp_Lex_at S E hI vt_255 d_Lex_begin_71 (fun H locs hI => ?_)
        refine lv_aload_n hx hb d_Lex_begin_74 rfl (lv_at hl 0 rfl) ?_
        refine kg_tV (As := []) (rest := []) (k_Lex_advance (l := l) (g := g) (α := (kSi γ 9 (-1))) ) S hlocks hno E hI kw_Lex_55 ⟨Nat.le_of_ble_eq_true rfl, Nat.le_of_ble_eq_true rfl⟩ (kv_Lex E hI.1) rfl hl.1 rfl (Nat.le_of_ble_eq_true rfl) d_Lex_begin_75 (fun ad H locs cells slots hRm hI => ?_)
        exact kc_vret hx hb hr hlocks E hI h d_Lex_begin_78
      refine lv_iload_n hx hb d_Lex_begin_20 rfl (lv_at hl 0 rfl) ?_
      refine lv_ldc (v := 65536) hx hb hown (hT _ vt_241) d_Lex_begin_21 ?_
      refine lv_icmp_gt (tgt := 69) hx hb d_Lex_begin_23 (by decide) (fun c1 => ?_) (fun c1 => ?_)
      · replace h := Eq.trans (if_pos c1).symm h
        exact J69  _ _ _ _ _ _ _ h hI (lv_sub hl [1] rfl)
      · replace h := Eq.trans (if_neg c1).symm h
        refine lv_aload_n hx hb d_Lex_begin_26 rfl (lv_at hl 1 rfl) ?_
        refine kf_Lex_kind S E hI.1 vt_240 d_Lex_begin_27 ?_
        refine lv_if_eq (tgt := 69) hx hb d_Lex_begin_30 (by decide) (fun c2 => ?_) (fun c2 => ?_)
        · replace h := Eq.trans (if_pos c2).symm h
          exact J69  _ _ _ _ _ _ _ h hI (lv_sub hl [1] rfl)
        · replace h := Eq.trans (if_neg c2).symm h
          refine lv_aload_n hx hb d_Lex_begin_33 rfl (lv_at hl 1 rfl) ?_
          refine kg_cV (As := []) (rest := []) h (k_Lex_scan (l := l) (g := g) (α := β) hfl N) S hlocks hno E hI kw_Lex_36 ⟨Nat.le_of_ble_eq_true rfl, Nat.le_of_ble_eq_true rfl⟩ (kv_Lex E hI.1) rfl hl.1 rfl (Nat.le_of_ble_eq_true rfl) d_Lex_begin_34 (fun α3 ad H locs cells slots e4 h hRm hI => ?_)
          refine lv_aload_n hx hb d_Lex_begin_37 rfl (lv_at hl 1 rfl) ?_
          refine kf_Lex_tokens S E hI.1 vt_112 d_Lex_begin_38 ?_
          refine lv_aload_n hx hb d_Lex_begin_41 rfl (lv_at hl 1 rfl) ?_
          refine kf_Lex_start S E hI.1 vt_246 d_Lex_begin_42 ?_
          refine lv_aload_n hx hb d_Lex_begin_45 rfl (lv_at hl 1 rfl) ?_
          refine kf_Lex_length S E hI.1 vt_247 d_Lex_begin_46 ?_
          refine kg_pS (As := [.int (α3.1 11), .int (α3.1 12)]) (rest := [.ref (kad g (11 + 7))]) (k_Lex_named (l := l) (g := g) (α := α3) (α3.1 11) (α3.1 12)) S E hI.1 kw_Lex_45 ⟨Nat.le_of_ble_eq_true rfl, Nat.le_of_ble_eq_true rfl⟩ hI.room rfl hl.1 rfl (Nat.le_of_ble_eq_true rfl) d_Lex_begin_49 ?_
          refine lv_bipush (v := 32) hx hb d_Lex_begin_52 (by decide) ?_
          refine lv_imul hx hb d_Lex_begin_54 ?_
          refine lv_aload_n hx hb d_Lex_begin_55 rfl (lv_at hl 1 rfl) ?_
          refine kf_Lex_kind S E hI.1 vt_240 d_Lex_begin_56 ?_
          refine lv_iadd hx hb d_Lex_begin_59 ?_
          refine kg_cV (As := [.int (((f_Lex_named (α3.1 11) (α3.1 12) α3) * 32) + (α3.1 10))]) (rest := []) h (k_Row_push (l := l) (g := g) (α := α3) (r := 7) (by decide) (((f_Lex_named (α3.1 11) (α3.1 12) α3) * 32) + (α3.1 10))) S hlocks hno E hI kw_Lex_49 ⟨Nat.le_of_ble_eq_true rfl, Nat.le_of_ble_eq_true rfl⟩ (kv_Row (r := 7) (by decide) E hI.1) rfl hl.1 rfl (Nat.le_of_ble_eq_true rfl) d_Lex_begin_60 (fun α5 ad H locs cells slots e6 h hRm hI => ?_)
          refine lv_iinc (v := (x1 + 1)) (lv' := [(1, .int (x1 + 1)), (0, .ref (kad g 4))]) hx hb d_Lex_begin_63 hl (k := 0) rfl rfl (by decide) rfl (fun ls hl => ?_)
          refine lv_goto (tgt := 20) hx hb d_Lex_begin_66 (by decide) ?_
          exact ih20 (x1 + 1) _ _ _ _ _ _ _ h hI (lv_sub hl [0, 1] rfl)
  exact L20 N 0 _ _ _ _ _ _ _ h hI (lv_sub hl [0, 1] rfl)
def f_Lex_kind  (α : kS) : Int32 := (α.1 10)
set_option maxHeartbeats 4000000 in
set_option maxRecDepth 100000 in
theorem k_Lex_kind {l : Launch} {g : kG} {α : kS}   : kV l g y_Lex_kind b_Lex_kind 1 (some .int) 1 1 [.ref (kad g 4)] α (f_Lex_kind α) := by
  generalize h : f_Lex_kind α = x
  unfold f_Lex_kind at h
  refine kv_ofW (by decide) (fun A ad p e s m args below meth c S hr hlocks hargs E hJ => ?_)
  have hx := S.1
  have hb := S.2.1
  have hown := S.2.2.2.1
  have hT := S.2.2.2.2
  subst hargs
  have hl := lv_entry ([.ref (kad g 4)]) (n := 1) (Nat.le_of_ble_eq_true rfl)
  rw [lg_entry_eq]
  generalize (lg_sl ([.ref (kad g 4)]) ++ List.replicate (1 - (lg_sl ([.ref (kad g 4)])).length) Slot.unset).toArray = ls at hl ⊢
  have hl : lv_has ls 1 [(0, .ref (kad g 4))] := hl
  refine lv_aload_n hx hb d_Lex_kind_0 rfl (lv_at hl 0 rfl) ?_
  refine kf_Lex_kind S E hJ vt_240 d_Lex_kind_1 ?_
  exact kv_iret (w := (α.1 10)) hx hb hr rfl hlocks h d_Lex_kind_4
def f_Lex_start  (α : kS) : Int32 := (α.1 11)
set_option maxHeartbeats 4000000 in
set_option maxRecDepth 100000 in
theorem k_Lex_start {l : Launch} {g : kG} {α : kS}   : kV l g y_Lex_start b_Lex_start 1 (some .int) 1 1 [.ref (kad g 4)] α (f_Lex_start α) := by
  generalize h : f_Lex_start α = x
  unfold f_Lex_start at h
  refine kv_ofW (by decide) (fun A ad p e s m args below meth c S hr hlocks hargs E hJ => ?_)
  have hx := S.1
  have hb := S.2.1
  have hown := S.2.2.2.1
  have hT := S.2.2.2.2
  subst hargs
  have hl := lv_entry ([.ref (kad g 4)]) (n := 1) (Nat.le_of_ble_eq_true rfl)
  rw [lg_entry_eq]
  generalize (lg_sl ([.ref (kad g 4)]) ++ List.replicate (1 - (lg_sl ([.ref (kad g 4)])).length) Slot.unset).toArray = ls at hl ⊢
  have hl : lv_has ls 1 [(0, .ref (kad g 4))] := hl
  refine lv_aload_n hx hb d_Lex_start_0 rfl (lv_at hl 0 rfl) ?_
  refine kf_Lex_start S E hJ vt_246 d_Lex_start_1 ?_
  exact kv_iret (w := (α.1 11)) hx hb hr rfl hlocks h d_Lex_start_4
def f_Lex_lengthOf (a1 : Int32) (α : kS) : Int32 := (a1 - a1 / 32 * 32)
set_option maxHeartbeats 4000000 in
set_option maxRecDepth 100000 in
theorem k_Lex_lengthOf {l : Launch} {g : kG} {α : kS} (a1 : Int32)  : kV l g y_Lex_lengthOf b_Lex_lengthOf 1 (some .int) 1 1 [.int a1] α (f_Lex_lengthOf a1 α) := by
  generalize h : f_Lex_lengthOf a1 α = x
  unfold f_Lex_lengthOf at h
  refine kv_ofW (by decide) (fun A ad p e s m args below meth c S hr hlocks hargs E hJ => ?_)
  have hx := S.1
  have hb := S.2.1
  have hown := S.2.2.2.1
  have hT := S.2.2.2.2
  subst hargs
  have hl := lv_entry ([.int a1]) (n := 1) (Nat.le_of_ble_eq_true rfl)
  rw [lg_entry_eq]
  generalize (lg_sl ([.int a1]) ++ List.replicate (1 - (lg_sl ([.int a1])).length) Slot.unset).toArray = ls at hl ⊢
  have hl : lv_has ls 1 [(0, .int a1)] := hl
  refine lv_iload_n hx hb d_Lex_lengthOf_0 rfl (lv_at hl 0 rfl) ?_
  refine lv_bipush (v := 32) hx hb d_Lex_lengthOf_1 (by decide) ?_
  refine lv_irem hx hb d_Lex_lengthOf_3 (by decide) ?_
  exact kv_iret (w := (a1 - a1 / 32 * 32)) hx hb hr rfl hlocks h d_Lex_lengthOf_4
def f_Lex_startOf (a1 : Int32) (α : kS) : Int32 := (a1 / 32)
set_option maxHeartbeats 4000000 in
set_option maxRecDepth 100000 in
theorem k_Lex_startOf {l : Launch} {g : kG} {α : kS} (a1 : Int32)  : kV l g y_Lex_startOf b_Lex_startOf 1 (some .int) 1 1 [.int a1] α (f_Lex_startOf a1 α) := by
  generalize h : f_Lex_startOf a1 α = x
  unfold f_Lex_startOf at h
  refine kv_ofW (by decide) (fun A ad p e s m args below meth c S hr hlocks hargs E hJ => ?_)
  have hx := S.1
  have hb := S.2.1
  have hown := S.2.2.2.1
  have hT := S.2.2.2.2
  subst hargs
  have hl := lv_entry ([.int a1]) (n := 1) (Nat.le_of_ble_eq_true rfl)
  rw [lg_entry_eq]
  generalize (lg_sl ([.int a1]) ++ List.replicate (1 - (lg_sl ([.int a1])).length) Slot.unset).toArray = ls at hl ⊢
  have hl : lv_has ls 1 [(0, .int a1)] := hl
  refine lv_iload_n hx hb d_Lex_startOf_0 rfl (lv_at hl 0 rfl) ?_
  refine lv_bipush (v := 32) hx hb d_Lex_startOf_1 (by decide) ?_
  refine lv_idiv hx hb d_Lex_startOf_3 (by decide) ?_
  exact kv_iret (w := (a1 / 32)) hx hb hr rfl hlocks h d_Lex_startOf_4
theorem kw_Lex_64 : kWs "FamilyKernel$Lexer" 64 y_Lex_lengthOf b_Lex_lengthOf 1 (some .int) 1 := ⟨vt_467, vt_468, vt_33, vt_469, by decide, by decide, by decide +kernel⟩
theorem kw_Lex_67 : kWs "FamilyKernel$Lexer" 67 y_Lex_startOf b_Lex_startOf 1 (some .int) 1 := ⟨vt_470, vt_471, vt_33, vt_472, by decide, by decide, by decide +kernel⟩
def f_Lex_standsAt_20 (N : Nat) (r1 : Nat) (α : kS) : Nat → Int32 → Int32 → Int32 → Option Int32
  | 0, _, _, _ => none
  | n + 1, x4, x3, x2 => if x3 = 0 then (some (x3 &&& 1)) else (if (α.1 12) ≤ x4 then (some (x3 &&& 1)) else (if (fR_at α r1 ((f_Lex_startOf x2 α) + x4)) = (fR_at α 0 ((α.1 11) + x4)) then (f_Lex_standsAt_20 N r1 α n (x4 + 1) 1 x2) else (f_Lex_standsAt_20 N r1 α n (x4 + 1) 0 x2)))
def f_Lex_standsAt (N : Nat) (r1 : Nat) (a2 : Int32) (α : kS) : Option Int32 := if (f_Lex_lengthOf a2 α) = (α.1 12) then (f_Lex_standsAt_20 N r1 α N 0 1 a2) else (f_Lex_standsAt_20 N r1 α N 0 0 a2)
set_option maxHeartbeats 4000000 in
set_option maxRecDepth 100000 in
theorem k_Lex_standsAt {l : Launch} {g : kG} {α : kS} (N : Nat) (r1 : Nat) (a2 : Int32) (hr1 : r1 < 21) : ∀ x, f_Lex_standsAt N r1 a2 α = some x → kV l g y_Lex_standsAt b_Lex_standsAt 5 (some .boolean) 11 321 [.ref (kad g 4), .ref (kad g (11 + r1)), .int a2] α x := by
  intro x h
  unfold f_Lex_standsAt at h
  refine kv_ofW (by decide) (fun A ad p e s m args below meth c S hr hlocks hargs E hJ => ?_)
  have hx := S.1
  have hb := S.2.1
  have hown := S.2.2.2.1
  have hT := S.2.2.2.2
  subst hargs
  have hl := lv_entry ([.ref (kad g 4), .ref (kad g (11 + r1)), .int a2]) (n := 5) (Nat.le_of_ble_eq_true rfl)
  rw [lg_entry_eq]
  generalize (lg_sl ([.ref (kad g 4), .ref (kad g (11 + r1)), .int a2]) ++ List.replicate (5 - (lg_sl ([.ref (kad g 4), .ref (kad g (11 + r1)), .int a2])).length) Slot.unset).toArray = ls at hl ⊢
  have hl : lv_has ls 5 [(0, .ref (kad g 4)), (1, .ref (kad g (11 + r1))), (2, .int a2)] := hl
  refine lv_iload_n hx hb d_Lex_standsAt_0 rfl (lv_at hl 2 rfl) ?_
  refine kg_pS (As := [.int a2]) (rest := []) (k_Lex_lengthOf (l := l) (g := g) (α := α) a2) S E hJ kw_Lex_64 ⟨Nat.le_of_ble_eq_true rfl, Nat.le_of_ble_eq_true rfl⟩ ⟨Nat.le_refl _, Nat.le_refl _⟩ rfl hl.1 rfl (Nat.le_of_ble_eq_true rfl) d_Lex_standsAt_1 ?_
  refine lv_aload_n hx hb d_Lex_standsAt_4 rfl (lv_at hl 0 rfl) ?_
  refine kf_Lex_length S E hJ vt_247 d_Lex_standsAt_5 ?_
  refine lv_icmp_ne (tgt := 15) hx hb d_Lex_standsAt_8 (by decide) (fun c1 => ?_) (fun c1 => ?_)
  · replace h := Eq.trans (if_neg c1).symm h
    refine lv_iconst (v := 0) hx hb d_Lex_standsAt_15 (by decide) ?_
    refine lv_istore_n (lv' := [(3, .int 0), (0, .ref (kad g 4)), (1, .ref (kad g (11 + r1))), (2, .int a2)]) hx hb d_Lex_standsAt_16 rfl hl (by decide) rfl (fun ls hl => ?_)
    refine lv_iconst (v := 0) hx hb d_Lex_standsAt_17 (by decide) ?_
    refine lv_istore (lv' := [(4, .int 0), (3, .int 0), (0, .ref (kad g 4)), (1, .ref (kad g (11 + r1))), (2, .int a2)]) hx hb d_Lex_standsAt_18 hl (by decide) rfl (fun ls hl => ?_)
    have L20 : ∀ (n20 : Nat) (x4 : Int32) (x3 : Int32) (x2 : Int32) (ls : Array Slot), f_Lex_standsAt_20 N r1 α n20 x4 x3 x2 = some x → lv_has ls 5 [(4, .int x4), (3, .int x3), (0, .ref (kad g 4)), (1, .ref (kad g (11 + r1))), (2, .int x2)] → W p l e { frames := 11, cells := 0, slots := 0, locals := 321 } s m ([.ref (kad g 4), .ref (kad g (11 + r1)), .int a2]).toArray below meth c s.heap [] 0 0 (MQ below (QcRead x) ([.ref (kad g 4), .ref (kad g (11 + r1)), .int a2]).toArray s 0 0 (fun _ => False)) (F0 m 20 ls []) := by
      intro n20
      induction n20 with
      | zero => intro x4 x3 x2 ls h hl; rw [f_Lex_standsAt_20] at h; cases h
      | succ n20 ih20 =>
        intro x4 x3 x2 ls h hl
        rw [f_Lex_standsAt_20] at h
        refine lv_iload_n hx hb d_Lex_standsAt_20 rfl (lv_at hl 1 rfl) ?_
        refine lv_if_eq (tgt := 73) hx hb d_Lex_standsAt_21 (by decide) (fun c2 => ?_) (fun c2 => ?_)
        · replace h := Eq.trans (if_pos c2).symm h
          refine lv_iload_n hx hb d_Lex_standsAt_73 rfl (lv_at hl 1 rfl) ?_
          exact kv_iret (w := (x3 &&& 1)) hx hb hr rfl hlocks (Option.some.inj h) d_Lex_standsAt_74
        · replace h := Eq.trans (if_neg c2).symm h
          refine lv_iload hx hb d_Lex_standsAt_24 (lv_at hl 0 rfl) ?_
          refine lv_aload_n hx hb d_Lex_standsAt_26 rfl (lv_at hl 2 rfl) ?_
          refine kf_Lex_length S E hJ vt_247 d_Lex_standsAt_27 ?_
          refine lv_icmp_ge (tgt := 73) hx hb d_Lex_standsAt_30 (by decide) (fun c3 => ?_) (fun c3 => ?_)
          · replace h := Eq.trans (if_pos c3).symm h
            refine lv_iload_n hx hb d_Lex_standsAt_73 rfl (lv_at hl 1 rfl) ?_
            exact kv_iret (w := (x3 &&& 1)) hx hb hr rfl hlocks (Option.some.inj h) d_Lex_standsAt_74
          · replace h := Eq.trans (if_neg c3).symm h
            refine lv_aload_n hx hb d_Lex_standsAt_33 rfl (lv_at hl 3 rfl) ?_
            refine lv_iload_n hx hb d_Lex_standsAt_34 rfl (lv_at hl 4 rfl) ?_
            refine kg_pS (As := [.int x2]) (rest := [.ref (kad g (11 + r1))]) (k_Lex_startOf (l := l) (g := g) (α := α) x2) S E hJ kw_Lex_67 ⟨Nat.le_of_ble_eq_true rfl, Nat.le_of_ble_eq_true rfl⟩ ⟨Nat.le_refl _, Nat.le_refl _⟩ rfl hl.1 rfl (Nat.le_of_ble_eq_true rfl) d_Lex_standsAt_35 ?_
            refine lv_iload hx hb d_Lex_standsAt_38 (lv_at hl 0 rfl) ?_
            refine lv_iadd hx hb d_Lex_standsAt_40 ?_
            refine kg_p (As := [.int ((f_Lex_startOf x2 α) + x4)]) (rest := []) (k_Row_at (l := l) (g := g) (α := α) (r := r1) hr1 ((f_Lex_startOf x2 α) + x4)) S E hJ kw_Lex_58 ⟨Nat.le_of_ble_eq_true rfl, Nat.le_of_ble_eq_true rfl⟩ ⟨Nat.le_refl _, Nat.le_refl _⟩ (kv_Row (r := r1) hr1 E hJ) rfl hl.1 rfl (Nat.le_of_ble_eq_true rfl) d_Lex_standsAt_41 rfl ?_
            refine lv_aload_n hx hb d_Lex_standsAt_44 rfl (lv_at hl 2 rfl) ?_
            refine kf_Lex_text S E hJ vt_108 d_Lex_standsAt_45 ?_
            refine lv_aload_n hx hb d_Lex_standsAt_48 rfl (lv_at hl 2 rfl) ?_
            refine kf_Lex_start S E hJ vt_246 d_Lex_standsAt_49 ?_
            refine lv_iload hx hb d_Lex_standsAt_52 (lv_at hl 0 rfl) ?_
            refine lv_iadd hx hb d_Lex_standsAt_54 ?_
            refine kg_p (As := [.int ((α.1 11) + x4)]) (rest := [.int (fR_at α r1 ((f_Lex_startOf x2 α) + x4))]) (k_Row_at (l := l) (g := g) (α := α) (r := 0) (by decide) ((α.1 11) + x4)) S E hJ kw_Lex_58 ⟨Nat.le_of_ble_eq_true rfl, Nat.le_of_ble_eq_true rfl⟩ ⟨Nat.le_refl _, Nat.le_refl _⟩ (kv_Row (r := 0) (by decide) E hJ) rfl hl.1 rfl (Nat.le_of_ble_eq_true rfl) d_Lex_standsAt_55 rfl ?_
            refine lv_icmp_ne (tgt := 65) hx hb d_Lex_standsAt_58 (by decide) (fun c4 => ?_) (fun c4 => ?_)
            · replace h := Eq.trans (if_neg c4).symm h
              refine lv_iconst (v := 0) hx hb d_Lex_standsAt_65 (by decide) ?_
              refine lv_istore_n (lv' := [(3, .int 0), (4, .int x4), (0, .ref (kad g 4)), (1, .ref (kad g (11 + r1))), (2, .int x2)]) hx hb d_Lex_standsAt_66 rfl hl (by decide) rfl (fun ls hl => ?_)
              refine lv_iinc (v := (x4 + 1)) (lv' := [(4, .int (x4 + 1)), (3, .int 0), (0, .ref (kad g 4)), (1, .ref (kad g (11 + r1))), (2, .int x2)]) hx hb d_Lex_standsAt_67 hl (k := 1) rfl rfl (by decide) rfl (fun ls hl => ?_)
              refine lv_goto (tgt := 20) hx hb d_Lex_standsAt_70 (by decide) ?_
              exact ih20 (x4 + 1) 0 x2 _ h (lv_sub hl [0, 1, 2, 3, 4] rfl)
            · replace h := Eq.trans (if_pos c4).symm h
              refine lv_iconst (v := 1) hx hb d_Lex_standsAt_61 (by decide) ?_
              refine lv_goto (tgt := 66) hx hb d_Lex_standsAt_62 (by decide) ?_
              refine lv_istore_n (lv' := [(3, .int 1), (4, .int x4), (0, .ref (kad g 4)), (1, .ref (kad g (11 + r1))), (2, .int x2)]) hx hb d_Lex_standsAt_66 rfl hl (by decide) rfl (fun ls hl => ?_)
              refine lv_iinc (v := (x4 + 1)) (lv' := [(4, .int (x4 + 1)), (3, .int 1), (0, .ref (kad g 4)), (1, .ref (kad g (11 + r1))), (2, .int x2)]) hx hb d_Lex_standsAt_67 hl (k := 1) rfl rfl (by decide) rfl (fun ls hl => ?_)
              refine lv_goto (tgt := 20) hx hb d_Lex_standsAt_70 (by decide) ?_
              exact ih20 (x4 + 1) 1 x2 _ h (lv_sub hl [0, 1, 2, 3, 4] rfl)
    exact L20 N 0 0 a2 _ h (lv_sub hl [0, 1, 2, 3, 4] rfl)
  · replace h := Eq.trans (if_pos c1).symm h
    refine lv_iconst (v := 1) hx hb d_Lex_standsAt_11 (by decide) ?_
    refine lv_goto (tgt := 16) hx hb d_Lex_standsAt_12 (by decide) ?_
    refine lv_istore_n (lv' := [(3, .int 1), (0, .ref (kad g 4)), (1, .ref (kad g (11 + r1))), (2, .int a2)]) hx hb d_Lex_standsAt_16 rfl hl (by decide) rfl (fun ls hl => ?_)
    refine lv_iconst (v := 0) hx hb d_Lex_standsAt_17 (by decide) ?_
    refine lv_istore (lv' := [(4, .int 0), (3, .int 1), (0, .ref (kad g 4)), (1, .ref (kad g (11 + r1))), (2, .int a2)]) hx hb d_Lex_standsAt_18 hl (by decide) rfl (fun ls hl => ?_)
    have L20 : ∀ (n20 : Nat) (x4 : Int32) (x3 : Int32) (x2 : Int32) (ls : Array Slot), f_Lex_standsAt_20 N r1 α n20 x4 x3 x2 = some x → lv_has ls 5 [(4, .int x4), (3, .int x3), (0, .ref (kad g 4)), (1, .ref (kad g (11 + r1))), (2, .int x2)] → W p l e { frames := 11, cells := 0, slots := 0, locals := 321 } s m ([.ref (kad g 4), .ref (kad g (11 + r1)), .int a2]).toArray below meth c s.heap [] 0 0 (MQ below (QcRead x) ([.ref (kad g 4), .ref (kad g (11 + r1)), .int a2]).toArray s 0 0 (fun _ => False)) (F0 m 20 ls []) := by
      intro n20
      induction n20 with
      | zero => intro x4 x3 x2 ls h hl; rw [f_Lex_standsAt_20] at h; cases h
      | succ n20 ih20 =>
        intro x4 x3 x2 ls h hl
        rw [f_Lex_standsAt_20] at h
        refine lv_iload_n hx hb d_Lex_standsAt_20 rfl (lv_at hl 1 rfl) ?_
        refine lv_if_eq (tgt := 73) hx hb d_Lex_standsAt_21 (by decide) (fun c5 => ?_) (fun c5 => ?_)
        · replace h := Eq.trans (if_pos c5).symm h
          refine lv_iload_n hx hb d_Lex_standsAt_73 rfl (lv_at hl 1 rfl) ?_
          exact kv_iret (w := (x3 &&& 1)) hx hb hr rfl hlocks (Option.some.inj h) d_Lex_standsAt_74
        · replace h := Eq.trans (if_neg c5).symm h
          refine lv_iload hx hb d_Lex_standsAt_24 (lv_at hl 0 rfl) ?_
          refine lv_aload_n hx hb d_Lex_standsAt_26 rfl (lv_at hl 2 rfl) ?_
          refine kf_Lex_length S E hJ vt_247 d_Lex_standsAt_27 ?_
          refine lv_icmp_ge (tgt := 73) hx hb d_Lex_standsAt_30 (by decide) (fun c6 => ?_) (fun c6 => ?_)
          · replace h := Eq.trans (if_pos c6).symm h
            refine lv_iload_n hx hb d_Lex_standsAt_73 rfl (lv_at hl 1 rfl) ?_
            exact kv_iret (w := (x3 &&& 1)) hx hb hr rfl hlocks (Option.some.inj h) d_Lex_standsAt_74
          · replace h := Eq.trans (if_neg c6).symm h
            refine lv_aload_n hx hb d_Lex_standsAt_33 rfl (lv_at hl 3 rfl) ?_
            refine lv_iload_n hx hb d_Lex_standsAt_34 rfl (lv_at hl 4 rfl) ?_
            refine kg_pS (As := [.int x2]) (rest := [.ref (kad g (11 + r1))]) (k_Lex_startOf (l := l) (g := g) (α := α) x2) S E hJ kw_Lex_67 ⟨Nat.le_of_ble_eq_true rfl, Nat.le_of_ble_eq_true rfl⟩ ⟨Nat.le_refl _, Nat.le_refl _⟩ rfl hl.1 rfl (Nat.le_of_ble_eq_true rfl) d_Lex_standsAt_35 ?_
            refine lv_iload hx hb d_Lex_standsAt_38 (lv_at hl 0 rfl) ?_
            refine lv_iadd hx hb d_Lex_standsAt_40 ?_
            refine kg_p (As := [.int ((f_Lex_startOf x2 α) + x4)]) (rest := []) (k_Row_at (l := l) (g := g) (α := α) (r := r1) hr1 ((f_Lex_startOf x2 α) + x4)) S E hJ kw_Lex_58 ⟨Nat.le_of_ble_eq_true rfl, Nat.le_of_ble_eq_true rfl⟩ ⟨Nat.le_refl _, Nat.le_refl _⟩ (kv_Row (r := r1) hr1 E hJ) rfl hl.1 rfl (Nat.le_of_ble_eq_true rfl) d_Lex_standsAt_41 rfl ?_
            refine lv_aload_n hx hb d_Lex_standsAt_44 rfl (lv_at hl 2 rfl) ?_
            refine kf_Lex_text S E hJ vt_108 d_Lex_standsAt_45 ?_
            refine lv_aload_n hx hb d_Lex_standsAt_48 rfl (lv_at hl 2 rfl) ?_
            refine kf_Lex_start S E hJ vt_246 d_Lex_standsAt_49 ?_
            refine lv_iload hx hb d_Lex_standsAt_52 (lv_at hl 0 rfl) ?_
            refine lv_iadd hx hb d_Lex_standsAt_54 ?_
            refine kg_p (As := [.int ((α.1 11) + x4)]) (rest := [.int (fR_at α r1 ((f_Lex_startOf x2 α) + x4))]) (k_Row_at (l := l) (g := g) (α := α) (r := 0) (by decide) ((α.1 11) + x4)) S E hJ kw_Lex_58 ⟨Nat.le_of_ble_eq_true rfl, Nat.le_of_ble_eq_true rfl⟩ ⟨Nat.le_refl _, Nat.le_refl _⟩ (kv_Row (r := 0) (by decide) E hJ) rfl hl.1 rfl (Nat.le_of_ble_eq_true rfl) d_Lex_standsAt_55 rfl ?_
            refine lv_icmp_ne (tgt := 65) hx hb d_Lex_standsAt_58 (by decide) (fun c7 => ?_) (fun c7 => ?_)
            · replace h := Eq.trans (if_neg c7).symm h
              refine lv_iconst (v := 0) hx hb d_Lex_standsAt_65 (by decide) ?_
              refine lv_istore_n (lv' := [(3, .int 0), (4, .int x4), (0, .ref (kad g 4)), (1, .ref (kad g (11 + r1))), (2, .int x2)]) hx hb d_Lex_standsAt_66 rfl hl (by decide) rfl (fun ls hl => ?_)
              refine lv_iinc (v := (x4 + 1)) (lv' := [(4, .int (x4 + 1)), (3, .int 0), (0, .ref (kad g 4)), (1, .ref (kad g (11 + r1))), (2, .int x2)]) hx hb d_Lex_standsAt_67 hl (k := 1) rfl rfl (by decide) rfl (fun ls hl => ?_)
              refine lv_goto (tgt := 20) hx hb d_Lex_standsAt_70 (by decide) ?_
              exact ih20 (x4 + 1) 0 x2 _ h (lv_sub hl [0, 1, 2, 3, 4] rfl)
            · replace h := Eq.trans (if_pos c7).symm h
              refine lv_iconst (v := 1) hx hb d_Lex_standsAt_61 (by decide) ?_
              refine lv_goto (tgt := 66) hx hb d_Lex_standsAt_62 (by decide) ?_
              refine lv_istore_n (lv' := [(3, .int 1), (4, .int x4), (0, .ref (kad g 4)), (1, .ref (kad g (11 + r1))), (2, .int x2)]) hx hb d_Lex_standsAt_66 rfl hl (by decide) rfl (fun ls hl => ?_)
              refine lv_iinc (v := (x4 + 1)) (lv' := [(4, .int (x4 + 1)), (3, .int 1), (0, .ref (kad g 4)), (1, .ref (kad g (11 + r1))), (2, .int x2)]) hx hb d_Lex_standsAt_67 hl (k := 1) rfl rfl (by decide) rfl (fun ls hl => ?_)
              refine lv_goto (tgt := 20) hx hb d_Lex_standsAt_70 (by decide) ?_
              exact ih20 (x4 + 1) 1 x2 _ h (lv_sub hl [0, 1, 2, 3, 4] rfl)
    exact L20 N 0 1 a2 _ h (lv_sub hl [0, 1, 2, 3, 4] rfl)
def f_Lex_length  (α : kS) : Int32 := (α.1 12)
set_option maxHeartbeats 4000000 in
set_option maxRecDepth 100000 in
theorem k_Lex_length {l : Launch} {g : kG} {α : kS}   : kV l g y_Lex_length b_Lex_length 1 (some .int) 1 1 [.ref (kad g 4)] α (f_Lex_length α) := by
  generalize h : f_Lex_length α = x
  unfold f_Lex_length at h
  refine kv_ofW (by decide) (fun A ad p e s m args below meth c S hr hlocks hargs E hJ => ?_)
  have hx := S.1
  have hb := S.2.1
  have hown := S.2.2.2.1
  have hT := S.2.2.2.2
  subst hargs
  have hl := lv_entry ([.ref (kad g 4)]) (n := 1) (Nat.le_of_ble_eq_true rfl)
  rw [lg_entry_eq]
  generalize (lg_sl ([.ref (kad g 4)]) ++ List.replicate (1 - (lg_sl ([.ref (kad g 4)])).length) Slot.unset).toArray = ls at hl ⊢
  have hl : lv_has ls 1 [(0, .ref (kad g 4))] := hl
  refine lv_aload_n hx hb d_Lex_length_0 rfl (lv_at hl 0 rfl) ?_
  refine kf_Lex_length S E hJ vt_247 d_Lex_length_1 ?_
  exact kv_iret (w := (α.1 12)) hx hb hr rfl hlocks h d_Lex_length_4
def f_Lex_sign (a1 : Int32) (α : kS) : Int32 := (fR_at α 0 ((α.1 11) + a1))
set_option maxHeartbeats 4000000 in
set_option maxRecDepth 100000 in
theorem k_Lex_sign {l : Launch} {g : kG} {α : kS} (a1 : Int32)  : kV l g y_Lex_sign b_Lex_sign 2 (some .int) 11 321 [.ref (kad g 4), .int a1] α (f_Lex_sign a1 α) := by
  generalize h : f_Lex_sign a1 α = x
  unfold f_Lex_sign at h
  refine kv_ofW (by decide) (fun A ad p e s m args below meth c S hr hlocks hargs E hJ => ?_)
  have hx := S.1
  have hb := S.2.1
  have hown := S.2.2.2.1
  have hT := S.2.2.2.2
  subst hargs
  have hl := lv_entry ([.ref (kad g 4), .int a1]) (n := 2) (Nat.le_of_ble_eq_true rfl)
  rw [lg_entry_eq]
  generalize (lg_sl ([.ref (kad g 4), .int a1]) ++ List.replicate (2 - (lg_sl ([.ref (kad g 4), .int a1])).length) Slot.unset).toArray = ls at hl ⊢
  have hl : lv_has ls 2 [(0, .ref (kad g 4)), (1, .int a1)] := hl
  refine lv_aload_n hx hb d_Lex_sign_0 rfl (lv_at hl 0 rfl) ?_
  refine kf_Lex_text S E hJ vt_108 d_Lex_sign_1 ?_
  refine lv_aload_n hx hb d_Lex_sign_4 rfl (lv_at hl 0 rfl) ?_
  refine kf_Lex_start S E hJ vt_246 d_Lex_sign_5 ?_
  refine lv_iload_n hx hb d_Lex_sign_8 rfl (lv_at hl 1 rfl) ?_
  refine lv_iadd hx hb d_Lex_sign_9 ?_
  refine kg_p (As := [.int ((α.1 11) + a1)]) (rest := []) (k_Row_at (l := l) (g := g) (α := α) (r := 0) (by decide) ((α.1 11) + a1)) S E hJ kw_Lex_58 ⟨Nat.le_of_ble_eq_true rfl, Nat.le_of_ble_eq_true rfl⟩ ⟨Nat.le_refl _, Nat.le_refl _⟩ (kv_Row (r := 0) (by decide) E hJ) rfl hl.1 rfl (Nat.le_of_ble_eq_true rfl) d_Lex_sign_10 rfl ?_
  exact kv_iret (w := (fR_at α 0 ((α.1 11) + a1))) hx hb hr rfl hlocks h d_Lex_sign_13
def f_Lex_word  (α : kS) : Int32 := (f_Lex_named (α.1 11) (α.1 12) α)
set_option maxHeartbeats 4000000 in
set_option maxRecDepth 100000 in
theorem k_Lex_word {l : Launch} {g : kG} {α : kS}   : kV l g y_Lex_word b_Lex_word 1 (some .int) 2 22 [.ref (kad g 4)] α (f_Lex_word α) := by
  generalize h : f_Lex_word α = x
  unfold f_Lex_word at h
  refine kv_ofW (by decide) (fun A ad p e s m args below meth c S hr hlocks hargs E hJ => ?_)
  have hx := S.1
  have hb := S.2.1
  have hown := S.2.2.2.1
  have hT := S.2.2.2.2
  subst hargs
  have hl := lv_entry ([.ref (kad g 4)]) (n := 1) (Nat.le_of_ble_eq_true rfl)
  rw [lg_entry_eq]
  generalize (lg_sl ([.ref (kad g 4)]) ++ List.replicate (1 - (lg_sl ([.ref (kad g 4)])).length) Slot.unset).toArray = ls at hl ⊢
  have hl : lv_has ls 1 [(0, .ref (kad g 4))] := hl
  refine lv_aload_n hx hb d_Lex_word_0 rfl (lv_at hl 0 rfl) ?_
  refine kf_Lex_start S E hJ vt_246 d_Lex_word_1 ?_
  refine lv_aload_n hx hb d_Lex_word_4 rfl (lv_at hl 0 rfl) ?_
  refine kf_Lex_length S E hJ vt_247 d_Lex_word_5 ?_
  refine kg_pS (As := [.int (α.1 11), .int (α.1 12)]) (rest := []) (k_Lex_named (l := l) (g := g) (α := α) (α.1 11) (α.1 12)) S E hJ kw_Lex_45 ⟨Nat.le_of_ble_eq_true rfl, Nat.le_of_ble_eq_true rfl⟩ ⟨Nat.le_refl _, Nat.le_refl _⟩ rfl hl.1 rfl (Nat.le_of_ble_eq_true rfl) d_Lex_word_8 ?_
  exact kv_iret (w := (f_Lex_named (α.1 11) (α.1 12) α)) hx hb hr rfl hlocks h d_Lex_word_11
theorem kw_Lex_61 : kWv "FamilyKernel$Lexer" 61 "FamilyKernel$Lexer" y_Lex_sign b_Lex_sign 2 (some .int) 1 := ⟨vt_584, vt_479, vt_480, vt_33, vt_481, by decide, by decide, by decide +kernel⟩
def f_Lex_value_4 (N : Nat)  (α : kS) : Nat → Int32 → Int32 → Option Int32
  | 0, _, _ => none
  | n + 1, x2, x1 => if (α.1 12) ≤ x2 then (some x1) else (f_Lex_value_4 N α n (x2 + 1) (((10 * x1) + (f_Lex_sign x2 α)) - 48))
def f_Lex_value (N : Nat)  (α : kS) : Option Int32 := f_Lex_value_4 N α N 0 0
set_option maxHeartbeats 4000000 in
set_option maxRecDepth 100000 in
theorem k_Lex_value {l : Launch} {g : kG} {α : kS} (N : Nat)   : ∀ x, f_Lex_value N α = some x → kV l g y_Lex_value b_Lex_value 3 (some .int) 12 342 [.ref (kad g 4)] α x := by
  intro x h
  unfold f_Lex_value at h
  refine kv_ofW (by decide) (fun A ad p e s m args below meth c S hr hlocks hargs E hJ => ?_)
  have hx := S.1
  have hb := S.2.1
  have hown := S.2.2.2.1
  have hT := S.2.2.2.2
  subst hargs
  have hl := lv_entry ([.ref (kad g 4)]) (n := 3) (Nat.le_of_ble_eq_true rfl)
  rw [lg_entry_eq]
  generalize (lg_sl ([.ref (kad g 4)]) ++ List.replicate (3 - (lg_sl ([.ref (kad g 4)])).length) Slot.unset).toArray = ls at hl ⊢
  have hl : lv_has ls 3 [(0, .ref (kad g 4))] := hl
  refine lv_iconst (v := 0) hx hb d_Lex_value_0 (by decide) ?_
  refine lv_istore_n (lv' := [(1, .int 0), (0, .ref (kad g 4))]) hx hb d_Lex_value_1 rfl hl (by decide) rfl (fun ls hl => ?_)
  refine lv_iconst (v := 0) hx hb d_Lex_value_2 (by decide) ?_
  refine lv_istore_n (lv' := [(2, .int 0), (1, .int 0), (0, .ref (kad g 4))]) hx hb d_Lex_value_3 rfl hl (by decide) rfl (fun ls hl => ?_)
  have L4 : ∀ (n4 : Nat) (x2 : Int32) (x1 : Int32) (ls : Array Slot), f_Lex_value_4 N α n4 x2 x1 = some x → lv_has ls 3 [(2, .int x2), (1, .int x1), (0, .ref (kad g 4))] → W p l e { frames := 12, cells := 0, slots := 0, locals := 342 } s m ([.ref (kad g 4)]).toArray below meth c s.heap [] 0 0 (MQ below (QcRead x) ([.ref (kad g 4)]).toArray s 0 0 (fun _ => False)) (F0 m 4 ls []) := by
    intro n4
    induction n4 with
    | zero => intro x2 x1 ls h hl; rw [f_Lex_value_4] at h; cases h
    | succ n4 ih4 =>
      intro x2 x1 ls h hl
      rw [f_Lex_value_4] at h
      refine lv_iload_n hx hb d_Lex_value_4 rfl (lv_at hl 0 rfl) ?_
      refine lv_aload_n hx hb d_Lex_value_5 rfl (lv_at hl 2 rfl) ?_
      refine kf_Lex_length S E hJ vt_247 d_Lex_value_6 ?_
      refine lv_icmp_ge (tgt := 32) hx hb d_Lex_value_9 (by decide) (fun c1 => ?_) (fun c1 => ?_)
      · replace h := Eq.trans (if_pos c1).symm h
        refine lv_iload_n hx hb d_Lex_value_32 rfl (lv_at hl 1 rfl) ?_
        exact kv_iret (w := x1) hx hb hr rfl hlocks (Option.some.inj h) d_Lex_value_33
      · replace h := Eq.trans (if_neg c1).symm h
        refine lv_bipush (v := 10) hx hb d_Lex_value_12 (by decide) ?_
        refine lv_iload_n hx hb d_Lex_value_14 rfl (lv_at hl 1 rfl) ?_
        refine lv_imul hx hb d_Lex_value_15 ?_
        refine lv_aload_n hx hb d_Lex_value_16 rfl (lv_at hl 2 rfl) ?_
        refine lv_iload_n hx hb d_Lex_value_17 rfl (lv_at hl 0 rfl) ?_
        refine kg_p (As := [.int x2]) (rest := [.int (10 * x1)]) (k_Lex_sign (l := l) (g := g) (α := α) x2) S E hJ kw_Lex_61 ⟨Nat.le_of_ble_eq_true rfl, Nat.le_of_ble_eq_true rfl⟩ ⟨Nat.le_refl _, Nat.le_refl _⟩ (kv_Lex E hJ) rfl hl.1 rfl (Nat.le_of_ble_eq_true rfl) d_Lex_value_18 rfl ?_
        refine lv_iadd hx hb d_Lex_value_21 ?_
        refine lv_bipush (v := 48) hx hb d_Lex_value_22 (by decide) ?_
        refine lv_isub hx hb d_Lex_value_24 ?_
        refine lv_istore_n (lv' := [(1, .int (((10 * x1) + (f_Lex_sign x2 α)) - 48)), (2, .int x2), (0, .ref (kad g 4))]) hx hb d_Lex_value_25 rfl hl (by decide) rfl (fun ls hl => ?_)
        refine lv_iinc (v := (x2 + 1)) (lv' := [(2, .int (x2 + 1)), (1, .int (((10 * x1) + (f_Lex_sign x2 α)) - 48)), (0, .ref (kad g 4))]) hx hb d_Lex_value_26 hl (k := 1) rfl rfl (by decide) rfl (fun ls hl => ?_)
        refine lv_goto (tgt := 4) hx hb d_Lex_value_29 (by decide) ?_
        exact ih4 (x2 + 1) (((10 * x1) + (f_Lex_sign x2 α)) - 48) _ h (lv_sub hl [0, 1, 2] rfl)
  exact L4 N 0 0 _ h (lv_sub hl [0, 1, 2] rfl)
