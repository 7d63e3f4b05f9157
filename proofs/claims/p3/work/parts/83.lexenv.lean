-- tokens, CONSTANTS: found, added
theorem tdiv32 {a : Int} (h1 : -2147483648 ≤ a) (h2 : a < 2147483648) : a - a.tdiv 32 * 32 ≤ 31 ∧ -31 ≤ a - a.tdiv 32 * 32 ∧ -2147483648 ≤ a.tdiv 32 * 32 ∧ a.tdiv 32 * 32 < 2147483648 := by
  rw [Int.tdiv_eq_ediv]
  by_cases h : 0 ≤ a ∨ 32 ∣ a
  · rw [if_pos h]
    omega
  · rw [if_neg h, show Int.sign 32 = 1 from rfl]
    omega
theorem div32_i (y : Int32) : (y / 32).toInt = y.toInt.tdiv 32 := Int32.toInt_div_of_ne_right y 32 (by decide)
theorem rem32 (y : Int32) : (y - y / 32 * 32).toInt ≤ 31 ∧ -31 ≤ (y - y / 32 * 32).toInt := by
  have b1 : -2147483648 ≤ y.toInt := Int32.le_toInt y
  have b2 : y.toInt < 2147483648 := Int32.toInt_lt y
  obtain ⟨c1, c2, c3, c4⟩ := tdiv32 b1 b2
  have e1 : (y / 32 * 32).toInt = y.toInt.tdiv 32 * 32 := by
    rw [Int32.toInt_mul, div32_i]
    show (y.toInt.tdiv 32 * 32).bmod (2 ^ 32) = _
    rw [Int.bmod_eq_of_le (by omega) (by omega)]
  rw [Int32.toInt_sub, e1, Int.bmod_eq_of_le (by omega) (by omega)]
  exact ⟨c1, c2⟩
/-- how long a word is -/
def l12 (α : kS) : Prop := (α.1 12).toInt ≤ 31 ∧ -31 ≤ (α.1 12).toInt
theorem adv_l (α : kS) : l12 (f_Lex_advance α) := rem32 _
/-- where a NAME begins -/
theorem name_s {S : Nat} {x : Int32} (hS : S ≤ 10000) (h1 : x.toInt ≤ 31) (h2 : -31 ≤ x.toInt) : ∃ s, (nI S * 32 + x) / 32 = nI s ∧ s ≤ S := by
  have e0 : (nI S * 32 + x).toInt = 32 * S + x.toInt := by
    rw [show nI S * 32 = nI (S * 32) from pk_mul S 32, Int32.toInt_add, nI_toInt (by omega), Int.bmod_eq_of_le (by omega) (by omega)]
    omega
  have e1 : ((nI S * 32 + x) / 32).toInt = (32 * (S : Int) + x.toInt).tdiv 32 := by rw [div32_i, e0]
  have hb : 0 ≤ (32 * (S : Int) + x.toInt).tdiv 32 ∧ (32 * (S : Int) + x.toInt).tdiv 32 ≤ S := by
    rw [Int.tdiv_eq_ediv]
    by_cases h : 0 ≤ 32 * (S : Int) + x.toInt ∨ 32 ∣ 32 * (S : Int) + x.toInt
    · rw [if_pos h]; omega
    · rw [if_neg h, show Int.sign 32 = 1 from rfl]; omega
  have n0 : ¬ (nI S * 32 + x) / 32 < 0 := fun z => by
    rw [Int32.lt_iff_toInt_lt, e1] at z
    have : (0 : Int32).toInt = 0 := rfl
    omega
  obtain ⟨s, hs, e⟩ := nI_of n0
  refine ⟨s, e, ?_⟩
  rw [e, nI_toInt hs] at e1
  omega
section FIND
variable {N K : Nat} {α : kS}
theorem stand_go {r1 : Nat} {x2 : Int32} {l : Nat} (e12 : α.1 12 = nI l) (hl : l < 2 ^ 31) : ∀ (d i nn : Nat) (x3 : Int32), i + d = l → d < nn → ∃ v, f_Lex_standsAt_20 N r1 α nn (nI i) x3 x2 = some v
  | 0, i, nn, x3, hi, hn => by
    obtain ⟨nn, rfl⟩ : ∃ n', nn = n' + 1 := ⟨nn - 1, by omega⟩
    rw [f_Lex_standsAt_20]
    split
    · exact ⟨_, rfl⟩
    · rw [e12, if_pos (nI_le (by omega) (by omega))]; exact ⟨_, rfl⟩
  | d + 1, i, nn, x3, hi, hn => by
    obtain ⟨nn, rfl⟩ : ∃ n', nn = n' + 1 := ⟨nn - 1, by omega⟩
    rw [f_Lex_standsAt_20]
    split
    · exact ⟨_, rfl⟩
    · rw [e12, if_neg (nI_ge (by omega) (by omega)), nI_1]
      split
      · exact stand_go e12 hl d (i + 1) nn 1 (by omega) (by omega)
      · exact stand_go e12 hl d (i + 1) nn 0 (by omega) (by omega)
theorem stand_ok (hN : 2 ^ 31 ≤ N) (r1 : Nat) (x2 : Int32) : ∃ v, f_Lex_standsAt N r1 x2 α = some v := by
  have go : ∀ x3, ∃ v, f_Lex_standsAt_20 N r1 α N 0 x3 x2 = some v := fun x3 => by
    by_cases h : α.1 12 < 0
    · obtain ⟨n, rfl⟩ : ∃ n', N = n' + 1 := ⟨N - 1, by omega⟩
      rw [f_Lex_standsAt_20]
      split
      · exact ⟨_, rfl⟩
      · rw [if_pos (Int32.le_of_lt h)]; exact ⟨_, rfl⟩
    · obtain ⟨l, hl, e⟩ := nI_of h
      exact stand_go e hl l 0 N x3 (by omega) (by omega)
  unfold f_Lex_standsAt
  split
  · exact go 1
  · exact go 0
theorem find_go (hN : 2 ^ 31 ≤ N) {L c : Nat} (hL : L < 2 ^ 31) (ec : f_Env_length α = nI c) (hc : c ≤ 300) : ∀ (d i nn : Nat), i + d = c → d < nn → ∃ v, f_Env_find_2 N α nn (nI i) (nI L) = some v ∧ (v = -1 ∨ ∃ k, v = nI k ∧ k < L ∧ k < c)
  | 0, i, nn, hi, hn => by
    obtain ⟨nn, rfl⟩ : ∃ n', nn = n' + 1 := ⟨nn - 1, by omega⟩
    rw [f_Env_find_2]
    split
    · exact ⟨_, rfl, Or.inl rfl⟩
    · rw [ec, if_pos (nI_le (by omega) (by omega))]; exact ⟨_, rfl, Or.inl rfl⟩
  | d + 1, i, nn, hi, hn => by
    obtain ⟨nn, rfl⟩ : ∃ n', nn = n' + 1 := ⟨nn - 1, by omega⟩
    rw [f_Env_find_2]
    by_cases h : nI L ≤ nI i
    · rw [if_pos h]; exact ⟨_, rfl, Or.inl rfl⟩
    · have hiL : i < L := Nat.not_le.mp fun y => h (nI_le y (by omega))
      rw [if_neg h, ec, if_neg (nI_ge (by omega) (by omega))]
      obtain ⟨v, ev⟩ := stand_ok (N := N) (α := α) hN 6 (f_Env_fact (nI i) 11 α)
      rw [ev]
      show ∃ w, (if v = 0 then f_Env_find_2 N α nn (nI i + 1) (nI L) else some (nI i)) = some w ∧ _
      by_cases z : v = 0
      · rw [if_pos z, nI_1]
        exact find_go hN hL ec hc d (i + 1) nn (by omega) (by omega)
      · rw [if_neg z]
        exact ⟨_, rfl, Or.inr ⟨i, rfl, hiL, by omega⟩⟩
theorem find_ok (hN : 2 ^ 31 ≤ N) {L c : Nat} (h : tT K α) (hl : (α.2.1 5).length = 12 * c) (hc : c ≤ 300) (hL : L < 2 ^ 31) : ∃ v, f_Env_find N (nI L) α = some v ∧ (v = -1 ∨ ∃ k, v = nI k ∧ k < L ∧ k < c) :=
  find_go hN hL (len_e h hl) hc c 0 N (by omega) (by omega)
theorem value_go {l : Nat} (e12 : α.1 12 = nI l) (hl : l < 2 ^ 31) : ∀ (d i nn : Nat) (x1 : Int32), i + d = l → d < nn → ∃ v, f_Lex_value_4 N α nn (nI i) x1 = some v
  | 0, i, nn, x1, hi, hn => by
    obtain ⟨nn, rfl⟩ : ∃ n', nn = n' + 1 := ⟨nn - 1, by omega⟩
    rw [f_Lex_value_4, e12, if_pos (nI_le (by omega) (by omega))]; exact ⟨_, rfl⟩
  | d + 1, i, nn, x1, hi, hn => by
    obtain ⟨nn, rfl⟩ : ∃ n', nn = n' + 1 := ⟨nn - 1, by omega⟩
    rw [f_Lex_value_4, e12, if_neg (nI_ge (by omega) (by omega)), nI_1]
    exact value_go e12 hl d (i + 1) nn _ (by omega) (by omega)
theorem value_ok (hN : 2 ^ 31 ≤ N) : ∃ v, f_Lex_value N α = some v := by
  by_cases h : α.1 12 < 0
  · obtain ⟨n, rfl⟩ : ∃ n', N = n' + 1 := ⟨N - 1, by omega⟩
    show ∃ v, f_Lex_value_4 (n + 1) α (n + 1) 0 0 = some v
    rw [f_Lex_value_4, if_pos (Int32.le_of_lt h)]; exact ⟨_, rfl⟩
  · obtain ⟨l, hl, e⟩ := nI_of h
    exact value_go e hl l 0 N 0 (by omega) (by omega)
theorem bat_go (hN : 2 ^ 31 ≤ N) : ∀ (i nn : Nat), i < nn → ∃ v, f_Par_boundAt_10 N α nn (nI i - 1) = some v
  | 0, nn, hn => by
    obtain ⟨nn, rfl⟩ : ∃ n', nn = n' + 1 := ⟨nn - 1, by omega⟩
    rw [f_Par_boundAt_10, if_pos (by decide)]; exact ⟨_, rfl⟩
  | i + 1, nn, hn => by
    obtain ⟨nn, rfl⟩ : ∃ n', nn = n' + 1 := ⟨nn - 1, by omega⟩
    rw [f_Par_boundAt_10, nI_pred, ← Int32.sub_eq_add_neg]
    split
    · exact ⟨_, rfl⟩
    · split
      · exact bat_go hN i nn (by omega)
      · obtain ⟨v, ev⟩ := stand_ok (N := N) (α := α) hN 0 (fR_at α 9 (nI i))
        rw [ev]
        show ∃ w, (if v = 0 then f_Par_boundAt_10 N α nn (nI i - 1) else some (nI i)) = some w
        split
        · exact bat_go hN i nn (by omega)
        · exact ⟨_, rfl⟩
theorem bat_ok (hN : 2 ^ 31 ≤ N) (h : tT K α) : ∃ v, f_Par_boundAt N α = some v := by
  have := row_sm h (r := 9) (by decide)
  exact bat_go hN (α.2.1 9).length N (by omega)
end FIND
section ADD
variable {N K : Nat}
theorem kMx5 : kMx 5 = 6144 := by decide
theorem kMx6 : kMx 6 = 16384 := by decide
theorem add55_go {x4 x3 x1 : Int32} : ∀ (d i nn : Nat) (β : kS), tT K β → (β.2.1 5).length + d ≤ 6144 → i + d = 12 → d < nn → ∃ γ, f_Env_add_55 N nn (nI i) x4 x3 x1 β = some (some (some x3), f_Env_fix x3 11 x4 (f_Env_fix x3 2 (-1) (f_Env_fix x3 1 (-1) (f_Env_fix x3 0 x1 γ)))) ∧ tT K γ ∧ ch [] [5] β γ ∧ γ.2.1 5 = β.2.1 5 ++ List.replicate d 0
  | 0, i, nn, β, h, hl, hi, hn => by
    obtain ⟨nn, rfl⟩ : ∃ n', nn = n' + 1 := ⟨nn - 1, by omega⟩
    refine ⟨β, ?_, h, ch.rf, by simp⟩
    rw [f_Env_add_55, if_pos (show (12 : Int32) ≤ nI i from nI_le (a := 12) (by omega) (by omega))]
  | d + 1, i, nn, β, h, hl, hi, hn => by
    obtain ⟨nn, rfl⟩ : ∃ n', nn = n' + 1 := ⟨nn - 1, by omega⟩
    obtain ⟨M, e, t⟩ := push_t (r := 5) 0 h (by decide) (by rw [kMx5]; omega)
    have row : (kRs β 5 (β.2.1 5 ++ [0]) M).2.1 5 = β.2.1 5 ++ [0] := krs_row
    obtain ⟨γ, g1, g2, g3, g4⟩ := add55_go d (i + 1) nn _ t (by rw [row, List.length_append]; show _ + 1 + d ≤ _; omega) (by omega) (by omega)
    refine ⟨γ, ?_, g2, (ch.rs (by decide)).tr g3, ?_⟩
    · rw [f_Env_add_55, if_neg (show ¬ (12 : Int32) ≤ nI i from nI_ge (b := 12) (by omega) (by decide))]
      refine (psh rfl e).trans ?_
      rw [nI_1]
      exact g1
    · rw [g4, row, List.append_assoc]
      rfl
theorem add24_go (hN : 2 ^ 31 ≤ N) {x4 x3 x1 : Int32} : ∀ (d i nn : Nat) (β : kS), tT K β → (β.1 12).toInt ≤ (i : Int) + d → (β.2.1 6).length + d ≤ 16384 → i + d ≤ 31 → d < nn → ∃ γ, f_Env_add_24 N nn (nI i) x4 x3 x1 β = f_Env_add_55 N N 0 x4 x3 x1 γ ∧ tT K γ ∧ ch [] [6] β γ ∧ (γ.2.1 6).length ≤ (β.2.1 6).length + d
  | 0, i, nn, β, h, h12, hl, hi, hn => by
    obtain ⟨nn, rfl⟩ : ∃ n', nn = n' + 1 := ⟨nn - 1, by omega⟩
    refine ⟨β, ?_, h, ch.rf, by omega⟩
    have c : f_Lex_length β ≤ nI i := by
      rw [Int32.le_iff_toInt_le, nI_toInt (by omega)]
      show (β.1 12).toInt ≤ _
      omega
    rw [f_Env_add_24, if_pos c]
  | d + 1, i, nn, β, h, h12, hl, hi, hn => by
    obtain ⟨nn, rfl⟩ : ∃ n', nn = n' + 1 := ⟨nn - 1, by omega⟩
    rw [f_Env_add_24]
    by_cases c : f_Lex_length β ≤ nI i
    · rw [if_pos c]
      exact ⟨β, rfl, h, ch.rf, by omega⟩
    · rw [if_neg c]
      obtain ⟨M, e, t⟩ := push_t (r := 6) (f_Lex_sign (nI i) β) h (by decide) (by rw [kMx6]; omega)
      have row : (kRs β 6 (β.2.1 6 ++ [f_Lex_sign (nI i) β]) M).2.1 6 = β.2.1 6 ++ [f_Lex_sign (nI i) β] := krs_row
      obtain ⟨γ, g1, g2, g3, g4⟩ := add24_go hN d (i + 1) nn _ t (by show (β.1 12).toInt ≤ _; omega) (by rw [row, List.length_append]; show _ + 1 + d ≤ _; omega) (by omega) (by omega)
      refine ⟨γ, ?_, g2, (ch.rs (by decide)).tr g3, ?_⟩
      · refine (psh rfl e).trans ?_
        rw [nI_1]
        exact g1
      · rw [row, List.length_append] at g4
        have : ([f_Lex_sign (nI i) β] : List Int32).length = 1 := rfl
        omega
/-- a CONSTANT more -/
theorem add_ok (hN : 2 ^ 31 ≤ N) {c m : Nat} {α : kS} {kd : Int32} (h : tT K α) (he : eI c K m α) (hc : c < 300) (h12 : l12 α) : ∃ γ, f_Env_add N kd α = some (some (some (nI c)), γ) ∧ tT K γ ∧ ch [] [5, 6] α γ ∧ eI (c + 1) K m γ ∧ (∀ i, i < 12 * c → (γ.2.1 5).getD i 0 = (α.2.1 5).getD i 0) ∧ fc γ c 0 = kd := by
  obtain ⟨a1, a2, a3, a4, a5, a6⟩ := id he
  obtain ⟨β, e1, t1, c1, l1⟩ := add24_go (N := N) hN (x4 := f_Lex_named (fR_size α 6) (f_Lex_length α) α) (x3 := f_Env_length α) (x1 := kd) 31 0 N α h (by have := h12.1; omega) (by omega) (by omega) (by omega)
  have b5 : β.2.1 5 = α.2.1 5 := c1.row (by decide) (by decide)
  obtain ⟨γ, e2, t2, c2, r2⟩ := add55_go (N := N) (x4 := f_Lex_named (fR_size α 6) (f_Lex_length α) α) (x3 := f_Env_length α) (x1 := kd) 12 0 N β t1 (by rw [b5]; omega) (by omega) (by omega)
  have l2 : (γ.2.1 5).length = 12 * (c + 1) := by rw [r2, List.length_append, List.length_replicate, b5]; omega
  rw [len_e h a1] at e1 e2
  have hcc : c < c + 1 := by omega
  obtain ⟨γ0, f0, t3, c3, l3, g3, p3⟩ := fix_l (k := c) (w := 0) (x := 0) t2 l2 hcc (by decide) rfl kd
  obtain ⟨γ1, f1, t4, c4, l4, g4, p4⟩ := fix_l (k := c) (w := 1) (x := 1) t3 (l3.trans l2) hcc (by decide) rfl (-1)
  obtain ⟨γ2, f2, t5, c5, l5, g5, p5⟩ := fix_l (k := c) (w := 2) (x := 2) t4 (l4.trans (l3.trans l2)) hcc (by decide) rfl (-1)
  obtain ⟨γ3, f3, t6, c6, l6, g6, p6⟩ := fix_l (k := c) (w := 11) (x := 11) t5 (l5.trans (l4.trans (l3.trans l2))) hcc (by decide) rfl (f_Lex_named (fR_size α 6) (f_Lex_length α) α)
  rw [f0, f1, f2, f3] at e2
  have c35 : ch [] [5] γ γ3 := ((c3.tr c4).tr c5).tr c6
  have cA : ch [] [5, 6] α γ3 := (c1.mo (by decide) (by decide)).tr ((c2.tr c35).mo (by decide) (by decide))
  have hk0 : ∀ w, w < 12 → fc γ c w = 0 := fun w hw => by
    unfold fc
    rw [r2, List.getD_eq_getElem?_getD, List.getElem?_append_right (by rw [b5]; omega), List.getElem?_replicate]
    split <;> rfl
  have hko : ∀ k w, k < c → w < 12 → fc γ3 k w = fc α k w := fun k w hk hw => by
    rw [g6 k w hw, if_neg (fun y => by have := y.1; omega), g5 k w hw, if_neg (fun y => by have := y.1; omega), g4 k w hw, if_neg (fun y => by have := y.1; omega), g3 k w hw, if_neg (fun y => by have := y.1; omega)]
    unfold fc
    rw [r2, b5, List.getD_eq_getElem?_getD, List.getD_eq_getElem?_getD, List.getElem?_append_left (by omega)]
  have hkn : ∀ w, w < 12 → fc γ3 c w = if w = 11 then f_Lex_named (fR_size α 6) (f_Lex_length α) α else if w = 2 then -1 else if w = 1 then -1 else if w = 0 then kd else 0 := fun w hw => by
    rw [g6 c w hw]
    by_cases z11 : w = 11
    · rw [if_pos ⟨rfl, z11⟩, if_pos z11]
    · rw [if_neg (fun y => z11 y.2), if_neg z11, g5 c w hw]
      by_cases z2 : w = 2
      · rw [if_pos ⟨rfl, z2⟩, if_pos z2]
      · rw [if_neg (fun y => z2 y.2), if_neg z2, g4 c w hw]
        by_cases z1 : w = 1
        · rw [if_pos ⟨rfl, z1⟩, if_pos z1]
        · rw [if_neg (fun y => z1 y.2), if_neg z1, g3 c w hw]
          by_cases z0 : w = 0
          · rw [if_pos ⟨rfl, z0⟩, if_pos z0]
          · rw [if_neg (fun y => z0 y.2), if_neg z0, hk0 w hw]
  refine ⟨γ3, ?_, t6, cA, ⟨l6.trans (l5.trans (l4.trans (l3.trans l2))), by omega, by omega, Nat.le_trans a4 cA.2.2.1, ?_, fun k hk => ?_⟩, fun i hi => ?_, by rw [hkn 0 (by decide)]; rfl⟩
  · unfold f_Env_add
    rw [len_e h a1]
    exact e1.trans e2
  · rw [(c2.tr c35).row (by decide) (by decide)]
    omega
  · rcases Nat.lt_or_ge k c with y | y
    · exact (a6 k y).g a4 cA.2.2 (fun w hw => hko k w y hw)
    · have : k = c := by omega
      subst this
      have nm : ∃ s : Nat, fc γ3 k 11 / 32 = nI s ∧ s ≤ 31 * k := by
        rw [hkn 11 (by decide)]
        obtain ⟨s, es, hs⟩ := name_s (S := (α.2.1 6).length) (x := α.1 12) (by omega) h12.1 h12.2
        exact ⟨s, es, by omega⟩
      refine ⟨nm, ⟨0, 0, 0, 0, by rw [hkn 3 (by decide)]; rfl, by rw [hkn 4 (by decide)]; rfl, by rw [hkn 5 (by decide)]; rfl, by rw [hkn 6 (by decide)]; rfl, by omega, by omega, by omega, by omega⟩, ⟨0, by rw [hkn 8 (by decide)]; rfl, by omega⟩, Or.inl (by rw [hkn 10 (by decide)]; rfl), Or.inl (by rw [hkn 2 (by decide)]; rfl), fun y => absurd y (by omega)⟩
  · have q : ∀ δ ε : kS, (∀ j, j < 12 * c → (ε.2.1 5).getD j 0 = (δ.2.1 5).getD j 0) → (ε.2.1 5).getD i 0 = (δ.2.1 5).getD i 0 := fun δ ε y => y i hi
    rw [p6 i hi, p5 i hi, p4 i hi, p3 i hi, r2, b5, List.getD_eq_getElem?_getD, List.getD_eq_getElem?_getD, List.getElem?_append_left (by omega)]
end ADD
