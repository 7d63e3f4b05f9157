-- what is shown: words and numbers
section SHOW
variable {N K : Nat}
theorem push1 {α : kS} (v : Int32) (h : tT K α) : ∃ β, fR_push α 1 v = some (some none, β) ∧ tT K β ∧ ch [] [1] α β ∧ sT α β := by
  obtain ⟨l, M, e, hk⟩ := push_shown v h.1.1
  exact ⟨_, e, h.rs (by decide) hk, ch.rs (by decide), rfl, rfl⟩
theorem text_go {r : Nat} (hr : r < 51) : ∀ (d i nn : Nat) (β : kS), tT K β → i + d = sLen.getD r 0 → d < nn → ∃ γ, f_Pri_text_2 N r nn (nI i) β = some (some none, γ) ∧ tT K γ ∧ ch [] [1] β γ ∧ sT β γ
  | 0, i, nn, β, h, hi, hn => by
    obtain ⟨nn, rfl⟩ : ∃ n', nn = n' + 1 := ⟨nn - 1, by omega⟩
    have h9 := sLen_sm r hr
    rw [f_Pri_text_2, if_pos (show sLn r ≤ nI i from nI_le (by omega) (by omega))]
    exact ⟨β, rfl, h, ch.rf, rfl, rfl⟩
  | d + 1, i, nn, β, h, hi, hn => by
    obtain ⟨nn, rfl⟩ : ∃ n', nn = n' + 1 := ⟨nn - 1, by omega⟩
    have h9 := sLen_sm r hr
    have hc : sCh r (nI i) = some ((sByt.getD r []).getD (nI i).toNatClampNeg 0) := by
      unfold sCh
      rw [if_neg]
      rintro (z | z)
      · exact nI_pos (by omega) z
      · rw [nI_clamp (by omega)] at z; omega
    rw [f_Pri_text_2, if_neg (show ¬ sLn r ≤ nI i from nI_ge (by omega) (by omega)), hc, obs]
    obtain ⟨γ, e, t, c1, s1⟩ := push1 (((sByt.getD r []).getD (nI i).toNatClampNeg 0)) h
    rw [e, kBv_s, nI_1]
    obtain ⟨δ, e2, t2, c2, s2⟩ := text_go hr d (i + 1) nn γ t (by omega) (by omega)
    exact ⟨δ, e2, t2, c1.tr c2, s1.tr s2⟩
theorem text_ok {r : Nat} {α : kS} (hN : 2 ^ 31 ≤ N) (hr : r < 51) (h : tT K α) : ∃ γ, f_Pri_text N r α = some (some none, γ) ∧ tT K γ ∧ ch [] [1] α γ ∧ sT α γ := by
  have h9 := sLen_sm r hr
  exact text_go hr (sLen.getD r 0) 0 N α h (by omega) (by omega)
theorem num18_go {x1 : Int32} : ∀ (u nn : Nat) (β : kS), tT K β → u < 2 ^ 31 → u < nn → ∃ γ, f_Pri_number_18 N nn (nI u) x1 β = some (some none, γ) ∧ tT K γ ∧ ch [] [1] β γ ∧ sT β γ := by
  intro u
  induction u using Nat.strongRecOn with
  | ind u ih =>
    intro nn β h hu hn
    obtain ⟨nn, rfl⟩ : ∃ n', nn = n' + 1 := ⟨nn - 1, by omega⟩
    rw [f_Pri_number_18]
    rcases Nat.eq_zero_or_pos u with rfl | h0
    · rw [if_pos (by decide)]
      exact ⟨β, rfl, h, ch.rf, rfl, rfl⟩
    · have c0 : ¬ nI u ≤ 0 := nI_ge (a := 0) (b := u) h0 hu
      have c1 : ¬ nI u = 0 := nI_ne (m := 0) hu (by omega) (by omega)
      rw [if_neg c0, if_neg c1]
      obtain ⟨γ, e, t, c2, s1⟩ := push1 (48 + ((x1 / nI u) - (x1 / nI u) / 10 * 10)) h
      rw [e, kBv_s, show nI u / 10 = nI (u / 10) from pk_div hu (by decide) (by decide)]
      obtain ⟨δ, e2, t2, c3, s2⟩ := ih (u / 10) (by omega) nn γ t (by omega) (by omega)
      exact ⟨δ, e2, t2, c2.tr c3, s1.tr s2⟩
theorem num2_go (hN : 2 ^ 31 ≤ N) {v : Nat} (hv : v < 2 ^ 31) : ∀ (d u nn : Nat) (β : kS), tT K β → 0 < u → (u ≤ v ∨ u = 1) → v + 1 ≤ u + d → d < nn → ∃ γ, f_Pri_number_2 N nn (nI u) (nI v) β = some (some none, γ) ∧ tT K γ ∧ ch [] [1] β γ ∧ sT β γ
  | 0, u, nn, β, h, h0, h1, hd, hn => by
    obtain ⟨nn, rfl⟩ : ∃ n', nn = n' + 1 := ⟨nn - 1, by omega⟩
    have e1 : nI v / 10 = nI (v / 10) := pk_div hv (by decide) (by decide)
    rcases Nat.lt_or_ge u (2 ^ 31) with z | z
    · rw [f_Pri_number_2, e1, if_pos (nI_lt (by omega) z)]
      exact num18_go u N β h z (by omega)
    · omega
  | d + 1, u, nn, β, h, h0, h1, hd, hn => by
    obtain ⟨nn, rfl⟩ : ∃ n', nn = n' + 1 := ⟨nn - 1, by omega⟩
    have e1 : nI v / 10 = nI (v / 10) := pk_div hv (by decide) (by decide)
    rcases Nat.lt_or_ge u (2 ^ 31) with z | z
    · rw [f_Pri_number_2, e1]
      by_cases c : v / 10 < u
      · rw [if_pos (nI_lt c z)]
        exact num18_go u N β h z (by omega)
      · rw [if_neg (nI_nlt (by omega) (by omega)), show nI u * 10 = nI (u * 10) from pk_mul u 10]
        exact num2_go hN hv d (u * 10) nn β h (by omega) (Or.inl (by omega)) (by omega) (by omega)
    · omega
theorem number_ok {α : kS} (hN : 2 ^ 31 ≤ N) (h : tT K α) (x : Int32) : ∃ γ, f_Pri_number N x α = some (some none, γ) ∧ tT K γ ∧ ch [] [1] α γ ∧ sT α γ := by
  by_cases hx : x < 0
  · obtain ⟨n, rfl⟩ : ∃ n', N = n' + 1 := ⟨N - 1, by omega⟩
    have c : x / 10 < 1 := by
      rw [Int32.lt_iff_toInt_lt, Int32.toInt_div_of_ne_right x 10 (by decide)]
      rw [Int32.lt_iff_toInt_lt] at hx
      have hx : x.toInt < 0 := hx
      show x.toInt.tdiv 10 < 1
      rw [Int.tdiv_eq_ediv]
      split
      · omega
      · rw [show Int.sign 10 = 1 from rfl]; omega
    show ∃ γ, f_Pri_number_2 (n + 1) (n + 1) 1 x α = _ ∧ _
    rw [f_Pri_number_2, if_pos c]
    exact num18_go 1 (n + 1) α h (by omega) (by omega)
  · obtain ⟨v, hv, rfl⟩ := nI_of hx
    exact num2_go hN hv v 1 N α h (by omega) (Or.inr rfl) (by omega) (by omega)
theorem name2_go {x1 : Int32} {l : Nat} (hl : l < 2 ^ 31) : ∀ (d i nn : Nat) (β : kS), tT K β → f_Env_nameLength x1 β = nI l → i + d = l → d < nn → ∃ γ, f_Pri_name_2 N nn (nI i) x1 β = some (some none, γ) ∧ tT K γ ∧ ch [] [1] β γ ∧ sT β γ
  | 0, i, nn, β, h, el, hi, hn => by
    obtain ⟨nn, rfl⟩ : ∃ n', nn = n' + 1 := ⟨nn - 1, by omega⟩
    rw [f_Pri_name_2, el, if_pos (nI_le (by omega) (by omega))]
    exact ⟨β, rfl, h, ch.rf, rfl, rfl⟩
  | d + 1, i, nn, β, h, el, hi, hn => by
    obtain ⟨nn, rfl⟩ : ∃ n', nn = n' + 1 := ⟨nn - 1, by omega⟩
    rw [f_Pri_name_2, el, if_neg (nI_ge (by omega) (by omega))]
    obtain ⟨γ, e, t, c1, s1⟩ := push1 (f_Env_nameByte x1 (nI i) β) h
    rw [e, kBv_s, nI_1]
    have el' : f_Env_nameLength x1 γ = nI l := by
      rw [← el]
      unfold f_Env_nameLength f_Env_fact fR_at f_Lex_lengthOf
      rw [c1.row (by decide) (by decide)]
    obtain ⟨δ, e2, t2, c2, s2⟩ := name2_go hl d (i + 1) nn γ t el' (by omega) (by omega)
    exact ⟨δ, e2, t2, c1.tr c2, s1.tr s2⟩
theorem name_p {α : kS} (hN : 2 ^ 31 ≤ N) (h : tT K α) (x : Int32) : ∃ γ, f_Pri_name N x α = some (some none, γ) ∧ tT K γ ∧ ch [] [1] α γ ∧ sT α γ := by
  by_cases hx : f_Env_nameLength x α < 0
  · obtain ⟨n, rfl⟩ : ∃ n', N = n' + 1 := ⟨N - 1, by omega⟩
    show ∃ γ, f_Pri_name_2 (n + 1) (n + 1) 0 x α = _ ∧ _
    rw [f_Pri_name_2, if_pos (Int32.le_of_lt hx)]
    exact ⟨α, rfl, h, ch.rf, rfl, rfl⟩
  · obtain ⟨l, hl, e⟩ := nI_of hx
    exact name2_go hl l 0 N α h e (by omega) (by omega)
theorem sort_p {α : kS} (hN : 2 ^ 31 ≤ N) (h : tT K α) (x : Int32) : ∃ γ, f_Pri_sort N x α = some (some none, γ) ∧ tT K γ ∧ ch [] [1] α γ ∧ sT α γ := by
  unfold f_Pri_sort
  split
  · obtain ⟨γ, e, r⟩ := text_ok (N := N) (r := 20) hN (by decide) h
    rw [e]
    exact ⟨γ, rfl, r⟩
  · obtain ⟨γ, e, t, c, s⟩ := text_ok (N := N) (r := 21) hN (by decide) h
    rw [e, kBv_s]
    obtain ⟨δ, e2, t2, c2, s2⟩ := number_ok (N := N) hN t (x - 1)
    rw [e2]
    exact ⟨δ, rfl, t2, c.tr c2, s.tr s2⟩
theorem piece_p {α : kS} (hN : 2 ^ 31 ≤ N) (h : tT K α) (x : Int32) : ∃ γ, f_Pri_piece N x α = some (some none, γ) ∧ tT K γ ∧ ch [] [1] α γ ∧ sT α γ := by
  have tx : ∀ r, r < 51 → ∃ γ, (kBv (f_Pri_text N r α) fun β => some (some none, β)) = some (some none, γ) ∧ tT K γ ∧ ch [] [1] α γ ∧ sT α γ := fun r hr => by
    obtain ⟨γ, e, q⟩ := text_ok (N := N) hN hr h
    rw [e]
    exact ⟨γ, rfl, q⟩
  unfold f_Pri_piece
  split
  · exact tx 18 (by decide)
  split
  · exact tx 17 (by decide)
  split
  · exact tx 16 (by decide)
  split
  · exact tx 15 (by decide)
  split
  · exact tx 14 (by decide)
  split
  · exact tx 13 (by decide)
  · exact tx 19 (by decide)
end SHOW
