-- the reference's words
abbrev lxI : List Nat := [5, 6, 7, 8, 9]
/-- sz bytes, p of them behind us -/
def LK (sz p : Nat) (α : mS) : Prop := α.1 0 = nI sz ∧ sz ≤ 65536 ∧ α.1 5 = nI p ∧ p ≤ sz ∧ (α.1 9 = 0 ∨ ∃ a e, α.1 7 = nI a ∧ α.1 8 = nI e ∧ a ≤ e ∧ e ≤ sz ∧ p ≤ e ∧ (α.1 6 = 0 ∨ p < e) ∧ (α.1 6 = 1 → e ≤ a + 31))
/-- the next word is known -/
def PK (sz p : Nat) (α : mS) : Prop := LK sz p α ∧ α.1 9 ≠ 0
section LEXM
variable {N sz p : Nat} {α β : mS}
theorem LK.ch {I R : List Nat} (h : LK sz p α) (hc : mch I R α β) (h0 : ∀ i, i ∈ [0, 5, 6, 7, 8, 9] → i ∉ I) : LK sz p β := by
  unfold LK
  rw [hc.int (h0 0 (by decide)), hc.int (h0 5 (by decide)), hc.int (h0 6 (by decide)), hc.int (h0 7 (by decide)), hc.int (h0 8 (by decide)), hc.int (h0 9 (by decide))]
  exact h
theorem parts_27 {k0 : mS → Option (kO × mS)} {Q : Option (kO × mS) → Prop} (hs : sz ≤ 65536) (hk : ∀ (q : Nat) (β : mS), p ≤ q → q ≤ sz → (∀ i, i ≠ 5 → β.1 i = α.1 i) → β.2 = α.2 → β.1 5 = nI q → Q (k0 β)) : ∀ (d q nn : Nat) (β : mS), q + d = sz → d < nn → p ≤ q → (∀ i, i ≠ 5 → β.1 i = α.1 i) → β.2 = α.2 → β.1 5 = nI q → α.1 0 = nI sz → Q (f_Mod_parts_27 N k0 nn β)
  | 0, q, nn, β, hq, hn, hp, hi, ha, h5, h0 => by
    obtain ⟨nn, rfl⟩ : ∃ n', nn = n' + 1 := ⟨nn - 1, by omega⟩
    rw [f_Mod_parts_27, if_pos (by rw [hi 0 (by decide), h0, h5]; exact nI_le (by omega) (by omega))]
    exact hk q β hp (by omega) hi ha h5
  | d + 1, q, nn, β, hq, hn, hp, hi, ha, h5, h0 => by
    obtain ⟨nn, rfl⟩ : ∃ n', nn = n' + 1 := ⟨nn - 1, by omega⟩
    rw [f_Mod_parts_27, if_neg (by rw [hi 0 (by decide), h0, h5]; exact nI_ge (by omega) (by omega)), h5, if_neg (mix (by omega) (by decide))]
    by_cases c : β.2 0 (nI q).toNatClampNeg = 10
    · rw [if_pos c]; exact hk q β hp (by omega) hi ha h5
    · rw [if_neg c, nI_1]
      exact parts_27 hs hk d (q + 1) nn _ (by omega) (by omega) (by omega) (fun i h => (mSi_ne h).trans (hi i h)) ha mSi_at h0
theorem parts_0 (hN : 400000 < N) (hs : sz ≤ 65536) : ∀ (d q nn : Nat) (β : mS), q + d = sz → d < nn → β.1 0 = nI sz → β.1 5 = nI q → ∃ γ p', f_Mod_parts_0 N nn β = some (some none, γ) ∧ q ≤ p' ∧ p' ≤ sz ∧ γ.1 5 = nI p' ∧ (∀ i, i ≠ 5 → γ.1 i = β.1 i) ∧ γ.2 = β.2 := by
  intro d
  induction d using Nat.strongRecOn with
  | ind d ih =>
    intro q nn β hq hn h0 h5
    obtain ⟨nn, rfl⟩ : ∃ n', nn = n' + 1 := ⟨nn - 1, by omega⟩
    rw [f_Mod_parts_0, h0, h5]
    cases d with
    | zero =>
      rw [if_pos (nI_le (by omega) (by omega))]
      exact ⟨β, q, rfl, Nat.le_refl _, by omega, h5, fun _ _ => rfl, rfl⟩
    | succ d =>
      rw [if_neg (nI_ge (by omega) (by omega)), if_neg (mix (by omega) (by decide))]
      have e1 : (mSi β 5 (nI (q + 1))).1 5 = nI (q + 1) := mSi_at
      have j89 : ∃ γ p', f_Mod_parts_j89 N (f_Mod_parts_0 N nn) β = some (some none, γ) ∧ q ≤ p' ∧ p' ≤ sz ∧ γ.1 5 = nI p' ∧ (∀ i, i ≠ 5 → γ.1 i = β.1 i) ∧ γ.2 = β.2 := by
        unfold f_Mod_parts_j89
        rw [h5, nI_1]
        obtain ⟨γ, p', e, a, b, c, dd, f⟩ := ih d (by omega) (q + 1) nn (mSi β 5 (nI (q + 1))) (by omega) (by omega) ((mSi_ne (by decide)).trans h0) e1
        exact ⟨γ, p', e, by omega, b, c, fun i hi => (dd i hi).trans (mSi_ne hi), f⟩
      by_cases c37 : β.2 0 (nI q).toNatClampNeg = 37
      · rw [if_pos c37]
        obtain ⟨M, hM⟩ : ∃ M, N = M + 1 := ⟨N - 1, by omega⟩
        have st : f_Mod_parts_27 N (f_Mod_parts_0 N nn) N β = f_Mod_parts_27 N (f_Mod_parts_0 N nn) M (mSi β 5 (nI (q + 1))) := by
          conv => lhs; rw [show f_Mod_parts_27 N (f_Mod_parts_0 N nn) N β = f_Mod_parts_27 N (f_Mod_parts_0 N nn) (M + 1) β by rw [← hM]]
          rw [f_Mod_parts_27, h0, h5, if_neg (nI_ge (by omega) (by omega)), if_neg (mix (by omega) (by decide)), if_neg (by rw [c37]; decide), nI_1]
        rw [st]
        refine parts_27 (p := q + 1) (α := mSi β 5 (nI (q + 1))) (Q := fun x => ∃ γ p', x = some (some none, γ) ∧ q ≤ p' ∧ p' ≤ sz ∧ γ.1 5 = nI p' ∧ (∀ i, i ≠ 5 → γ.1 i = β.1 i) ∧ γ.2 = β.2) hs (fun q' γ a b ci ca c5 => ?_) d (q + 1) M _ (by omega) (by omega) (Nat.le_refl _) (fun _ _ => rfl) rfl e1 ((mSi_ne (by decide)).trans h0)
        obtain ⟨δ, p', e, x1, x2, x3, x4, x5⟩ := ih (sz - q') (by omega) q' nn γ (by omega) (by omega) ((ci 0 (by decide)).trans ((mSi_ne (by decide)).trans h0)) c5
        exact ⟨δ, p', e, by omega, x2, x3, fun i hi => (x4 i hi).trans ((ci i hi).trans (mSi_ne hi)), x5.trans ca⟩
      rw [if_neg c37]
      by_cases c1 : β.2 0 (nI q).toNatClampNeg = 32
      · rw [if_pos c1]; exact j89
      rw [if_neg c1]
      by_cases c2 : β.2 0 (nI q).toNatClampNeg = 9
      · rw [if_pos c2]; exact j89
      rw [if_neg c2]
      by_cases c3 : β.2 0 (nI q).toNatClampNeg = 10
      · rw [if_pos c3]; exact j89
      rw [if_neg c3]
      by_cases c4 : β.2 0 (nI q).toNatClampNeg = 13
      · rw [if_pos c4]; exact j89
      rw [if_neg c4]
      exact ⟨β, q, rfl, Nat.le_refl _, by omega, h5, fun _ _ => rfl, rfl⟩
theorem parts_ok (hN : 400000 < N) (h : LK sz p α) : ∃ γ p', f_Mod_parts N α = some (some none, γ) ∧ p ≤ p' ∧ p' ≤ sz ∧ γ.1 5 = nI p' ∧ (∀ i, i ≠ 5 → γ.1 i = α.1 i) ∧ γ.2 = α.2 := by
  obtain ⟨h0, hs, h5, hp, -⟩ := h
  exact parts_0 hN hs (sz - p) p N α (by omega) (by omega) h0 h5
/-- what peek gives -/
def PQm (sz p : Nat) (α : mS) (x : Option (kO × mS)) : Prop := ∃ v β p', x = some (some (some v), β) ∧ p ≤ p' ∧ PK sz p' β ∧ β.1 6 = v ∧ mch lxI [] α β
theorem pk_fin {q e : Nat} {v : Int32} (h0 : β.1 0 = nI sz) (hs : sz ≤ 65536) (h5 : β.1 5 = nI q) (hpq : p ≤ q) (hq : q < e) (he : e ≤ sz) (h7 : β.1 7 = nI q) (h8 : β.1 8 = nI e) (h9 : β.1 9 = 1) (h6 : β.1 6 = v) (hv : v = 1 → e ≤ q + 31) (hc : mch lxI [] α β) : PQm sz p α (some (some (some v), β)) :=
  ⟨v, _, q, rfl, hpq, ⟨⟨h0, hs, h5, by omega, Or.inr ⟨q, e, h7, h8, by omega, he, by omega, Or.inr hq, fun z => hv (h6.symm.trans z)⟩⟩, by rw [h9]; decide⟩, h6, hc⟩
theorem pk_end {q e : Nat} {v : Int32} (h0 : β.1 0 = nI sz) (hs : sz ≤ 65536) (h5 : β.1 5 = nI q) (hpq : p ≤ q) (hq : q < e) (he : e ≤ sz) (h7 : β.1 7 = nI q) (h8 : β.1 8 = nI e) (h9 : β.1 9 = 1) (hv : v = 1 → e ≤ q + 31) (hc : mch lxI [] α β) : PQm sz p α (some (some (some v), mSi β 6 v)) :=
  pk_fin ((mSi_ne (by decide)).trans h0) hs ((mSi_ne (by decide)).trans h5) hpq hq he ((mSi_ne (by decide)).trans h7) ((mSi_ne (by decide)).trans h8) ((mSi_ne (by decide)).trans h9) mSi_at hv (hc.tr (mch.si (by decide)))
theorem sub_nI {a b : Nat} (h : b ≤ a) : nI a - nI b = nI (a - b) := pk_sub h
theorem pk_187 {q : Nat} (hs : sz ≤ 65536) (hpq : p ≤ q) : ∀ (d e nn : Nat) (β : mS), e + d = sz → d < nn → q < e → β.1 0 = nI sz → β.1 5 = nI q → β.1 7 = nI q → β.1 8 = nI e → β.1 9 = 1 → mch lxI [] α β → PQm sz p α (f_Mod_peek_187 N nn β) := by
  intro d
  induction d with
  | zero =>
    intro e nn β he hn hq h0 h5 h7 h8 h9 hc
    obtain ⟨nn, rfl⟩ : ∃ n', nn = n' + 1 := ⟨nn - 1, by omega⟩
    rw [f_Mod_peek_187, h0, h8, if_pos (nI_le (by omega) (by omega))]
    unfold f_Mod_peek_j226
    split
    · exact pk_end h0 hs h5 hpq hq (by omega) h7 h8 h9 (fun z => absurd z (by decide)) hc
    · exact pk_end h0 hs h5 hpq hq (by omega) h7 h8 h9 (fun z => absurd z (by decide)) hc
  | succ d ih =>
    intro e nn β he hn hq h0 h5 h7 h8 h9 hc
    obtain ⟨nn, rfl⟩ : ∃ n', nn = n' + 1 := ⟨nn - 1, by omega⟩
    have j226 : PQm sz p α (f_Mod_peek_j226 N β) := by
      unfold f_Mod_peek_j226
      split
      · exact pk_end h0 hs h5 hpq hq (by omega) h7 h8 h9 (fun z => absurd z (by decide)) hc
      · exact pk_end h0 hs h5 hpq hq (by omega) h7 h8 h9 (fun z => absurd z (by decide)) hc
    rw [f_Mod_peek_187, h0, h8, if_neg (nI_ge (by omega) (by omega)), if_neg (mix (by omega) (by decide)), nI_1]
    split
    · exact j226
    · exact ih (e + 1) nn _ (by omega) (by omega) (by omega) ((mSi_ne (by decide)).trans h0) ((mSi_ne (by decide)).trans h5) ((mSi_ne (by decide)).trans h7) mSi_at ((mSi_ne (by decide)).trans h9) (hc.tr (mch.si (by decide)))
theorem pk_72 {q : Nat} (hs : sz ≤ 65536) (hpq : p ≤ q) : ∀ (d e nn : Nat) (β : mS), e + d = sz → d < nn → q < e → β.1 0 = nI sz → β.1 5 = nI q → β.1 7 = nI q → β.1 8 = nI e → β.1 9 = 1 → mch lxI [] α β → PQm sz p α (f_Mod_peek_72 N nn β) := by
  intro d
  have j154 : ∀ (e : Nat) (β : mS), q < e → e ≤ sz → β.1 0 = nI sz → β.1 5 = nI q → β.1 7 = nI q → β.1 8 = nI e → β.1 9 = 1 → mch lxI [] α β → PQm sz p α (f_Mod_peek_j154 N β) := fun e β hq he h0 h5 h7 h8 h9 hc => by
    unfold f_Mod_peek_j154
    rw [h8, h5, sub_nI (by omega)]
    by_cases c : nI (e - q) ≤ 31
    · rw [if_pos c]
      exact pk_end h0 hs h5 hpq hq he h7 h8 h9 (fun _ => by have := Nat.not_lt.mp fun z => absurd c (nI_ge (a := 31) (b := e - q) z (by omega)); omega) hc
    · rw [if_neg c]
      exact pk_end h0 hs h5 hpq hq he h7 h8 h9 (fun z => absurd z (by decide)) hc
  induction d with
  | zero =>
    intro e nn β he hn hq h0 h5 h7 h8 h9 hc
    obtain ⟨nn, rfl⟩ : ∃ n', nn = n' + 1 := ⟨nn - 1, by omega⟩
    rw [f_Mod_peek_72, h0, h8, if_pos (nI_le (by omega) (by omega))]
    exact j154 e β hq (by omega) h0 h5 h7 h8 h9 hc
  | succ d ih =>
    intro e nn β he hn hq h0 h5 h7 h8 h9 hc
    obtain ⟨nn, rfl⟩ : ∃ n', nn = n' + 1 := ⟨nn - 1, by omega⟩
    have j1 := j154 e β hq (by omega) h0 h5 h7 h8 h9 hc
    have j2 : PQm sz p α (f_Mod_peek_j141 N (f_Mod_peek_72 N nn) β) := by
      unfold f_Mod_peek_j141
      rw [h8, nI_1]
      exact ih (e + 1) nn _ (by omega) (by omega) (by omega) ((mSi_ne (by decide)).trans h0) ((mSi_ne (by decide)).trans h5) ((mSi_ne (by decide)).trans h7) mSi_at ((mSi_ne (by decide)).trans h9) (hc.tr (mch.si (by decide)))
    have ix := mix (i := e) (n := 65536) (by omega) (by decide)
    rw [f_Mod_peek_72, h0, h8, if_neg (nI_ge (by omega) (by omega)), if_neg ix, if_neg ix, if_neg ix, if_neg ix]
    repeat' split
    all_goals first | exact j1 | exact j2
theorem sign_0 (a : Int32) (δ : mS) : f_Mod_sign a 0 δ ≤ 299 := by
  unfold f_Mod_sign
  rw [if_neg (show ¬ (0 : Int32) = 62 by decide), if_neg (show ¬ (0 : Int32) = 61 by decide)]
  repeat' split
  all_goals first | decide | (rename_i q; exact absurd q (by decide)) | (rename_i q; rw [q]; decide)
theorem peek_ok (hN : 400000 < N) (h : LK sz p α) : PQm sz p α (f_Mod_peek N α) := by
  by_cases c9 : α.1 9 = 0
  · obtain ⟨γ, q, e, hpq, hqs, h5, hi, ha⟩ := parts_ok hN h
    obtain ⟨h0, hs, -, hp, -⟩ := h
    have g0 : γ.1 0 = nI sz := (hi 0 (by decide)).trans h0
    have cg : mch lxI [] α γ := ⟨fun i hi' => hi i fun z => hi' (by rw [z]; decide), fun r _ => by rw [ha]⟩
    unfold f_Mod_peek
    rw [if_pos c9, e]
    show PQm sz p α (if γ.1 5 = γ.1 0 then _ else _)
    obtain ⟨B, eB⟩ : ∃ B, B = mSi (mSi (mSi (mSi γ 9 1) 7 (γ.1 5)) 8 (γ.1 5)) 6 0 := ⟨_, rfl⟩
    rw [← eB]
    have b0 : B.1 0 = nI sz := by rw [eB]; exact g0
    have b5 : B.1 5 = nI q := by rw [eB]; exact h5
    have b7 : B.1 7 = nI q := by rw [eB]; exact h5
    have b8 : B.1 8 = nI q := by rw [eB]; exact h5
    have b9 : B.1 9 = 1 := by rw [eB]; rfl
    have cB : mch lxI [] α B := by rw [eB]; exact cg.tr ((((mch.si (by decide)).tr (mch.si (by decide))).tr (mch.si (by decide))).tr (mch.si (by decide)))
    by_cases c5 : γ.1 5 = γ.1 0
    · rw [if_pos c5]
      refine ⟨0, B, q, rfl, hpq, ⟨⟨b0, hs, b5, hqs, Or.inr ⟨q, q, b7, b8, Nat.le_refl _, hqs, Nat.le_refl _, Or.inl (by rw [eB]; rfl), fun z => by omega⟩⟩, by rw [b9]; decide⟩, by rw [eB]; rfl, cB⟩
    · have hq : q < sz := by
        rcases Nat.lt_or_ge q sz with z | z
        · exact z
        · exact absurd (by rw [h5, g0, show q = sz by omega]) c5
      rw [if_neg c5, h5, if_neg (mix (by omega) (by decide)), nI_1]
      split
      · split
        · -- a sign
          have bb : ∃ x, f_Mod_byteAt N (nI (q + 1)) (mSi B 8 (nI (q + 1))) = some x ∧ (x ≠ 0 → q + 1 < sz) := by
            unfold f_Mod_byteAt
            rw [show (mSi B 8 (nI (q + 1))).1 0 = nI sz from (mSi_ne (by decide)).trans b0]
            by_cases z : sz ≤ q + 1
            · rw [if_pos (nI_le z (by omega))]
              exact ⟨0, rfl, fun y => absurd rfl y⟩
            · rw [if_neg (nI_ge (by omega) (by omega)), if_neg (mix (by omega) (by decide))]
              exact ⟨_, rfl, fun _ => by omega⟩
          obtain ⟨x, ex, hx⟩ := bb
          rw [ex]
          show PQm sz p α (if _ ≤ 299 then _ else _)
          have c8 : mch lxI [] α (mSi B 8 (nI (q + 1))) := cB.tr (mch.si (by decide))
          have d0 : (mSi B 8 (nI (q + 1))).1 0 = nI sz := (mSi_ne (by decide)).trans b0
          have d5 : (mSi B 8 (nI (q + 1))).1 5 = nI q := (mSi_ne (by decide)).trans b5
          have d7 : (mSi B 8 (nI (q + 1))).1 7 = nI q := (mSi_ne (by decide)).trans b7
          have d9 : (mSi B 8 (nI (q + 1))).1 9 = 1 := (mSi_ne (by decide)).trans b9
          have s1 : ∀ (y : Int32) (δ : mS), f_Mod_sign y x δ = 1 → False := fun y δ z => by
            unfold f_Mod_sign at z
            repeat' split at z
            all_goals first | exact absurd z (by decide) | (rename_i q; rw [q] at z; exact absurd z (by decide)) | (rename_i q _; rw [q] at z; exact absurd z (by decide)) | skip
          split
          · exact pk_end d0 hs d5 hpq (Nat.lt_succ_self _) (by omega) d7 mSi_at d9 (fun z => (s1 _ _ z).elim) c8
          · rename_i c299
            have hx0 : x ≠ 0 := fun z => c299 (by rw [z]; exact sign_0 _ _)
            have hq2 := hx hx0
            rw [nI_1]
            exact pk_fin (e := q + 1 + 1) b0 hs b5 hpq (by omega) (by omega) b7 rfl b9 rfl (fun z => (s1 _ _ z).elim) ((c8.tr (mch.si (by decide))).tr (mch.si (by decide)))
        · rename_i cd
          obtain ⟨M, hM⟩ : ∃ M, N = M + 1 := ⟨N - 1, by omega⟩
          have st : f_Mod_peek_187 N N B = f_Mod_peek_187 N M (mSi B 8 (nI (q + 1))) := by
            conv => lhs; rw [show f_Mod_peek_187 N N B = f_Mod_peek_187 N (M + 1) B by rw [← hM]]
            rw [f_Mod_peek_187, b0, b8, if_neg (nI_ge (by omega) (by omega)), if_neg (mix (by omega) (by decide)), if_neg cd, nI_1]
          rw [st]
          exact pk_187 hs hpq (sz - q - 1) (q + 1) M _ (by omega) (by omega) (by omega) ((mSi_ne (by decide)).trans b0) ((mSi_ne (by decide)).trans b5) ((mSi_ne (by decide)).trans b7) mSi_at ((mSi_ne (by decide)).trans b9) (cB.tr (mch.si (by decide)))
      · rename_i cl
        obtain ⟨M, hM⟩ : ∃ M, N = M + 1 := ⟨N - 1, by omega⟩
        have st : f_Mod_peek_72 N N B = f_Mod_peek_72 N M (mSi B 8 (nI (q + 1))) := by
          conv => lhs; rw [show f_Mod_peek_72 N N B = f_Mod_peek_72 N (M + 1) B by rw [← hM]]
          rw [f_Mod_peek_72, b0, b8, if_neg (nI_ge (by omega) (by omega)), if_neg (mix (by omega) (by decide)), if_neg cl]
          unfold f_Mod_peek_j141
          rw [b8, nI_1]
        rw [st]
        exact pk_72 hs hpq (sz - q - 1) (q + 1) M _ (by omega) (by omega) (by omega) ((mSi_ne (by decide)).trans b0) ((mSi_ne (by decide)).trans b5) ((mSi_ne (by decide)).trans b7) mSi_at ((mSi_ne (by decide)).trans b9) (cB.tr (mch.si (by decide)))
  · unfold f_Mod_peek
    rw [if_neg c9]
    exact ⟨_, α, p, rfl, Nat.le_refl _, ⟨h, c9⟩, rfl, mch.rf⟩
/-- take: one word further -/
theorem take_m (hN : 400000 < N) (h : LK sz p α) : ∃ β p', f_Mod_take N α = some (some none, β) ∧ p ≤ p' ∧ LK sz p' β ∧ mch lxI [] α β ∧ (α.1 9 ≠ 0 → α.1 6 ≠ 0 → p < p') := by
  obtain ⟨v, β, q, e, hq, ⟨⟨h0, hs, h5, hp, hk⟩, h9⟩, h6, hc⟩ := peek_ok hN h
  obtain ⟨a, ee, k7, k8, k1, k2, k3, k4, k5⟩ := hk.resolve_left h9
  unfold f_Mod_take
  rw [e]
  refine ⟨_, ee, rfl, by omega, ⟨h0, hs, k8, k2, Or.inl rfl⟩, hc.tr ((mch.si (by decide)).tr (mch.si (by decide))), fun z1 z2 => ?_⟩
  have : f_Mod_peek N α = some (some (some (α.1 6)), α) := by unfold f_Mod_peek; rw [if_neg z1]
  rw [this] at e
  injection e with e
  injection e with e1 e2
  subst e2
  have hpq : p = q := by
    have := h.2.2.1.symm.trans h5
    exact (nI_eq (by have := h.2.1; have := h.2.2.2.1; omega) (by omega)).mp this
  rcases k4 with z | z
  · exact absurd z z2
  · omega
/-- a question about the next word -/
def IQm (sz p : Nat) (α : mS) (x : Option (kO × mS)) : Prop := ∃ v β p', x = some (some (some v), β) ∧ p ≤ p' ∧ PK sz p' β ∧ mch lxI [] α β ∧ (α.1 9 ≠ 0 → β = α)
theorem peek_same (h9 : α.1 9 ≠ 0) : f_Mod_peek N α = some (some (some (α.1 6)), α) := by unfold f_Mod_peek; rw [if_neg h9]
theorem is_28 {r a : Nat} (hr : r < 51) (h7 : α.1 7 = nI a) (ha : a + sLen.getD r 0 ≤ 65536) : ∀ (d i nn : Nat), i + d = sLen.getD r 0 → d < nn → ∃ v, f_Mod_is_28 N r nn (nI i) α = some (some (some v), α)
  | 0, i, nn, hi, hn => by
    obtain ⟨nn, rfl⟩ : ∃ n', nn = n' + 1 := ⟨nn - 1, by omega⟩
    have h9 := sLen_sm r hr
    rw [f_Mod_is_28, if_pos (show sLn r ≤ nI i from nI_le (by omega) (by omega))]
    exact ⟨1, rfl⟩
  | d + 1, i, nn, hi, hn => by
    obtain ⟨nn, rfl⟩ : ∃ n', nn = n' + 1 := ⟨nn - 1, by omega⟩
    have h9 := sLen_sm r hr
    have hc : sCh r (nI i) = some ((sByt.getD r []).getD (nI i).toNatClampNeg 0) := by
      unfold sCh
      rw [if_neg]
      rintro (z | z)
      · exact nI_pos (by omega) z
      · rw [nI_clamp (by omega)] at z; omega
    rw [f_Mod_is_28, if_neg (show ¬ sLn r ≤ nI i from nI_ge (by omega) (by omega)), h7, nI_add, if_neg (mix (by omega) (by decide)), hc]
    show ∃ v, (if (α.2 0 (nI (a + i)).toNatClampNeg) = ((sByt.getD r []).getD (nI i).toNatClampNeg 0) then _ else _) = _
    split
    · rw [nI_1]
      exact is_28 hr h7 ha d (i + 1) nn (by omega) (by omega)
    · exact ⟨0, rfl⟩
theorem is_ok {r : Nat} (hN : 400000 < N) (hr : r < 51) (h : LK sz p α) : IQm sz p α (f_Mod_is N r α) := by
  obtain ⟨v, β, q, e, hq, hP, h6, hc⟩ := peek_ok hN h
  have hs : α.1 9 ≠ 0 → β = α := fun z => by
    rw [peek_same z] at e
    injection e with e
    injection e with _ e
    exact e.symm
  obtain ⟨⟨h0, hsz, h5, hp, hk⟩, h9⟩ := hP
  obtain ⟨a, ee, k7, k8, k1, k2, k3, k4, k5⟩ := hk.resolve_left h9
  unfold f_Mod_is
  rw [e]
  show IQm sz p α (if v = 1 then _ else _)
  have no : ∀ x : Int32, IQm sz p α (some (some (some x), β)) := fun x => ⟨x, β, q, rfl, hq, ⟨⟨h0, hsz, h5, hp, hk⟩, h9⟩, hc, hs⟩
  split
  · split
    · rename_i c
      have l9 := sLen_sm r hr
      rw [k8, k7, sub_nI k1] at c
      have el : ee - a = sLen.getD r 0 := (nI_eq (by omega) (by omega)).mp c
      obtain ⟨x, ex⟩ := is_28 (N := N) (α := β) hr k7 (by omega) (sLen.getD r 0) 0 N (by omega) (by omega)
      have ex : f_Mod_is_28 N r N 0 β = _ := ex
      rw [ex]
      exact no x
    · exact no 0
  · exact no 0
theorem IQm.bi {f : Option (kO × mS)} {k : Int32 → mS → Option (kO × mS)} (h : IQm sz p α f) (hk : ∀ v β p', p ≤ p' → PK sz p' β → mch lxI [] α β → IQm sz p' β (k v β)) : IQm sz p α (mBi f k) := by
  obtain ⟨v, β, q, rfl, hq, hP, hc, hs⟩ := h
  obtain ⟨v', γ, q', e, hq', hP', hc', hs'⟩ := hk v β q hq hP hc
  exact ⟨v', γ, q', e, by omega, hP', hc.tr hc', fun z => (hs' hP.2).trans (hs z)⟩
theorem IQm.ret {v : Int32} (h : PK sz p α) : IQm sz p α (some (some (some v), α)) := ⟨v, α, p, rfl, Nat.le_refl _, h, mch.rf, fun _ => rfl⟩
theorem IQm.ite {c : Prop} [Decidable c] {a b : Option (kO × mS)} (ha : c → IQm sz p α a) (hb : ¬ c → IQm sz p α b) : IQm sz p α (if c then a else b) := by
  by_cases h : c
  · rw [if_pos h]; exact ha h
  · rw [if_neg h]; exact hb h
theorem peek_q (hN : 400000 < N) (h : LK sz p α) : IQm sz p α (f_Mod_peek N α) := by
  obtain ⟨v, β, q, e, hq, hP, h6, hc⟩ := peek_ok hN h
  refine ⟨v, β, q, e, hq, hP, hc, fun z => ?_⟩
  rw [peek_same z] at e
  injection e with e
  injection e with _ e
  exact e.symm
theorem reserved_ok (hN : 400000 < N) (h : LK sz p α) : IQm sz p α (f_Mod_reserved N α) := by
  unfold f_Mod_reserved
  refine (is_ok hN (by decide) h).bi fun v1 β1 p1 _ h1 _ => IQm.ite (fun _ => ?_) fun _ => IQm.ret h1
  refine (is_ok hN (by decide) h1.1).bi fun v1 β1 p1 _ h1 _ => IQm.ite (fun _ => ?_) fun _ => IQm.ret h1
  refine (is_ok hN (by decide) h1.1).bi fun v1 β1 p1 _ h1 _ => IQm.ite (fun _ => ?_) fun _ => IQm.ret h1
  refine (is_ok hN (by decide) h1.1).bi fun v1 β1 p1 _ h1 _ => IQm.ite (fun _ => ?_) fun _ => IQm.ret h1
  refine (is_ok hN (by decide) h1.1).bi fun v1 β1 p1 _ h1 _ => IQm.ite (fun _ => ?_) fun _ => IQm.ret h1
  refine (is_ok hN (by decide) h1.1).bi fun v1 β1 p1 _ h1 _ => IQm.ite (fun _ => ?_) fun _ => IQm.ret h1
  refine (is_ok hN (by decide) h1.1).bi fun v1 β1 p1 _ h1 _ => IQm.ite (fun _ => ?_) fun _ => IQm.ret h1
  refine (is_ok hN (by decide) h1.1).bi fun v1 β1 p1 _ h1 _ => IQm.ite (fun _ => ?_) fun _ => IQm.ret h1
  refine (is_ok hN (by decide) h1.1).bi fun v1 β1 p1 _ h1 _ => IQm.ite (fun _ => ?_) fun _ => IQm.ret h1
  refine (is_ok hN (by decide) h1.1).bi fun v1 β1 p1 _ h1 _ => IQm.ite (fun _ => ?_) fun _ => IQm.ret h1
  refine (is_ok hN (by decide) h1.1).bi fun v1 β1 p1 _ h1 _ => IQm.ite (fun _ => ?_) fun _ => IQm.ret h1
  refine (is_ok hN (by decide) h1.1).bi fun v1 β1 p1 _ h1 _ => IQm.ite (fun _ => ?_) fun _ => IQm.ret h1
  exact (is_ok hN (by decide) h1.1).bi fun v1 β1 p1 _ h1 _ => IQm.ite (fun _ => IQm.ret h1) fun _ => IQm.ret h1
theorem atomHere_ok (hN : 400000 < N) (h : LK sz p α) : IQm sz p α (f_Mod_atomHere N α) := by
  unfold f_Mod_atomHere
  refine (peek_q hN h).bi fun v1 β1 p1 _ h1 _ => IQm.ite (fun _ => IQm.ret h1) fun _ => ?_
  refine (peek_q hN h1.1).bi fun v1 β1 p1 _ h1 _ => IQm.ite (fun _ => ?_) fun _ => IQm.ret h1
  refine (reserved_ok hN h1.1).bi fun v1 β1 p1 _ h1 _ => IQm.ite (fun _ => IQm.ret h1) fun _ => ?_
  refine (is_ok hN (by decide) h1.1).bi fun v1 β1 p1 _ h1 _ => IQm.ite (fun _ => ?_) fun _ => IQm.ret h1
  refine (is_ok hN (by decide) h1.1).bi fun v1 β1 p1 _ h1 _ => IQm.ite (fun _ => ?_) fun _ => IQm.ret h1
  exact (is_ok hN (by decide) h1.1).bi fun v1 β1 p1 _ h1 _ => IQm.ite (fun _ => IQm.ret h1) fun _ => IQm.ret h1
/-- a fault at the next word -/
theorem cant_ok (hN : 400000 < N) (h : LK sz p α) : ∃ β, f_Mod_cant N α = some β ∧ mch [5, 6, 7, 8, 9, 100, 101] [] α β := by
  obtain ⟨v, β, q, e, hq, hP, h6, hc⟩ := peek_ok hN h
  unfold f_Mod_cant
  rw [e]
  exact ⟨_, rfl, (hc.mo (by decide) (fun _ z => z)).tr (mch.th (by decide) (by decide))⟩
abbrev lxX : List Nat := [5, 6, 7, 8, 9, 100, 101]
theorem cant_r {P : Int32 → mS → Prop} {X : mS → Prop} (hN : 400000 < N) (h : LK sz p α) (hX : ∀ β, mch lxX [] α β → X β) : rI ((f_Mod_cant N α).bind fun α7 => some (none, mTh α7 (α7.1 100) (α7.1 101))) P X := by
  obtain ⟨β, e, hc⟩ := cant_ok hN h
  rw [e]
  exact rI.thr (hX _ (hc.tr (mch.th (by decide) (by decide))))
theorem cant_v {P : mS → Prop} {X : mS → Prop} (hN : 400000 < N) (h : LK sz p α) (hX : ∀ β, mch lxX [] α β → X β) : rV ((f_Mod_cant N α).bind fun α7 => some (none, mTh α7 (α7.1 100) (α7.1 101))) P X := by
  obtain ⟨β, e, hc⟩ := cant_ok hN h
  rw [e]
  exact rV.thr (hX _ (hc.tr (mch.th (by decide) (by decide))))
theorem is_w {r : Nat} {v : Int32} (hN : 400000 < N) (h : LK sz p α) (e : f_Mod_is N r α = some (some (some v), β)) (hv : v ≠ 0) : β.1 6 = 1 := by
  obtain ⟨x, γ, q, e1, hq, hP, h6, hc⟩ := peek_ok hN h
  unfold f_Mod_is at e
  rw [e1] at e
  have e : (if x = 1 then (if ((γ.1 8) - (γ.1 7)) = (sLn r) then (f_Mod_is_28 N r N 0 γ) else (some (some (some 0), γ))) else (some (some (some 0), γ))) = some (some (some v), β) := e
  have g28 : ∀ (nn : Nat) (i : Int32), f_Mod_is_28 N r nn i γ = some (some (some v), β) → β = γ := by
    intro nn
    induction nn with
    | zero => intro i z; rw [f_Mod_is_28] at z; cases z
    | succ nn ih =>
      intro i z
      rw [f_Mod_is_28] at z
      split at z
      · injection z with z; injection z with _ z; exact z.symm
      · split at z
        · cases z
        · cases hs : sCh r i with
          | none => rw [hs] at z; cases z
          | some y =>
            rw [hs] at z
            have z : (if _ then _ else _) = _ := z
            split at z
            · exact ih _ z
            · injection z with z; injection z with _ z; exact z.symm
  split at e
  · rename_i c
    split at e
    · rw [g28 N 0 e, h6, c]
    · injection e with e; injection e with e _; injection e with e; injection e with e; exact absurd e.symm hv
  · injection e with e; injection e with e _; injection e with e; injection e with e; exact absurd e.symm hv
/-- after words were read -/
def TQ (sz p : Nat) (α : mS) (β : mS) : Prop := ∃ p', p ≤ p' ∧ LK sz p' β ∧ mch lxI [] α β
theorem must_ok {x : Int32} (hN : 400000 < N) (h : LK sz p α) : rV (f_Mod_must N x α) (fun γ => ∃ p', p ≤ p' ∧ (x ≠ 0 → p < p') ∧ LK sz p' γ ∧ mch lxI [] α γ) (fun β => mch lxX [] α β) := by
  unfold f_Mod_must
  obtain ⟨v, β, q, e, hq, hP, h6, hc⟩ := peek_ok hN h
  rw [e]
  show rV (if v = x then _ else _) _ _
  refine rV.ite (fun cx => ?_) fun _ => cant_v hN hP.1 fun γ hc' => (hc.mo (by decide) (fun _ z => z)).tr hc'
  obtain ⟨γ, p', e', h1, h2, h3, h4⟩ := take_m hN hP.1
  rw [e']
  exact rV.ret ⟨p', by omega, fun z => by have := h4 hP.2 (by rw [h6, cx]; exact z); omega, h2, hc.tr h3⟩
theorem mustBe_ok {r : Nat} (hN : 400000 < N) (hr : r < 51) (h : LK sz p α) : rV (f_Mod_mustBe N r α) (TQ sz p α) (fun β => mch lxX [] α β) := by
  unfold f_Mod_mustBe
  obtain ⟨v, β, q, e, hq, hP, hc, -⟩ := is_ok hN hr h
  rw [e]
  show rV (if v = 0 then _ else _) _ _
  refine rV.ite (fun _ => cant_v hN hP.1 fun γ hc' => (hc.mo (by decide) (fun _ z => z)).tr hc') fun _ => ?_
  obtain ⟨γ, p', e', h1, h2, h3, -⟩ := take_m hN hP.1
  rw [e']
  exact rV.ret ⟨p', by omega, h2, hc.tr h3⟩
theorem sortH_go {a e : Nat} (hN : 400000 < N) (h : LK sz p α) (h8 : α.1 8 = nI e) (he : e ≤ 65536) : ∀ (d k nn : Nat) (v : Int32), k + d = e → d < nn → rI (f_Mod_sortHere_43 N nn (nI k) v α) (fun _ β => TQ sz p α β) (fun β => mch lxX [] α β)
  | 0, k, nn, v, hk, hn => by
    obtain ⟨nn, rfl⟩ : ∃ n', nn = n' + 1 := ⟨nn - 1, by omega⟩
    rw [f_Mod_sortHere_43, h8, if_pos (nI_le (by omega) (by omega))]
    refine rI.ite (fun _ => ?_) fun _ => rI.thr (mch.th (by decide) (by decide))
    obtain ⟨γ, p', e', h1, h2, h3, -⟩ := take_m hN h
    rw [e']
    exact rI.ret ⟨p', by omega, h2, h3⟩
  | d + 1, k, nn, v, hk, hn => by
    obtain ⟨nn, rfl⟩ : ∃ n', nn = n' + 1 := ⟨nn - 1, by omega⟩
    rw [f_Mod_sortHere_43, h8, if_neg (nI_ge (by omega) (by omega)), if_neg (mix (by omega) (by decide)), nI_1]
    exact sortH_go (a := a) hN h h8 he d (k + 1) nn _ (by omega) (by omega)
theorem TQ.tr {γ : mS} {q : Nat} (h : p ≤ q) (hc : mch lxI [] α β) (h' : TQ sz q β γ) : TQ sz p α γ := by
  obtain ⟨p', a, b, c⟩ := h'
  exact ⟨p', by omega, b, hc.tr c⟩
theorem sortHere_ok (hN : 400000 < N) (h : LK sz p α) : rI (f_Mod_sortHere N α) (fun _ β => TQ sz p α β) (fun β => mch lxX [] α β) := by
  unfold f_Mod_sortHere
  obtain ⟨v, β, q, e, hq, hP, hc, -⟩ := is_ok (r := 38) hN (by decide) h
  rw [e]
  show rI (if v = 0 then _ else _) _ _
  have up : ∀ γ, mch lxX [] β γ → mch lxX [] α γ := fun γ hc' => (hc.mo (by decide) (fun _ z => z)).tr hc'
  refine rI.ite (fun _ => ?_) fun _ => ?_
  · refine (mustBe_ok hN (by decide) hP.1).bi (fun γ u => ?_) up
    obtain ⟨p1, a1, a2, a3⟩ := u
    obtain ⟨v2, δ, q2, e2, hq2, hP2, hc2, -⟩ := peek_q hN a2
    rw [e2]
    show rI (if v2 = 2 then _ else _) _ _
    have c02 := hc.tr (a3.tr hc2)
    refine rI.ite (fun _ => ?_) fun _ => cant_r hN hP2.1 fun γ hc' => (c02.mo (by decide) (fun _ z => z)).tr hc'
    obtain ⟨⟨h0, hsz, h5, hp, hk⟩, h9⟩ := hP2
    obtain ⟨a, ee, k7, k8, k1, k2, -⟩ := hk.resolve_left h9
    rw [k7]
    exact (sortH_go (a := a) hN ⟨h0, hsz, h5, hp, hk⟩ k8 (by omega) (ee - a) a N 0 (by omega) (by omega)).mono (fun _ ε u => TQ.tr (by omega) c02 u) (fun ε u => (c02.mo (by decide) (fun _ z => z)).tr u)
  · obtain ⟨γ, p', e', h1, h2, h3, -⟩ := take_m hN hP.1
    rw [e']
    exact rI.ret ⟨p', by omega, h2, hc.tr h3⟩
/-- a name is compared -/
theorem spell_go {r a b n e : Nat} (h7 : α.1 7 = nI a) (hb : b + n ≤ mSz r) (hm : mSz r ≤ 65536) (ha : a + n ≤ 65536) : ∀ (d i nn : Nat), i + d = n → d < nn → oK (f_Mod_spelled_18 N r α nn (nI i) (nI b) (nI n))
  | 0, i, nn, hi, hn => by
    obtain ⟨nn, rfl⟩ : ∃ n', nn = n' + 1 := ⟨nn - 1, by omega⟩
    rw [f_Mod_spelled_18, if_pos (nI_le (by omega) (by omega))]
    exact oK.so
  | d + 1, i, nn, hi, hn => by
    obtain ⟨nn, rfl⟩ : ∃ n', nn = n' + 1 := ⟨nn - 1, by omega⟩
    rw [f_Mod_spelled_18, if_neg (nI_ge (by omega) (by omega)), h7, nI_add, nI_add]
    refine oK.ix (fun z => z.elim (nI_pos (by omega)) (by rw [nI_clamp (by omega)]; omega)) (oK.ix (mix (by omega) (by decide)) (oK.ite (fun _ => ?_) fun _ => oK.so))
    rw [nI_1]
    exact spell_go (e := e) h7 hb hm ha d (i + 1) nn (by omega) (by omega)
theorem spelled_ok {r b n : Nat} (hN : 400000 < N) (h : PK sz p α) (hb : b + n ≤ mSz r) (hm : mSz r ≤ 65536) : oK (f_Mod_spelled N (nI b) (nI n) r α) := by
  obtain ⟨⟨h0, hsz, h5, hp, hk⟩, h9⟩ := h
  obtain ⟨a, ee, k7, k8, k1, k2, -⟩ := hk.resolve_left h9
  unfold f_Mod_spelled
  rw [k8, k7, sub_nI k1]
  refine oK.ite (fun c => ?_) fun _ => oK.so
  have : n = ee - a := (nI_eq (by omega) (by omega)).mp c
  exact spell_go (e := ee) k7 hb hm (by omega) n 0 N (by omega) (by omega)
/-- the CONSTANT of that name -/
theorem const_go {L c : Nat} (hN : 400000 < N) (h : PK sz p α) (hn : NMs L α) (hc : c ≤ L) : ∀ (d i nn : Nat), i + d = c → d < nn → ∃ v, f_Mod_constant_1_2 N α nn (nI i) (nI c) = some v ∧ (v = -1 ∨ ∃ j, v = nI j ∧ j < c)
  | 0, i, nn, hi, hn' => by
    obtain ⟨nn, rfl⟩ : ∃ n', nn = n' + 1 := ⟨nn - 1, by omega⟩
    have := hn.1
    rw [f_Mod_constant_1_2, if_pos (nI_le (by omega) (by omega))]
    exact ⟨-1, rfl, Or.inl rfl⟩
  | d + 1, i, nn, hi, hn' => by
    obtain ⟨nn, rfl⟩ : ∃ n', nn = n' + 1 := ⟨nn - 1, by omega⟩
    have h3 := hn.1
    obtain ⟨a, z, e1, e2, e3⟩ := hn.2 i (by omega)
    have ix := mix (i := i) (n := 301) (by omega) (by decide)
    rw [f_Mod_constant_1_2, if_neg (nI_ge (by omega) (by omega)), if_neg ix, if_neg ix, nI_clamp (by omega), e1, e2]
    obtain ⟨v, ev⟩ := spelled_ok (r := 9) (b := a) (n := z) hN h (by show a + z ≤ 9400; exact e3) (by show 9400 ≤ 65536; decide)
    rw [ev]
    show ∃ v', (if v = 0 then _ else _) = some v' ∧ _
    by_cases c0 : v = 0
    · rw [if_pos c0, nI_1]
      exact const_go hN h hn hc d (i + 1) nn (by omega) (by omega)
    · rw [if_neg c0]
      exact ⟨nI i, rfl, Or.inr ⟨i, rfl, by omega⟩⟩
theorem const_ok_m {L c : Nat} (hN : 400000 < N) (h : PK sz p α) (hn : NMs L α) (hc : c ≤ L) : ∃ v, f_Mod_constant_1 N (nI c) α = some v ∧ (v = -1 ∨ ∃ j, v = nI j ∧ j < c) := by
  have := hn.1
  exact const_go hN h hn hc c 0 N (by omega) (by omega)
end LEXM
