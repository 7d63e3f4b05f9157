-- a TERM is shown: all of it
section PRINTED
variable {N K : Nat} {a2 : Int32}
theorem wb_ok {γ : kS} {t : Nat} {d : Int32} {fs : List O3} (hN : 2 ^ 31 ≤ N) (h : tT K γ) (ht : t < tn γ) (hk : nK γ t = 6 ∨ nK γ t = 7) (v : γ.2.1 20 = flat3 fs) (hl : fs.length + 3 ≤ 4096) : ∃ δ p x, f_Pri_writeBinder N (nI t) d γ = some (some none, δ) ∧ tT K δ ∧ ch [] [1, 2, 3, 20] γ δ ∧ δ.2.1 20 = flat3 ((nI (lfN γ t), d, p) :: (x, 0, 0) :: (nI (rtN γ t), d + 1, 0) :: fs) ∧ ¬ 0 ≤ x ∧ (p = 0 ∨ p = 1) := by
  obtain ⟨e1, e2, hl1, hr1, h9, h8, -⟩ := partsN h.1.1 h.2.1 ht (by omega)
  have er : f_Terms_right (nI t) γ = nI (rtN γ t) := (rt_in h.1.1 ht).trans e2
  obtain ⟨β, eβ, tβ, cβ, sβ, vβ⟩ := later_e (N := N) h v (by omega) (nI (rtN γ t)) (d + 1) 0
  have lf : ∀ ε : kS, tT K ε → grw γ ε → f_Terms_left (nI t) ε = nI (lfN γ t) := fun ε tε gε => by
    rw [lf_in tε.1.1 (Nat.lt_of_lt_of_le ht gε.1), (g_n gε ht).2.2.2.2.1, e1]
  have j118 : ∀ (x : Int32) (ε : kS), tT K ε → ch [] [1, 2, 3, 20] γ ε → ε.2.1 20 = flat3 ((nI (rtN γ t), d + 1, 0) :: fs) → ¬ 0 ≤ x → ∃ δ p x', f_Pri_writeBinder_j118 N (nI t) d x ε = some (some none, δ) ∧ tT K δ ∧ ch [] [1, 2, 3, 20] γ δ ∧ δ.2.1 20 = flat3 ((nI (lfN γ t), d, p) :: (x', 0, 0) :: (nI (rtN γ t), d + 1, 0) :: fs) ∧ ¬ 0 ≤ x' ∧ (p = 0 ∨ p = 1) := by
    intro x ε tε cε vε hx
    unfold f_Pri_writeBinder_j118
    obtain ⟨ζ, eζ, tζ, cζ, sζ, vζ⟩ := later_e (N := N) tε vε (by show fs.length + 1 < 4096; omega) x 0 0
    rw [eζ, kBv_s, lf ζ tζ (cε.2.2.tr cζ.2.2)]
    obtain ⟨η, eη, tη, cη, sη, vη⟩ := later_e (N := N) tζ vζ (by show fs.length + 1 + 1 < 4096; omega) (nI (lfN γ t)) d 0
    rw [eη, kBv_s]
    exact ⟨η, 0, x, rfl, tη, (cε.tr (cζ.mo (by decide) (by decide))).tr (cη.mo (by decide) (by decide)), vη, hx, Or.inl rfl⟩
  have j80 : ∀ (y : Int32) (ε : kS), tT K ε → ch [] [1, 2, 3, 20] γ ε → ε.2.1 20 = flat3 ((nI (rtN γ t), d + 1, 0) :: fs) → ∃ δ p x, f_Pri_writeBinder_j80 N y (nI t) d ε = some (some none, δ) ∧ tT K δ ∧ ch [] [1, 2, 3, 20] γ δ ∧ δ.2.1 20 = flat3 ((nI (lfN γ t), d, p) :: (x, 0, 0) :: (nI (rtN γ t), d + 1, 0) :: fs) ∧ ¬ 0 ≤ x ∧ (p = 0 ∨ p = 1) := by
    intro y ε tε cε vε
    have go : ∀ r, r < 51 → ∃ δ p x, (kBv (f_Pri_text N r ε) fun α6 => kBv (f_Pri_number N d α6) fun α8 => kBv (f_Pri_text N 24 α8) fun α10 => if y = 0 then f_Pri_writeBinder_j118 N (nI t) d (-5) α10 else f_Pri_writeBinder_j118 N (nI t) d (-4) α10) = some (some none, δ) ∧ tT K δ ∧ ch [] [1, 2, 3, 20] γ δ ∧ δ.2.1 20 = flat3 ((nI (lfN γ t), d, p) :: (x, 0, 0) :: (nI (rtN γ t), d + 1, 0) :: fs) ∧ ¬ 0 ≤ x ∧ (p = 0 ∨ p = 1) := by
      intro r hr
      obtain ⟨b1, f1, t1, c1, -⟩ := text_ok (N := N) hN hr tε
      rw [f1, kBv_s]
      obtain ⟨b2, f2, t2, c2, -⟩ := number_ok (N := N) hN t1 d
      rw [f2, kBv_s]
      obtain ⟨b3, f3, t3, c3, -⟩ := text_ok (N := N) (r := 24) hN (by decide) t2
      rw [f3, kBv_s]
      have c13 : ch [] [1] ε b3 := (c1.tr c2).tr c3
      have cc := cε.tr (c13.mo (by decide) (by decide))
      have vv := (c13.row (r := 20) (by decide) (by decide)).trans vε
      by_cases z : y = 0
      · rw [if_pos z]; exact j118 (-5) b3 t3 cc vv (by decide)
      · rw [if_neg z]; exact j118 (-4) b3 t3 cc vv (by decide)
    unfold f_Pri_writeBinder_j80
    by_cases z : y = 0
    · rw [if_pos z]; exact go 26 (by decide)
    · rw [if_neg z]; exact go 25 (by decide)
  have j18 : ∀ t0, ∃ δ p x, f_Pri_writeBinder_j18 N (nI t) d t0 γ = some (some none, δ) ∧ tT K δ ∧ ch [] [1, 2, 3, 20] γ δ ∧ δ.2.1 20 = flat3 ((nI (lfN γ t), d, p) :: (x, 0, 0) :: (nI (rtN γ t), d + 1, 0) :: fs) ∧ ¬ 0 ≤ x ∧ (p = 0 ∨ p = 1) := by
    intro t0
    unfold f_Pri_writeBinder_j18
    rw [er, eβ, kBv_s]
    by_cases z : t0 = 0
    · rw [if_pos z]; exact j80 t0 β tβ (cβ.mo (by decide) (by decide)) vβ
    · rw [if_neg z]
      obtain ⟨w, ε, eε, tε, cε, -⟩ := has_ok (N := N) (x2 := 0) (x3 := 0) (t := rtN γ t) (by omega) tβ (Nat.lt_of_lt_of_le (by omega) cβ.2.2.1)
      rw [eε, kBi_s]
      have vε := (cε.row (r := 20) (by decide) (by decide)).trans vβ
      have cc : ch [] [1, 2, 3, 20] γ ε := (cβ.mo (by decide) (by decide)).tr (cε.mo (by decide) (by decide))
      by_cases z2 : w = 0
      · rw [if_pos z2]
        obtain ⟨ζ, eζ, tζ, cζ, sζ, vζ⟩ := later_e (N := N) tε vε (by show fs.length + 1 < 4096; omega) (-3) 0 0
        rw [eζ, kBv_s, lf ζ tζ (cc.2.2.tr cζ.2.2)]
        obtain ⟨η, eη, tη, cη, sη, vη⟩ := later_e (N := N) tζ vζ (by show fs.length + 1 + 1 < 4096; omega) (nI (lfN γ t)) d 1
        rw [eη, kBv_s]
        exact ⟨η, 1, -3, rfl, tη, (cc.tr (cζ.mo (by decide) (by decide))).tr (cη.mo (by decide) (by decide)), vη, by decide, Or.inr rfl⟩
      · rw [if_neg z2]; exact j80 t0 ε tε cc vε
  unfold f_Pri_writeBinder
  split
  · exact j18 1
  · exact j18 0
theorem p_term (hN : 2 ^ 31 ≤ N) : ∀ (t : Nat) (pos : Int32), (pos = 0 ∨ pos = 1 ∨ pos = 2) → pI N a2 K t 9 pos := by
  intro t
  induction t using Nat.strongRecOn with
  | ind t ih =>
    -- without brackets
    have core : ∀ (pos : Int32), (pos = 0 ∨ pos = 1 ∨ pos = 2) → ∀ (β : kS) (d : Int32) (fs : List O3), tT K β → qT β t → ¬ fr β t → β.2.1 20 = flat3 ((nI t, d, pos) :: fs) → fs.length + rq β t pos ≤ 4096 → ¬ (pos = 2 ∧ 5 ≤ nK β t ∨ pos = 1 ∧ 6 ≤ nK β t) → pS N a2 β (9 * nS β t) (fun γ => tT K γ ∧ ch [] [1, 2, 3, 20] β γ ∧ γ.2.1 20 = flat3 fs) := by
      intro pos hp β d fs h ht hf v hr hb
      have ht1 := ht.1
      have hn := h.1.1.n.2.1
      obtain ⟨w1, ⟨w2, w3⟩, ⟨w4, w5⟩, -⟩ := h.2.1 t ht.1
      have p0 : (0 : Int32) ≤ nI t := nI_le (a := 0) (Nat.zero_le _) (by omega)
      have leafq : ∀ (δ γ : kS), ch [] [20] β γ → γ.2.1 20 = flat3 fs → tT K δ → ch [] [1] γ δ → tT K δ ∧ ch [] [1, 2, 3, 20] β δ ∧ δ.2.1 20 = flat3 fs := fun δ γ c v' tδ c' => ⟨tδ, (c.mo (by decide) (by decide)).tr (c'.mo (by decide) (by decide)), (c'.row (by decide) (by decide)).trans v'⟩
      have kk : ∀ γ, tT K γ → sT β γ → f_Terms_kind (nI t) γ = nI (nK β t) := fun γ _ s => by rw [s.kd, kd_at h.1.1 ht.1]
      have nbk : ∀ γ, tT K γ → sT β γ → f_Pri_needsBrackets (f_Terms_kind (nI t) γ) pos γ = 0 := fun γ tγ s => by rw [kk γ tγ s]; exact (nb_is w1 hp).mpr hb
      have n1 := fr_1 hf
      have n9 := ht.2
      have cases : nK β t = 0 ∨ nK β t = 2 ∨ nK β t = 3 ∨ nK β t = 4 ∨ nK β t = 5 ∨ (nK β t = 6 ∨ nK β t = 7) ∨ nK β t = 8 := by omega
      rcases cases with k | k | k | k | k | k | k
      · refine (p_one h v (fun γ tγ cγ sγ vγ => ?_)).mono (by omega) (fun _ q => q)
        have hk := kk γ tγ sγ
        rw [k] at hk
        obtain ⟨b1, f1, t1, c1, -⟩ := push1 120 tγ
        obtain ⟨b2, f2, t2, c2, -⟩ := number_ok (N := N) hN t1 ((d - 1) - f_Terms_left (nI t) γ)
        refine ⟨b2, leafq b2 γ cγ vγ t2 (c1.tr c2), fun kc => ?_⟩
        · show (if 0 ≤ nI t then (if f_Pri_needsBrackets (f_Terms_kind (nI t) γ) pos γ = 0 then kBv (f_Pri_write N (nI t) d a2 γ) kc else _) else _) = kc b2
          rw [if_pos p0, if_pos (nbk γ tγ sγ)]
          unfold f_Pri_write
          rw [hk, if_pos (show nI 0 = (0 : Int32) from rfl)]
          rw [f1, kBv_s, f2]
          rfl
      · refine (p_one h v (fun γ tγ cγ sγ vγ => ?_)).mono (by omega) (fun _ q => q)
        have hk := kk γ tγ sγ
        rw [k] at hk
        have go : ∃ b, (if f_Terms_left (nI t) γ = 101 then (kBv (f_Pri_sort N a2 γ) fun α13 => some (some none, α13)) else (kBv (f_Pri_sort N (f_Terms_left (nI t) γ) γ) fun α11 => some (some none, α11))) = some (some none, b) ∧ tT K b ∧ ch [] [1] γ b := by
          by_cases z : f_Terms_left (nI t) γ = 101
          · obtain ⟨b, f1, t1, c1, -⟩ := sort_p (N := N) hN tγ a2
            rw [if_pos z, f1]
            exact ⟨b, rfl, t1, c1⟩
          · obtain ⟨b, f1, t1, c1, -⟩ := sort_p (N := N) hN tγ (f_Terms_left (nI t) γ)
            rw [if_neg z, f1]
            exact ⟨b, rfl, t1, c1⟩
        obtain ⟨b, f1, t1, c1⟩ := go
        refine ⟨b, leafq b γ cγ vγ t1 c1, fun kc => ?_⟩
        · show (if 0 ≤ nI t then (if f_Pri_needsBrackets (f_Terms_kind (nI t) γ) pos γ = 0 then kBv (f_Pri_write N (nI t) d a2 γ) kc else _) else _) = kc b
          rw [if_pos p0, if_pos (nbk γ tγ sγ)]
          unfold f_Pri_write
          rw [hk, if_neg (show ¬ nI 2 = (0 : Int32) by decide), if_neg (show ¬ nI 2 = (1 : Int32) by decide), if_pos (show nI 2 = (2 : Int32) from rfl)]
          rw [f1]
          rfl
      · refine (p_one h v (fun γ tγ cγ sγ vγ => ?_)).mono (by omega) (fun _ q => q)
        have hk := kk γ tγ sγ
        rw [k] at hk
        obtain ⟨b, f1, t1, c1, -⟩ := name_p (N := N) hN tγ (f_Terms_left (nI t) γ)
        refine ⟨b, leafq b γ cγ vγ t1 c1, fun kc => ?_⟩
        · show (if 0 ≤ nI t then (if f_Pri_needsBrackets (f_Terms_kind (nI t) γ) pos γ = 0 then kBv (f_Pri_write N (nI t) d a2 γ) kc else _) else _) = kc b
          rw [if_pos p0, if_pos (nbk γ tγ sγ)]
          unfold f_Pri_write
          rw [hk, if_neg (show ¬ nI 3 = (0 : Int32) by decide), if_neg (show ¬ nI 3 = (1 : Int32) by decide), if_neg (show ¬ nI 3 = (2 : Int32) by decide), if_pos (show nI 3 = (3 : Int32) from rfl)]
          rw [f1]
          rfl
      · refine (p_one h v (fun γ tγ cγ sγ vγ => ?_)).mono (by omega) (fun _ q => q)
        have hk := kk γ tγ sγ
        rw [k] at hk
        obtain ⟨b1, f1, t1, c1, -⟩ := text_ok (N := N) (r := 22) hN (by decide) tγ
        obtain ⟨b2, f2, t2, c2, -⟩ := name_p (N := N) hN t1 (f_Terms_left (nI t) γ)
        obtain ⟨b3, f3, t3, c3, -⟩ := push1 32 t2
        obtain ⟨b4, f4, t4, c4, -⟩ := sort_p (N := N) hN t3 (f_Terms_right (nI t) b3)
        refine ⟨b4, leafq b4 γ cγ vγ t4 (((c1.tr c2).tr c3).tr c4), fun kc => ?_⟩
        · show (if 0 ≤ nI t then (if f_Pri_needsBrackets (f_Terms_kind (nI t) γ) pos γ = 0 then kBv (f_Pri_write N (nI t) d a2 γ) kc else _) else _) = kc b4
          rw [if_pos p0, if_pos (nbk γ tγ sγ)]
          unfold f_Pri_write
          rw [hk, if_neg (show ¬ nI 4 = (0 : Int32) by decide), if_neg (show ¬ nI 4 = (1 : Int32) by decide), if_neg (show ¬ nI 4 = (2 : Int32) by decide), if_neg (show ¬ nI 4 = (3 : Int32) by decide), if_pos (show nI 4 = (4 : Int32) from rfl)]
          rw [f1, kBv_s, f2, kBv_s, f3, kBv_s, f4]
          rfl
      · obtain ⟨e1, e2, hl1, hr1, h9, h8, hs, hd⟩ := partsN h.1.1 h.2.1 ht.1 (by omega)
        rw [if_neg (by omega)] at hs
        rw [if_pos k] at hd
        obtain ⟨fl, frr⟩ := fr_p hf (by omega)
        have ql : qT β (lfN β t) := ⟨by omega, h9⟩
        have qr : qT β (rtN β t) := ⟨by omega, fun z => by have := h8.mp z; omega⟩
        have sl := (h.2.1 _ ql.1).2.1.1
        have sr := (h.2.1 _ qr.1).2.1.1
        have dl := (h.2.1 _ ql.1).2.2.1.1
        have dr := (h.2.1 _ qr.1).2.2.1.1
        have hpos : pos ≠ 2 := fun z => hb (Or.inl ⟨z, by omega⟩)
        have hrq : rq β t pos = nS β t + 5 * nD β t := by
          unfold rq
          rw [if_neg (fun z => hpos z.2), if_neg (fun z => by omega)]
          omega
        have step : pS N a2 β 1 (fun γ => tT K γ ∧ ch [] [1, 2, 3, 20] β γ ∧ γ.2.1 20 = flat3 ((nI (lfN β t), d, 1) :: (-2, 0, 0) :: (nI (rtN β t), d, 2) :: fs)) := by
          refine p_one h v (fun γ tγ cγ sγ vγ => ?_)
          have hk := kk γ tγ sγ
          rw [k] at hk
          have el : f_Terms_left (nI t) γ = nI (lfN β t) := by rw [sγ.lf, lf_in h.1.1 ht.1, e1]
          have er : f_Terms_right (nI t) γ = nI (rtN β t) := by rw [sγ.rt, rt_in h.1.1 ht.1, e2]
          obtain ⟨b1, f1, t1, c1, s1, v1⟩ := later_e (N := N) tγ vγ (by omega) (nI (rtN β t)) d 2
          obtain ⟨b2, f2, t2, c2, s2, v2⟩ := later_e (N := N) t1 v1 (by show fs.length + 1 < 4096; omega) (-2) 0 0
          obtain ⟨b3, f3, t3, c3, s3, v3⟩ := later_e (N := N) t2 v2 (by show fs.length + 1 + 1 < 4096; omega) (nI (lfN β t)) d 1
          refine ⟨b3, ⟨t3, ((cγ.tr (c1.tr c2)).tr c3).mo (by decide) (by decide), v3⟩, fun kc => ?_⟩
          show (if 0 ≤ nI t then (if f_Pri_needsBrackets (f_Terms_kind (nI t) γ) pos γ = 0 then kBv (f_Pri_write N (nI t) d a2 γ) kc else _) else _) = kc b3
          rw [if_pos p0, if_pos (nbk γ tγ sγ)]
          unfold f_Pri_write
          rw [hk, if_neg (show ¬ nI 5 = (0 : Int32) by decide), if_neg (show ¬ nI 5 = (1 : Int32) by decide), if_neg (show ¬ nI 5 = (2 : Int32) by decide), if_neg (show ¬ nI 5 = (3 : Int32) by decide), if_neg (show ¬ nI 5 = (4 : Int32) by decide), if_pos (show nI 5 = (5 : Int32) from rfl), er, f1, kBv_s, f2, kBv_s, el, f3]
          rfl
        have rl : rq β (lfN β t) 1 ≤ nS β (lfN β t) + 5 * nD β (lfN β t) := by
          unfold rq
          rw [if_neg (fun z => absurd z.2 (by decide))]
          omega
        have rr : rq β (rtN β t) 2 ≤ nS β (rtN β t) + 5 * nD β (rtN β t) + 1 := by
          unfold rq
          split <;> omega
        refine ((step.seq (D := (9 * nS β (lfN β t) + 2) + (1 + (9 * nS β (rtN β t) + 2))) (Q' := fun γ => tT K γ ∧ ch [] [1, 2, 3, 20] β γ ∧ γ.2.1 20 = flat3 fs) (fun γ q => ?_))).mono (by omega) (fun _ q => q)
        obtain ⟨tγ, cγ, vγ⟩ := q
        have L := ih _ hl1 1 (Or.inr (Or.inl rfl)) γ d _ tγ (ql.g cγ.2.2) (fun z => fl ((fr_g h.1.1 h.2.1 cγ.2.2 ql.1).mp z)) vγ (by rw [rq_g cγ.2.2 ql.1]; show fs.length + 1 + 1 + _ ≤ _; omega)
        rw [(g_n cγ.2.2 ql.1).2.1] at L
        refine L.seq (fun γ2 q2 => ?_)
        obtain ⟨t2, c2, v2⟩ := q2
        refine (p_piece hN t2 v2 (by decide)).seq (fun γ3 q3 => ?_)
        obtain ⟨t3, c3, v3⟩ := q3
        have c03 := (cγ.tr c2).tr c3
        have R := ih _ hr1 2 (Or.inr (Or.inr rfl)) γ3 d _ t3 (qr.g c03.2.2) (fun z => frr ((fr_g h.1.1 h.2.1 c03.2.2 qr.1).mp z)) v3 (by rw [rq_g c03.2.2 qr.1]; omega)
        rw [(g_n c03.2.2 qr.1).2.1] at R
        exact R.mono (Nat.le_refl _) (fun γ4 q4 => ⟨q4.1, c03.tr q4.2.1, q4.2.2⟩)
      · obtain ⟨e1, e2, hl1, hr1, h9, h8, hs, hd⟩ := partsN h.1.1 h.2.1 ht.1 (by omega)
        rw [if_neg (by omega)] at hs
        rw [if_neg (by omega), if_neg (by omega)] at hd
        obtain ⟨fl, frr⟩ := fr_p hf (by omega)
        have ql : qT β (lfN β t) := ⟨by omega, h9⟩
        have qr : qT β (rtN β t) := ⟨by omega, fun z => by have := h8.mp z; omega⟩
        have sl := (h.2.1 _ ql.1).2.1.1
        have sr := (h.2.1 _ qr.1).2.1.1
        have dl := (h.2.1 _ ql.1).2.2.1.1
        have dr := (h.2.1 _ qr.1).2.2.1.1
        have hrq : nS β t + 5 * nD β t ≤ rq β t pos + 1 := by
          unfold rq
          have : (if 6 ≤ nK β t ∧ pos = 0 then 1 else 0) ≤ 1 := by split <;> omega
          omega
        have step : pS N a2 β 1 (fun γ => ∃ p x, tT K γ ∧ ch [] [1, 2, 3, 20] β γ ∧ γ.2.1 20 = flat3 ((nI (lfN β t), d, p) :: (x, 0, 0) :: (nI (rtN β t), d + 1, 0) :: fs) ∧ ¬ 0 ≤ x ∧ (p = 0 ∨ p = 1)) := by
          refine p_one h v (fun γ tγ cγ sγ vγ => ?_)
          have hk := kk γ tγ sγ
          have kt : nK γ t = nK β t := (g_n cγ.2.2 ht.1).1
          obtain ⟨b1, p, x, f1, t1, c1, v1, hx, hpp⟩ := wb_ok (N := N) (d := d) hN tγ (Nat.lt_of_lt_of_le ht.1 cγ.2.2.1) (by omega) vγ (by omega)
          rw [(g_lf cγ.2.2 ht.1).1, (g_lf cγ.2.2 ht.1).2] at v1
          refine ⟨b1, ⟨p, x, t1, (cγ.mo (by decide) (by decide)).tr c1, v1, hx, hpp⟩, fun kc => ?_⟩
          show (if 0 ≤ nI t then (if f_Pri_needsBrackets (f_Terms_kind (nI t) γ) pos γ = 0 then kBv (f_Pri_write N (nI t) d a2 γ) kc else _) else _) = kc b1
          rw [if_pos p0, if_pos (nbk γ tγ sγ)]
          unfold f_Pri_write
          rcases k with k | k
          · rw [k] at hk
            rw [hk, if_neg (show ¬ nI 6 = (0 : Int32) by decide), if_neg (show ¬ nI 6 = (1 : Int32) by decide), if_neg (show ¬ nI 6 = (2 : Int32) by decide), if_neg (show ¬ nI 6 = (3 : Int32) by decide), if_neg (show ¬ nI 6 = (4 : Int32) by decide), if_neg (show ¬ nI 6 = (5 : Int32) by decide), if_pos (show nI 6 = (6 : Int32) from rfl), f1]
            rfl
          · rw [k] at hk
            rw [hk, if_neg (show ¬ nI 7 = (0 : Int32) by decide), if_neg (show ¬ nI 7 = (1 : Int32) by decide), if_neg (show ¬ nI 7 = (2 : Int32) by decide), if_neg (show ¬ nI 7 = (3 : Int32) by decide), if_neg (show ¬ nI 7 = (4 : Int32) by decide), if_neg (show ¬ nI 7 = (5 : Int32) by decide), if_neg (show ¬ nI 7 = (6 : Int32) by decide), if_pos (show nI 7 = (7 : Int32) from rfl), f1]
            rfl
        have rr : rq β (rtN β t) 0 ≤ nS β (rtN β t) + 5 * nD β (rtN β t) := by
          unfold rq
          rw [if_neg (fun z => absurd z.2 (by decide))]
          omega
        refine ((step.seq (D := (9 * nS β (lfN β t) + 2) + (1 + (9 * nS β (rtN β t) + 2))) (Q' := fun γ => tT K γ ∧ ch [] [1, 2, 3, 20] β γ ∧ γ.2.1 20 = flat3 fs) (fun γ q => ?_))).mono (by omega) (fun _ q => q)
        obtain ⟨p, x, tγ, cγ, vγ, hx, hpp⟩ := q
        have rl : rq β (lfN β t) p ≤ nS β (lfN β t) + 5 * nD β (lfN β t) := by
          unfold rq
          rw [if_neg (fun z => by rcases hpp with y | y <;> rw [y] at z <;> exact absurd z.2 (by decide))]
          omega
        have L := ih _ hl1 p (by rcases hpp with y | y; exact Or.inl y; exact Or.inr (Or.inl y)) γ d _ tγ (ql.g cγ.2.2) (fun z => fl ((fr_g h.1.1 h.2.1 cγ.2.2 ql.1).mp z)) vγ (by rw [rq_g cγ.2.2 ql.1]; show fs.length + 1 + 1 + _ ≤ _; omega)
        rw [(g_n cγ.2.2 ql.1).2.1] at L
        refine L.seq (fun γ2 q2 => ?_)
        obtain ⟨t2, c2, v2⟩ := q2
        refine (p_piece hN t2 v2 hx).seq (fun γ3 q3 => ?_)
        obtain ⟨t3, c3, v3⟩ := q3
        have c03 := (cγ.tr c2).tr c3
        have R := ih _ hr1 0 (Or.inl rfl) γ3 (d + 1) _ t3 (qr.g c03.2.2) (fun z => frr ((fr_g h.1.1 h.2.1 c03.2.2 qr.1).mp z)) v3 (by rw [rq_g c03.2.2 qr.1]; omega)
        rw [(g_n c03.2.2 qr.1).2.1] at R
        exact R.mono (Nat.le_refl _) (fun γ4 q4 => ⟨q4.1, c03.tr q4.2.1, q4.2.2⟩)
      · obtain ⟨e1, e2, hl1, hr1, h9, h8, hs, hd⟩ := partsN h.1.1 h.2.1 ht.1 (by omega)
        rw [if_neg (by omega)] at hs
        rw [if_neg (by omega), if_neg (by omega)] at hd
        have kp : nK β (rtN β t) = 9 := h8.mpr k
        obtain ⟨e3, e4, hl2, hr2, h92, h82, hs2, hd2⟩ := partsN h.1.1 h.2.1 (j := rtN β t) (by omega) (by omega)
        rw [if_pos kp] at hs2
        rw [if_neg (by omega), if_pos kp] at hd2
        obtain ⟨fa, fp⟩ := fr_p hf (by omega)
        obtain ⟨fv, fb⟩ := fr_p fp (by omega)
        have qa : qT β (lfN β t) := ⟨by omega, h9⟩
        have qv : qT β (lfN β (rtN β t)) := ⟨by omega, h92⟩
        have qb : qT β (rtN β (rtN β t)) := ⟨by omega, fun z => by have := h82.mp z; omega⟩
        have sa := (h.2.1 _ qa.1).2.1.1
        have sv := (h.2.1 _ qv.1).2.1.1
        have sb' := (h.2.1 _ qb.1).2.1.1
        have hrq : nS β t + 5 * nD β t ≤ rq β t pos + 1 := by
          unfold rq
          have : (if 6 ≤ nK β t ∧ pos = 0 then 1 else 0) ≤ 1 := by split <;> omega
          omega
        have rz : ∀ u, rq β u 0 ≤ nS β u + 5 * nD β u := fun u => by
          unfold rq
          rw [if_neg (fun z => absurd z.2 (by decide))]
          omega
        have ra := rz (lfN β t)
        have rv := rz (lfN β (rtN β t))
        have rb := rz (rtN β (rtN β t))
        have step : pS N a2 β 1 (fun γ => tT K γ ∧ ch [] [1, 2, 3, 20] β γ ∧ γ.2.1 20 = flat3 ((nI (lfN β t), d, 0) :: (-6, 0, 0) :: (nI (lfN β (rtN β t)), d, 0) :: (-7, 0, 0) :: (nI (rtN β (rtN β t)), d + 1, 0) :: fs)) := by
          refine p_one h v (fun γ tγ cγ sγ vγ => ?_)
          have hk := kk γ tγ sγ
          rw [k] at hk
          have el : ∀ ε : kS, tT K ε → grw β ε → f_Terms_left (nI t) ε = nI (lfN β t) := fun ε tε gε => by rw [lf_in tε.1.1 (Nat.lt_of_lt_of_le ht.1 gε.1), (g_n gε ht.1).2.2.2.2.1, e1]
          have er : f_Terms_right (nI t) γ = nI (rtN β t) := by rw [sγ.rt, rt_in h.1.1 ht.1, e2]
          have hrt : rtN β t < tn β := by omega
          have elv : ∀ ε : kS, tT K ε → grw β ε → f_Terms_left (nI (rtN β t)) ε = nI (lfN β (rtN β t)) := fun ε tε gε => by rw [lf_in tε.1.1 (Nat.lt_of_lt_of_le hrt gε.1), (g_n gε hrt).2.2.2.2.1, e3]
          have erv : ∀ ε : kS, tT K ε → grw β ε → f_Terms_right (nI (rtN β t)) ε = nI (rtN β (rtN β t)) := fun ε tε gε => by rw [rt_in tε.1.1 (Nat.lt_of_lt_of_le hrt gε.1), (g_n gε hrt).2.2.2.2.2, e4]
          obtain ⟨b1, f1, t1, c1, -⟩ := text_ok (N := N) (r := 23) hN (by decide) tγ
          obtain ⟨b2, f2, t2, c2, -⟩ := number_ok (N := N) hN t1 d
          obtain ⟨b3, f3, t3, c3, -⟩ := text_ok (N := N) (r := 24) hN (by decide) t2
          have c13 := (c1.tr c2).tr c3
          have v3 := (c13.row (r := 20) (by decide) (by decide)).trans vγ
          obtain ⟨d1, g1, u1, k1, -, x1⟩ := later_e (N := N) t3 v3 (by omega) (nI (rtN β (rtN β t))) (d + 1) 0
          obtain ⟨d2, g2, u2, k2, -, x2⟩ := later_e (N := N) u1 x1 (by show fs.length + 1 < 4096; omega) (-7) 0 0
          obtain ⟨d3, g3, u3, k3, -, x3⟩ := later_e (N := N) u2 x2 (by show fs.length + 1 + 1 < 4096; omega) (nI (lfN β (rtN β t))) d 0
          obtain ⟨d4, g4, u4, k4, -, x4⟩ := later_e (N := N) u3 x3 (by show fs.length + 1 + 1 + 1 < 4096; omega) (-6) 0 0
          obtain ⟨d5, g5, u5, k5, -, x5⟩ := later_e (N := N) u4 x4 (by show fs.length + 1 + 1 + 1 + 1 < 4096; omega) (nI (lfN β t)) d 0
          have cb3 : ch [] [1, 2, 3, 20] β b3 := (cγ.mo (by decide) (by decide)).tr (c13.mo (by decide) (by decide))
          have k12 : ch [] [1, 2, 3, 20] β d2 := cb3.tr ((k1.tr k2).mo (by decide) (by decide))
          have k14 : ch [] [1, 2, 3, 20] β d4 := k12.tr ((k3.tr k4).mo (by decide) (by decide))
          refine ⟨d5, ⟨u5, k14.tr (k5.mo (by decide) (by decide)), x5⟩, fun kc => ?_⟩
          show (if 0 ≤ nI t then (if f_Pri_needsBrackets (f_Terms_kind (nI t) γ) pos γ = 0 then kBv (f_Pri_write N (nI t) d a2 γ) kc else _) else _) = kc d5
          rw [if_pos p0, if_pos (nbk γ tγ sγ)]
          unfold f_Pri_write
          rw [hk, if_neg (show ¬ nI 8 = (0 : Int32) by decide), if_neg (show ¬ nI 8 = (1 : Int32) by decide), if_neg (show ¬ nI 8 = (2 : Int32) by decide), if_neg (show ¬ nI 8 = (3 : Int32) by decide), if_neg (show ¬ nI 8 = (4 : Int32) by decide), if_neg (show ¬ nI 8 = (5 : Int32) by decide), if_neg (show ¬ nI 8 = (6 : Int32) by decide), if_neg (show ¬ nI 8 = (7 : Int32) by decide), if_pos (show nI 8 = (8 : Int32) from rfl)]
          unfold f_Pri_writeLet
          rw [f1, kBv_s, f2, kBv_s, f3, kBv_s, er, erv b3 t3 cb3.2.2, g1, kBv_s, g2, kBv_s, elv d2 u2 k12.2.2, g3, kBv_s, g4, kBv_s, el d4 u4 k14.2.2, g5]
          rfl
        have child : ∀ (u : Nat), u < t → qT β u → ¬ fr β u → ∀ (γ : kS) (d' : Int32) (gs : List O3), tT K γ → ch [] [1, 2, 3, 20] β γ → γ.2.1 20 = flat3 ((nI u, d', 0) :: gs) → gs.length + rq β u 0 ≤ 4096 → pS N a2 γ (9 * nS β u + 2) (fun δ => tT K δ ∧ ch [] [1, 2, 3, 20] β δ ∧ δ.2.1 20 = flat3 gs) := by
          intro u hu qu fu γ d' gs tγ cγ vγ hg
          have L := ih u hu 0 (Or.inl rfl) γ d' gs tγ (qu.g cγ.2.2) (fun z => fu ((fr_g h.1.1 h.2.1 cγ.2.2 qu.1).mp z)) vγ (by rw [rq_g cγ.2.2 qu.1]; exact hg)
          rw [(g_n cγ.2.2 qu.1).2.1] at L
          exact L.mono (Nat.le_refl _) (fun δ q => ⟨q.1, cγ.tr q.2.1, q.2.2⟩)
        refine ((step.seq (D := (9 * nS β (lfN β t) + 2) + (1 + ((9 * nS β (lfN β (rtN β t)) + 2) + (1 + (9 * nS β (rtN β (rtN β t)) + 2))))) (Q' := fun γ => tT K γ ∧ ch [] [1, 2, 3, 20] β γ ∧ γ.2.1 20 = flat3 fs) (fun γ q => ?_))).mono (by omega) (fun _ q => q)
        obtain ⟨tγ, cγ, vγ⟩ := q
        refine (child _ (by omega) qa fa γ d _ tγ cγ vγ (by show fs.length + 1 + 1 + 1 + 1 + _ ≤ _; omega)).seq (fun γ2 q2 => ?_)
        obtain ⟨t2, c2, v2⟩ := q2
        refine (p_piece hN t2 v2 (by decide)).seq (fun γ3 q3 => ?_)
        obtain ⟨t3, c3, v3⟩ := q3
        refine (child _ (by omega) qv fv γ3 d _ t3 (c2.tr c3) v3 (by show fs.length + 1 + 1 + _ ≤ _; omega)).seq (fun γ4 q4 => ?_)
        obtain ⟨t4, c4, v4⟩ := q4
        refine (p_piece hN t4 v4 (by decide)).seq (fun γ5 q5 => ?_)
        obtain ⟨t5, c5, v5⟩ := q5
        exact child _ (by omega) qb fb γ5 (d + 1) _ t5 (c4.tr c5) v5 (by omega)
    intro pos hp β d fs h ht hf v hr
    by_cases hb : pos = 2 ∧ 5 ≤ nK β t ∨ pos = 1 ∧ 6 ≤ nK β t
    · have hn := h.1.1.n.2.1
      have ht1 := ht.1
      obtain ⟨w1, ⟨w2, w3⟩, ⟨w4, w5⟩, -⟩ := h.2.1 t ht.1
      have p0 : (0 : Int32) ≤ nI t := nI_le (a := 0) (Nat.zero_le _) (by omega)
      have hr0 : rq β t 0 + 1 ≤ rq β t pos := by
        unfold rq
        rcases hb with ⟨rfl, k5⟩ | ⟨rfl, k6⟩
        · by_cases z : nK β t = 5
          · rw [if_neg (fun y => absurd y.2 (by decide)), if_neg (fun y => by have := y.1; omega), if_pos ⟨z, rfl⟩, if_neg (fun y => absurd y.2 (by decide))]
            omega
          · rw [if_neg (fun y => absurd y.2 (by decide)), if_pos ⟨by omega, rfl⟩, if_neg (fun y => z y.1), if_neg (fun y => absurd y.2 (by decide))]
            omega
        · rw [if_neg (fun y => absurd y.2 (by decide)), if_pos ⟨k6, rfl⟩, if_neg (fun y => absurd y.2 (by decide)), if_neg (fun y => absurd y.2 (by decide))]
          omega
      have hr00 : 5 ≤ rq β t 0 := by
        unfold rq
        have : (if 6 ≤ nK β t ∧ (0 : Int32) = 0 then 1 else 0) ≤ 1 := by split <;> omega
        omega
      have step : pS N a2 β 1 (fun γ => tT K γ ∧ ch [] [1, 2, 3, 20] β γ ∧ γ.2.1 20 = flat3 ((nI t, d, 0) :: (-1, 0, 0) :: fs)) := by
        refine p_one h v (fun γ tγ cγ sγ vγ => ?_)
        obtain ⟨b1, f1, t1, c1, -⟩ := push1 40 tγ
        obtain ⟨b2, f2, t2, c2, -, v2⟩ := later_e (N := N) t1 ((c1.row (r := 20) (by decide) (by decide)).trans vγ) (by omega) (-1) 0 0
        obtain ⟨b3, f3, t3, c3, -, v3⟩ := later_e (N := N) t2 v2 (by show fs.length + 1 < 4096; omega) (nI t) d 0
        refine ⟨b3, ⟨t3, ((cγ.mo (by decide) (by decide)).tr (c1.mo (by decide) (by decide))).tr ((c2.tr c3).mo (by decide) (by decide)), v3⟩, fun kc => ?_⟩
        have nb : ¬ f_Pri_needsBrackets (f_Terms_kind (nI t) γ) pos γ = 0 := by
          rw [sγ.kd, kd_at h.1.1 ht.1]
          exact fun z => (nb_is w1 hp).mp z hb
        show (if 0 ≤ nI t then (if f_Pri_needsBrackets (f_Terms_kind (nI t) γ) pos γ = 0 then _ else (kBv (fR_push γ 1 40) fun α9 => kBv (f_Pri_later N (-1) 0 0 α9) fun α11 => kBv (f_Pri_later N (nI t) d 0 α11) kc)) else _) = kc b3
        rw [if_pos p0, if_neg nb, f1, kBv_s, f2, kBv_s, f3]
        rfl
      refine ((step.seq (D := 9 * nS β t + 1) (Q' := fun γ => tT K γ ∧ ch [] [1, 2, 3, 20] β γ ∧ γ.2.1 20 = flat3 fs) (fun γ q => ?_))).mono (by omega) (fun _ q => q)
      obtain ⟨tγ, cγ, vγ⟩ := q
      have L := core 0 (Or.inl rfl) γ d _ tγ (ht.g cγ.2.2) (fun z => hf ((fr_g h.1.1 h.2.1 cγ.2.2 ht.1).mp z)) vγ (by rw [rq_g cγ.2.2 ht.1]; show fs.length + 1 + _ ≤ _; omega) (fun z => z.elim (fun y => absurd y.1 (by decide)) (fun y => absurd y.1 (by decide)))
      rw [(g_n cγ.2.2 ht.1).2.1] at L
      refine L.seq (fun γ2 q2 => ?_)
      obtain ⟨t2, c2, v2⟩ := q2
      exact (p_piece hN t2 v2 (by decide)).mono (Nat.le_refl _) (fun γ3 q3 => ⟨q3.1, (cγ.tr c2).tr q3.2.1, q3.2.2⟩)
    · exact (core pos hp β d fs h ht hf v hr hb).mono (by omega) (fun _ q => q)
/-- a TERM without FREE variables is shown whole -/
theorem print_ok {α : kS} {t : Nat} (hN : 2 ^ 31 ≤ N) (h : tT K α) (ht : qT α t) (hf : ¬ fr α t) (x : Int32) : ∃ β, f_Pri_print N (nI t) x α = some (some none, β) ∧ tT K β ∧ ch [] [1, 2, 3, 20] α β := by
  have t1 : tT K (kSl α 1 []) := h.sl (by decide) (Nat.zero_le _)
  have t2 : tT K (kSl (kSl α 1 []) 20 []) := t1.sl (by decide) (Nat.zero_le _)
  obtain ⟨γ, e, t3, c3, -, v3⟩ := later_e (N := N) (fs := []) t2 rfl (by decide) (nI t) 0 0
  have cA : ch [] [1, 2, 3, 20] α γ := ((ch.rs (by decide)).tr (ch.rs (by decide))).tr (c3.mo (by decide) (by decide))
  obtain ⟨w1, ⟨w2, w3⟩, ⟨w4, w5⟩, -⟩ := h.2.1 t ht.1
  obtain ⟨cc, δ, hc, ⟨q1, q2, q3⟩, e2⟩ := p_term (K := K) (a2 := x) hN t 0 (Or.inl rfl) γ 0 [] t3 (ht.g cA.2.2) (fun z => hf ((fr_g h.1.1 h.2.1 cA.2.2 ht.1).mp z)) v3 (by
    rw [rq_g cA.2.2 ht.1]
    show 0 + rq α t 0 ≤ 4096
    unfold rq
    rw [if_neg (fun z => absurd z.2 (by decide))]
    omega)
  rw [(g_n cA.2.2 ht.1).2.1] at hc
  unfold f_Pri_print
  rw [cut0 h (by decide), cut0 t1 (by decide), e, kBv_s]
  refine ⟨δ, ?_, q1, cA.tr q2⟩
  obtain ⟨n, hn⟩ : ∃ n, N = (n + 1) + cc := ⟨N - 1 - cc, by omega⟩
  have e3 := e2 (n + 1) 0 (by omega)
  rw [← hn] at e3
  refine e3.trans ?_
  rw [f_Pri_print_25, if_neg (l24_lt (by omega)), if_pos]
  unfold fR_size
  rw [q3]
  decide
end PRINTED
