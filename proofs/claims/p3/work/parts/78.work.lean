theorem fo_dd {α : kS} {n dd h g : Nat} {a b t : Int32} (hn : 32 ≤ n) (q : fo α n dd h g a b t) : dd = 0 := by
  by_cases e2 : n = 32
  · subst e2; exact q.2
  by_cases e3 : n = 33
  · subst e3; exact q.2
  by_cases e4 : n = 34
  · subst e4; exact q.2
  by_cases e5 : n = 35
  · subst e5; exact q.2
  by_cases e6 : n = 36
  · subst e6; exact q.2
  obtain ⟨k, rfl⟩ : ∃ k, n = k + 37 := ⟨n - 37, by omega⟩
  exact q.elim
-- the checker's loop
section WORK
variable {N c K m fam n M : Nat}
/-- what stands when the checker has ended -/
def WE (c K m fam n M z0 : Nat) (α β : kS) : Prop := tT K β ∧ eI c K m β ∧ fk fam α β ∧ (z0 = 1 → qF β (β.1 24)) ∧ (32 ≤ z0 → FS c K m fam n M β ∧ ∃ q, FD fam n M q M β)
theorem empty_of {α : kS} {fs : List F5} {ty : List Int32} {r : Int32} (h : tT K α) (v : vw α fs ty r) : (f_Fra_isEmpty α = 0 ↔ fs ≠ []) := by
  have h1 := fr_len h v
  unfold f_Fra_isEmpty fR_size
  rw [v.1, flat_len]
  cases fs with
  | nil => exact ⟨fun q => absurd q (by decide), fun q => absurd rfl q⟩
  | cons f fs =>
    have h1 : 5 * (fs.length + 1) < 2 ^ 20 := h1
    rw [if_neg (show ¬ nI (5 * (f :: fs).length) = 0 from nI_ne (m := 0) (by show 5 * (fs.length + 1) < _; omega) (by omega) (by show 5 * (fs.length + 1) ≠ 0; omega))]
    exact ⟨fun _ => by simp, fun _ => rfl⟩
theorem work_end {α : kS} {yv z z0 : Nat} (h : LI c K m fam n M yv z α) (hz : (z0 < 32 → z = z0) ∧ (32 ≤ z0 → 32 ≤ z) ∧ z ≤ 37) : tV (f_Ker_work_j585 N α) (WE c K m fam n M z0 α) (LX K fam α) := by
  obtain ⟨h1, h2, ⟨fs, ty, r, g, v, hs, hr, hg, ht⟩, h4⟩ := h
  unfold f_Ker_work_j585
  refine tV.ite (fun _ => fail_f N 10 h1 fk.rf) (fun ce => ?_)
  have e : fs = [] := Classical.byContradiction fun y => ce ((empty_of h1 v).mpr y)
  subst e
  obtain ⟨s1, s2⟩ := hs
  refine tV.ret ⟨h1, h2, fk.rf, fun y => ?_, fun y => ?_⟩
  · have : z = 1 := (hz.1 (by omega)).trans y
    exact absurd (s1 (Or.inl this)).1 (by omega)
  · have z32 := hz.2.1 y
    have z37 : z = 37 := by
      have := hz.2.2
      omega
    exact ⟨h4.1 z32, h4.2.2.2.2 z37⟩
/-- NORMAL FORM alone: no FREE variable stays -/
theorem work_evend {β : kS} (h : tT K β) (he : eI c K m β) (hS : SI2 True 0 2 β) : tV (f_Ker_work_j585 N β) (WE c K m fam n M 1 β) (LX K fam β) := by
  obtain ⟨fs, ty, r, g, v, hs, hr, hg, ht, hL⟩ := hS
  unfold f_Ker_work_j585
  refine tV.ite (fun _ => fail_f N 10 h fk.rf) (fun ce => ?_)
  have e : fs = [] := Classical.byContradiction fun y => ce ((empty_of h v).mpr y)
  subst e
  obtain ⟨s1, s2⟩ := hs
  have g0 := (s1 (Or.inr rfl)).2
  refine tV.ret ⟨h, he, fk.rf, fun _ => ?_, fun y => absurd y (by decide)⟩
  rw [v.2.2]
  obtain ⟨j, e, hj⟩ := hr g0
  have fp : FP β 0 r := (hL trivial).2 g0
  rw [e] at fp ⊢
  exact ⟨j, rfl, hj, fp.fl h.1.1 hj.1⟩
theorem work_ev (hN : 2 ^ 31 ≤ N) : ∀ (d x nn : Nat) (β : kS), tT K β → eI c K m β → 0 < m → NM m β → SI2 True 0 2 β → x + d = 16777216 → d < nn → tV (f_Ker_work_30 N nn (nI x) β) (WE c K m fam n M 1 β) (LX K fam β)
  | 0, x, nn, β, h1, h2, m0, nm, h, hx, hn => by
    obtain ⟨nn, rfl⟩ : ∃ n', nn = n' + 1 := ⟨nn - 1, by omega⟩
    rw [f_Ker_work_30, if_pos (show (16777216 : Int32) ≤ nI x from nI_le (a := 16777216) (by omega) (by omega))]
    exact work_evend h1 h2 h
  | d + 1, x, nn, β, h1, h2, m0, nm, h, hx, hn => by
    obtain ⟨nn, rfl⟩ : ∃ n', nn = n' + 1 := ⟨nn - 1, by omega⟩
    rw [f_Ker_work_30, if_neg (l24_lt (by omega))]
    refine tV.ite (fun ce => ?_) (fun ce => ?_)
    · obtain ⟨fs, ty, r, g, v, hs, hr, hg, ht, hL⟩ := h
      have hL := hL trivial
      have hne := (empty_of h1 v).mp ce
      cases fs with
      | nil => exact absurd rfl hne
      | cons f fs =>
        obtain ⟨o, a, b, t, dp⟩ := f
        obtain ⟨n0, dd, e0, ⟨hn0, hz0⟩, e4, hf, hl, hst⟩ := hs
        have e0 : o = nI n0 := e0
        have e4 : dp = nI dd := e4
        subst e0 e4
        obtain ⟨⟨⟨nv, env, hnv, hls⟩, hlev⟩, hfr⟩ := hL
        have env : nI n0 = nI nv := env
        have env : n0 = nv := (nI_eq (by omega) (by omega)).mp env
        subst env
        have hls : ls β n0 (vc fs) a b := hls
        have etop : f_Fra_top 0 β = nI n0 := top0 h1 v
        have hm := h2.2.2.2.1
        rw [etop, nI_1]
        have lc : ∀ k, nI n0 = nI k → k ≤ 31 → LC m 0 k g β a b fs r := fun k ek hk => by
          have e : n0 = k := (nI_eq (by omega) (by omega)).mp ek
          subst e
          refine ⟨rfl, ⟨m0, nm⟩, hls, hlev, fun q => ?_⟩
          have q := hfr q
          by_cases h12 : n0 = 12
          · rw [if_pos h12]
            rw [(vc_c (Or.inr h12)).1, Nat.add_comm] at q
            exact q
          · rw [if_neg h12]
            have pn : pl n0 = true := by
              have : n0 = 0 ∨ n0 = 1 ∨ n0 = 2 ∨ n0 = 3 ∨ n0 = 4 ∨ n0 = 5 ∨ n0 = 6 ∨ n0 = 7 ∨ n0 = 8 ∨ n0 = 9 ∨ n0 = 10 ∨ n0 = 11 ∨ n0 = 13 ∨ n0 = 14 := by omega
              rcases this with y | y | y | y | y | y | y | y | y | y | y | y | y | y
              all_goals first | (subst y; exact hls.elim) | (subst y; decide)
            rw [(vc_p pn).1] at q
            exact q
        have nx : ∀ k, nI n0 = nI k → k ≤ 31 → ∀ γ, TI2 (LC m 0 k g β a b fs r) K 0 2 β γ → tV (f_Ker_work_30 N nn (nI (x + 1)) γ) (WE c K m fam n M 1 β) (LX K fam β) := fun k ek hk γ q => by
          obtain ⟨q1, q2, fs', ty', r', g', u1, u2, u3, u4, u5, u6⟩ := q
          refine (work_ev hN d (x + 1) nn γ q1 (h2.ch q2 (by decide) (by decide)) m0 (nm.g hm q2.2.2) ⟨fs', ty', r', g', u1, u2, u3, u4, u5, fun _ => u6 (lc k ek hk)⟩ (by omega) (by omega)).mono (fun δ u => ⟨u.1, u.2.1, (fk.wk q2).tr u.2.2.1, u.2.2.2⟩) (fun δ u => ⟨u.1, (fk.wk q2).tr u.2⟩)
        have tx : ∀ γ, TX K β γ → LX K fam β γ := fun γ q => ⟨q.1, fk.wk q.2⟩
        have tp : ∀ k, nI n0 = nI k → k ≤ 31 → Top K c m 0 2 k β a b t dd fs ty r g := fun k ek hk => by
          have e : n0 = k := (nI_eq (by omega) (by omega)).mp ek
          subst e
          exact ⟨h1, h2, v, hf, hl, hst hk, hr, hg, ht⟩
        have no : ∀ k, nI n0 = nI k → 14 < k → k ≤ 36 → False := fun k ek hk hk' => by
          have e : n0 = k := (nI_eq (by omega) (by omega)).mp ek
          omega
        have nl : ∀ k, nI n0 = nI k → 3 ≤ k → k ≤ 8 → False := fun k ek hk hk' => by
          have e : n0 = k := (nI_eq (by omega) (by omega)).mp ek
          subst e
          have : n0 = 3 ∨ n0 = 4 ∨ n0 = 5 ∨ n0 = 6 ∨ n0 = 7 ∨ n0 = 8 := by omega
          rcases this with y | y | y | y | y | y
          all_goals (subst y; exact hls)
        refine tV.ite (fun c1 => ?_) (fun n1 => tV.ite (fun c2 => ?_) (fun n2 => tV.ite (fun c3 => ?_) (fun n3 => tV.ite (fun c4 => ?_) (fun n4 => tV.ite (fun c5 => ?_) (fun n5 => tV.ite (fun c6 => ?_) (fun n6 => tV.ite (fun c7 => ?_) (fun n7 => tV.ite (fun c8 => ?_) (fun n8 => tV.ite (fun c9 => ?_) (fun n9 => tV.ite (fun c10 => ?_) (fun n10 => tV.ite (fun c11 => ?_) (fun n11 => tV.ite (fun c12 => ?_) (fun n12 => tV.ite (fun c13 => ?_) (fun n13 => tV.ite (fun c14 => ?_) (fun n14 => tV.ite (fun c15 => ?_) (fun n15 => tV.ite (fun c16 => ?_) (fun n16 => tV.ite (fun c17 => ?_) (fun n17 => tV.ite (fun c18 => ?_) (fun n18 => tV.ite (fun c19 => ?_) (fun n19 => tV.ite (fun c20 => ?_) (fun n20 => tV.ite (fun c21 => ?_) (fun n21 => tV.ite (fun c22 => ?_) (fun n22 => tV.ite (fun c23 => ?_) (fun n23 => tV.ite (fun c24 => ?_) (fun n24 => tV.ite (fun c25 => ?_) (fun n25 => tV.ite (fun c26 => ?_) (fun n26 => tV.ite (fun c27 => ?_) (fun n27 => tV.ite (fun c28 => ?_) (fun n28 => tV.ite (fun c29 => ?_) (fun n29 => tV.ite (fun c30 => ?_) (fun n30 => tV.ite (fun c31 => ?_) (fun n31 => tV.ite (fun c32 => ?_) (fun n32 => tV.ite (fun c33 => ?_) (fun n33 => tV.ite (fun c34 => ?_) (fun n34 => tV.ite (fun c35 => ?_) (fun n35 => tV.ite (fun c36 => ?_) (fun n36 => ?_))))))))))))))))))))))))))))))))))))
        · exact (whnf_ok hN (tp 1 c1 (by decide))).bv (nx 1 c1 (by decide)) tx
        · exact (major_ok hN (tp 2 c2 (by decide))).bv (nx 2 c2 (by decide)) tx
        · exact (nl 3 c3 (by decide) (by decide)).elim
        · exact (nl 4 c4 (by decide) (by decide)).elim
        · exact (nl 5 c5 (by decide) (by decide)).elim
        · exact (nl 6 c6 (by decide) (by decide)).elim
        · exact (nl 7 c7 (by decide) (by decide)).elim
        · exact (nl 8 c8 (by decide) (by decide)).elim
        · exact (normal_ok hN (tp 9 c9 (by decide))).bv (nx 9 c9 (by decide)) tx
        · exact (normalSplit_ok hN (tp 10 c10 (by decide))).bv (nx 10 c10 (by decide)) tx
        · exact (normalBody_ok hN (tp 11 c11 (by decide))).bv (nx 11 c11 (by decide)) tx
        · exact (normalClose_ok hN (tp 12 c12 (by decide))).bv (nx 12 c12 (by decide)) tx
        · exact (normalArg_ok hN (tp 13 c13 (by decide))).bv (nx 13 c13 (by decide)) tx
        · exact (normalApply_ok hN (tp 14 c14 (by decide))).bv (nx 14 c14 (by decide)) tx
        · exact (no 15 c15 (by decide) (by decide)).elim
        · exact (no 16 c16 (by decide) (by decide)).elim
        · exact (no 17 c17 (by decide) (by decide)).elim
        · exact (no 18 c18 (by decide) (by decide)).elim
        · exact (no 19 c19 (by decide) (by decide)).elim
        · exact (no 20 c20 (by decide) (by decide)).elim
        · exact (no 21 c21 (by decide) (by decide)).elim
        · exact (no 22 c22 (by decide) (by decide)).elim
        · exact (no 23 c23 (by decide) (by decide)).elim
        · exact (no 24 c24 (by decide) (by decide)).elim
        · exact (no 25 c25 (by decide) (by decide)).elim
        · exact (no 26 c26 (by decide) (by decide)).elim
        · exact (no 27 c27 (by decide) (by decide)).elim
        · exact (no 28 c28 (by decide) (by decide)).elim
        · exact (no 29 c29 (by decide) (by decide)).elim
        · exact (no 30 c30 (by decide) (by decide)).elim
        · exact (no 31 c31 (by decide) (by decide)).elim
        · exact (no 32 c32 (by decide) (by decide)).elim
        · exact (no 33 c33 (by decide) (by decide)).elim
        · exact (no 34 c34 (by decide) (by decide)).elim
        · exact (no 35 c35 (by decide) (by decide)).elim
        · exact (no 36 c36 (by decide) (by decide)).elim
        · have z00 : n0 = 0 := by
            have m1 : n0 ≠ 1 := fun y => n1 (by rw [y]; rfl)
            have m2 : n0 ≠ 2 := fun y => n2 (by rw [y]; rfl)
            have m3 : n0 ≠ 3 := fun y => n3 (by rw [y]; rfl)
            have m4 : n0 ≠ 4 := fun y => n4 (by rw [y]; rfl)
            have m5 : n0 ≠ 5 := fun y => n5 (by rw [y]; rfl)
            have m6 : n0 ≠ 6 := fun y => n6 (by rw [y]; rfl)
            have m7 : n0 ≠ 7 := fun y => n7 (by rw [y]; rfl)
            have m8 : n0 ≠ 8 := fun y => n8 (by rw [y]; rfl)
            have m9 : n0 ≠ 9 := fun y => n9 (by rw [y]; rfl)
            have m10 : n0 ≠ 10 := fun y => n10 (by rw [y]; rfl)
            have m11 : n0 ≠ 11 := fun y => n11 (by rw [y]; rfl)
            have m12 : n0 ≠ 12 := fun y => n12 (by rw [y]; rfl)
            have m13 : n0 ≠ 13 := fun y => n13 (by rw [y]; rfl)
            have m14 : n0 ≠ 14 := fun y => n14 (by rw [y]; rfl)
            have m15 : n0 ≠ 15 := fun y => n15 (by rw [y]; rfl)
            have m16 : n0 ≠ 16 := fun y => n16 (by rw [y]; rfl)
            have m17 : n0 ≠ 17 := fun y => n17 (by rw [y]; rfl)
            have m18 : n0 ≠ 18 := fun y => n18 (by rw [y]; rfl)
            have m19 : n0 ≠ 19 := fun y => n19 (by rw [y]; rfl)
            have m20 : n0 ≠ 20 := fun y => n20 (by rw [y]; rfl)
            have m21 : n0 ≠ 21 := fun y => n21 (by rw [y]; rfl)
            have m22 : n0 ≠ 22 := fun y => n22 (by rw [y]; rfl)
            have m23 : n0 ≠ 23 := fun y => n23 (by rw [y]; rfl)
            have m24 : n0 ≠ 24 := fun y => n24 (by rw [y]; rfl)
            have m25 : n0 ≠ 25 := fun y => n25 (by rw [y]; rfl)
            have m26 : n0 ≠ 26 := fun y => n26 (by rw [y]; rfl)
            have m27 : n0 ≠ 27 := fun y => n27 (by rw [y]; rfl)
            have m28 : n0 ≠ 28 := fun y => n28 (by rw [y]; rfl)
            have m29 : n0 ≠ 29 := fun y => n29 (by rw [y]; rfl)
            have m30 : n0 ≠ 30 := fun y => n30 (by rw [y]; rfl)
            have m31 : n0 ≠ 31 := fun y => n31 (by rw [y]; rfl)
            have m32 : n0 ≠ 32 := fun y => n32 (by rw [y]; rfl)
            have m33 : n0 ≠ 33 := fun y => n33 (by rw [y]; rfl)
            have m34 : n0 ≠ 34 := fun y => n34 (by rw [y]; rfl)
            have m35 : n0 ≠ 35 := fun y => n35 (by rw [y]; rfl)
            have m36 : n0 ≠ 36 := fun y => n36 (by rw [y]; rfl)
            omega
          have z01 : nI n0 = nI 0 := by rw [z00]
          exact nx 0 z01 (by decide) _ (return_ok (tp 0 z01 (by decide)))
    · exact work_evend h1 h2 h
theorem work_go (hN : 2 ^ 31 ≤ N) {z0 : Nat} : ∀ (d x nn : Nat) (β : kS) (yv z : Nat), LI c K m fam n M yv z β → ((z0 < 32 → z = z0) ∧ (32 ≤ z0 → 32 ≤ z) ∧ z ≤ 37) → (z = 1 → yv = 0 ∧ 0 < m ∧ NM m β) → x + d = 16777216 → d < nn → tV (f_Ker_work_30 N nn (nI x) β) (WE c K m fam n M z0 β) (LX K fam β)
  | 0, x, nn, β, yv, z, h, hz, hq1, hx, hn => by
    obtain ⟨nn, rfl⟩ : ∃ n', nn = n' + 1 := ⟨nn - 1, by omega⟩
    rw [f_Ker_work_30, if_pos (show (16777216 : Int32) ≤ nI x from nI_le (a := 16777216) (by omega) (by omega))]
    exact work_end h hz
  | d + 1, x, nn, β, yv, z, h, hz, hq1, hx, hn => by
    obtain ⟨nn, rfl⟩ : ∃ n', nn = n' + 1 := ⟨nn - 1, by omega⟩
    rw [f_Ker_work_30, if_neg (l24_lt (by omega))]
    refine tV.ite (fun ce => ?_) (fun ce => ?_)
    · obtain ⟨h1, h2, ⟨fs, ty, r, g, v, hs, hr, hg, ht⟩, h4⟩ := h
      have hne := (empty_of h1 v).mp ce
      cases fs with
      | nil => exact absurd rfl hne
      | cons f fs =>
        obtain ⟨o, a, b, t, dp⟩ := f
        obtain ⟨n0, dd, e0, ⟨hn0, hz0⟩, e4, hf, hl, hst⟩ := hs
        have e0 : o = nI n0 := e0
        have e4 : dp = nI dd := e4
        subst e0 e4
        have etop : f_Fra_top 0 β = nI n0 := top0 h1 v
        have hm := h2.2.2.2.1
        rw [etop, nI_1]
        have nx : ∀ γ, TI K yv z β γ → tV (f_Ker_work_30 N nn (nI (x + 1)) γ) (WE c K m fam n M z0 β) (LX K fam β) := fun γ q => by
          refine (work_go hN d (x + 1) nn γ yv z ⟨q.1, h2.ch q.2.1 (by decide) (by decide), q.2.2, h4.ch h1 q.1 hm q.2.1 (fun _ y => y) (fun _ y => y)⟩ hz (fun y => ⟨(hq1 y).1, (hq1 y).2.1, (hq1 y).2.2.g hm q.2.1.2.2⟩) (by omega) (by omega)).mono (fun δ u => ⟨u.1, u.2.1, (fk.wk q.2.1).tr u.2.2.1, u.2.2.2⟩) (fun δ u => ⟨u.1, (fk.wk q.2.1).tr u.2⟩)
        have nxl : 32 ≤ z → ∀ γ, LO c K m fam n M β γ → tV (f_Ker_work_30 N nn (nI (x + 1)) γ) (WE c K m fam n M z0 β) (LX K fam β) := fun z32 γ q => by
          obtain ⟨⟨yv', z', q1, q1', q2⟩, q3⟩ := q
          refine (work_go hN d (x + 1) nn γ yv' z' q2 ⟨fun y => by have := hz.1 y; omega, fun _ => q1, q1'⟩ (fun y => by omega) (by omega) (by omega)).mono (fun δ u => ⟨u.1, u.2.1, q3.tr u.2.2.1, u.2.2.2⟩) (fun δ u => ⟨u.1, q3.tr u.2⟩)
        have tx : ∀ γ, TX K β γ → LX K fam β γ := fun γ q => ⟨q.1, fk.wk q.2⟩
        have tp : ∀ k, nI n0 = nI k → k ≤ 31 → Top K c m yv z k β a b t dd fs ty r g := fun k ek hk => by
          have e : n0 = k := (nI_eq (by omega) (by omega)).mp ek
          subst e
          exact ⟨h1, h2, v, hf, hl, hst hk, hr, hg, ht⟩
        have bt : ∀ k, nI n0 = nI k → 32 ≤ k → k ≤ 36 → 32 ≤ z ∧ Bot c K m fam n M yv k β a b t ty r := fun k ek hk hk' => by
          have e : n0 = k := (nI_eq (by omega) (by omega)).mp ek
          subst e
          have h0 := fo_bot hk hf
          cases fs with
          | cons f' fs' => exact absurd h0 (by show fs'.length + 1 ≠ 0; omega)
          | nil =>
            have ez : z = n0 := hz0 hk
            subst ez
            have hdd : dd = 0 := fo_dd hk hf
            subst hdd
            exact ⟨hk, h1, h2, v, ht, h4⟩
        refine tV.ite (fun c1 => ?_) (fun n1 => tV.ite (fun c2 => ?_) (fun n2 => tV.ite (fun c3 => ?_) (fun n3 => tV.ite (fun c4 => ?_) (fun n4 => tV.ite (fun c5 => ?_) (fun n5 => tV.ite (fun c6 => ?_) (fun n6 => tV.ite (fun c7 => ?_) (fun n7 => tV.ite (fun c8 => ?_) (fun n8 => tV.ite (fun c9 => ?_) (fun n9 => tV.ite (fun c10 => ?_) (fun n10 => tV.ite (fun c11 => ?_) (fun n11 => tV.ite (fun c12 => ?_) (fun n12 => tV.ite (fun c13 => ?_) (fun n13 => tV.ite (fun c14 => ?_) (fun n14 => tV.ite (fun c15 => ?_) (fun n15 => tV.ite (fun c16 => ?_) (fun n16 => tV.ite (fun c17 => ?_) (fun n17 => tV.ite (fun c18 => ?_) (fun n18 => tV.ite (fun c19 => ?_) (fun n19 => tV.ite (fun c20 => ?_) (fun n20 => tV.ite (fun c21 => ?_) (fun n21 => tV.ite (fun c22 => ?_) (fun n22 => tV.ite (fun c23 => ?_) (fun n23 => tV.ite (fun c24 => ?_) (fun n24 => tV.ite (fun c25 => ?_) (fun n25 => tV.ite (fun c26 => ?_) (fun n26 => tV.ite (fun c27 => ?_) (fun n27 => tV.ite (fun c28 => ?_) (fun n28 => tV.ite (fun c29 => ?_) (fun n29 => tV.ite (fun c30 => ?_) (fun n30 => tV.ite (fun c31 => ?_) (fun n31 => tV.ite (fun c32 => ?_) (fun n32 => tV.ite (fun c33 => ?_) (fun n33 => tV.ite (fun c34 => ?_) (fun n34 => tV.ite (fun c35 => ?_) (fun n35 => tV.ite (fun c36 => ?_) (fun n36 => ?_))))))))))))))))))))))))))))))))))))
        · exact (whnf_ok hN (tp 1 c1 (by decide))).bv (fun γ q => nx γ q.ti) tx
        · exact (major_ok hN (tp 2 c2 (by decide))).bv (fun γ q => nx γ q.ti) tx
        · exact (conv_ok hN (tp 3 c3 (by decide))).bv nx tx
        · exact (convLeft_ok hN (tp 4 c4 (by decide))).bv nx tx
        · exact (convRight_ok hN (tp 5 c5 (by decide))).bv nx tx
        · exact (convBodies_ok hN (tp 6 c6 (by decide))).bv nx tx
        · exact nx _ (convLeave_ok (tp 7 c7 (by decide)))
        · exact (convArgs_ok hN (tp 8 c8 (by decide))).bv nx tx
        · exact (normal_ok hN (tp 9 c9 (by decide))).bv (fun γ q => nx γ q.ti) tx
        · exact (normalSplit_ok hN (tp 10 c10 (by decide))).bv (fun γ q => nx γ q.ti) tx
        · exact (normalBody_ok hN (tp 11 c11 (by decide))).bv (fun γ q => nx γ q.ti) tx
        · exact (normalClose_ok hN (tp 12 c12 (by decide))).bv (fun γ q => nx γ q.ti) tx
        · exact (normalArg_ok hN (tp 13 c13 (by decide))).bv (fun γ q => nx γ q.ti) tx
        · exact (normalApply_ok hN (tp 14 c14 (by decide))).bv (fun γ q => nx γ q.ti) tx
        · exact (infer_ok hN (tp 15 c15 (by decide))).bv nx tx
        · exact (piBody_ok hN (tp 16 c16 (by decide))).bv nx tx
        · exact (piEnd_ok hN (tp 17 c17 (by decide))).bv nx tx
        · exact (lamBody_ok hN (tp 18 c18 (by decide))).bv nx tx
        · exact (lamEnd_ok hN (tp 19 c19 (by decide))).bv nx tx
        · exact (letValue_ok (tp 20 c20 (by decide))).bv nx tx
        · exact (letBody_ok hN (tp 21 c21 (by decide))).bv nx tx
        · exact (appType_ok (tp 22 c22 (by decide))).bv nx tx
        · exact (appArgument_ok hN (tp 23 c23 (by decide))).bv nx tx
        · exact (appOpen_ok hN (tp 24 c24 (by decide))).bv nx tx
        · exact (sortType_ok (tp 25 c25 (by decide))).bv nx tx
        · exact (sortEnd_ok (tp 26 c26 (by decide))).bv nx tx
        · exact (checkType_ok (tp 27 c27 (by decide))).bv nx tx
        · exact (declare_ok (tp 28 c28 (by decide))).bv nx tx
        · exact (declareValue_ok (tp 29 c29 (by decide))).bv nx tx
        · exact (eval_ok (tp 30 c30 (by decide))).bv nx tx
        · have T := tp 31 c31 (by decide)
          have z1 : z = 1 := by
            rcases Nat.decEq z 1 with y | y
            · exfalso
              obtain ⟨-, -, -, ⟨-, q1, -⟩, -, q2, -⟩ := T
              have q3 : fs = [] := List.length_eq_zero_iff.mp q1
              subst q3
              have q4 : zs 31 z = 32 := if_neg y
              rw [q4] at q2
              exact q2.2 ⟨by decide, by decide⟩
            · exact y
          obtain ⟨q1, q2, q3⟩ := hq1 z1
          have z01 : z0 = 1 := by
            rcases Nat.lt_or_ge z0 32 with y | y
            · have := hz.1 y
              omega
            · have := hz.2.1 y
              omega
          subst q1 z1 z01
          refine (evalTyped_ok T).bv (fun γ q => ?_) tx
          exact (work_ev hN d (x + 1) nn γ q.1 (h2.ch q.2.1 (by decide) (by decide)) q2 (q3.g hm q.2.1.2.2) q.2.2 (by omega) (by omega)).mono (fun δ u => ⟨u.1, u.2.1, (fk.wk q.2.1).tr u.2.2.1, u.2.2.2⟩) (fun δ u => ⟨u.1, (fk.wk q.2.1).tr u.2⟩)
        · obtain ⟨z32, B⟩ := bt 32 c32 (by decide) (by decide)
          exact (family_ok hN B).bv (nxl z32) (fun _ q => q)
        · obtain ⟨z32, B⟩ := bt 33 c33 (by decide) (by decide)
          exact (member_ok hN B).bv (nxl z32) (fun _ q => q)
        · obtain ⟨z32, B⟩ := bt 34 c34 (by decide) (by decide)
          exact (argument_ok hN B).bv (nxl z32) (fun _ q => q)
        · obtain ⟨z32, B⟩ := bt 35 c35 (by decide) (by decide)
          exact (tested_ok hN B).bv (nxl z32) (fun _ q => q)
        · obtain ⟨z32, B⟩ := bt 36 c36 (by decide) (by decide)
          exact nxl z32 _ (memberTyped_ok B)
        · refine nx _ (return_ok (tp 0 ?_ (by decide))).ti
          have : n0 = 0 := by
            have m1 : n0 ≠ 1 := fun y => n1 (by rw [y]; rfl)
            have m2 : n0 ≠ 2 := fun y => n2 (by rw [y]; rfl)
            have m3 : n0 ≠ 3 := fun y => n3 (by rw [y]; rfl)
            have m4 : n0 ≠ 4 := fun y => n4 (by rw [y]; rfl)
            have m5 : n0 ≠ 5 := fun y => n5 (by rw [y]; rfl)
            have m6 : n0 ≠ 6 := fun y => n6 (by rw [y]; rfl)
            have m7 : n0 ≠ 7 := fun y => n7 (by rw [y]; rfl)
            have m8 : n0 ≠ 8 := fun y => n8 (by rw [y]; rfl)
            have m9 : n0 ≠ 9 := fun y => n9 (by rw [y]; rfl)
            have m10 : n0 ≠ 10 := fun y => n10 (by rw [y]; rfl)
            have m11 : n0 ≠ 11 := fun y => n11 (by rw [y]; rfl)
            have m12 : n0 ≠ 12 := fun y => n12 (by rw [y]; rfl)
            have m13 : n0 ≠ 13 := fun y => n13 (by rw [y]; rfl)
            have m14 : n0 ≠ 14 := fun y => n14 (by rw [y]; rfl)
            have m15 : n0 ≠ 15 := fun y => n15 (by rw [y]; rfl)
            have m16 : n0 ≠ 16 := fun y => n16 (by rw [y]; rfl)
            have m17 : n0 ≠ 17 := fun y => n17 (by rw [y]; rfl)
            have m18 : n0 ≠ 18 := fun y => n18 (by rw [y]; rfl)
            have m19 : n0 ≠ 19 := fun y => n19 (by rw [y]; rfl)
            have m20 : n0 ≠ 20 := fun y => n20 (by rw [y]; rfl)
            have m21 : n0 ≠ 21 := fun y => n21 (by rw [y]; rfl)
            have m22 : n0 ≠ 22 := fun y => n22 (by rw [y]; rfl)
            have m23 : n0 ≠ 23 := fun y => n23 (by rw [y]; rfl)
            have m24 : n0 ≠ 24 := fun y => n24 (by rw [y]; rfl)
            have m25 : n0 ≠ 25 := fun y => n25 (by rw [y]; rfl)
            have m26 : n0 ≠ 26 := fun y => n26 (by rw [y]; rfl)
            have m27 : n0 ≠ 27 := fun y => n27 (by rw [y]; rfl)
            have m28 : n0 ≠ 28 := fun y => n28 (by rw [y]; rfl)
            have m29 : n0 ≠ 29 := fun y => n29 (by rw [y]; rfl)
            have m30 : n0 ≠ 30 := fun y => n30 (by rw [y]; rfl)
            have m31 : n0 ≠ 31 := fun y => n31 (by rw [y]; rfl)
            have m32 : n0 ≠ 32 := fun y => n32 (by rw [y]; rfl)
            have m33 : n0 ≠ 33 := fun y => n33 (by rw [y]; rfl)
            have m34 : n0 ≠ 34 := fun y => n34 (by rw [y]; rfl)
            have m35 : n0 ≠ 35 := fun y => n35 (by rw [y]; rfl)
            have m36 : n0 ≠ 36 := fun y => n36 (by rw [y]; rfl)
            omega
          rw [this]
    · have q : f_Ker_work_j585 N β = some (some none, β) := by unfold f_Ker_work_j585; rw [if_neg ce]
      have := work_end (N := N) (z0 := z0) h hz
      exact this
end WORK
