-- telescope, isFamily, small
section FAM
variable {N : Nat} {W : Nat → Prop} {s Lc : Nat} {Lr : Nat → Prop} {w t0 nv U : Nat} {α : mS}
theorem nI_neg1 : nI 0 - 1 = -1 := by decide
theorem tel_7 {ts : Nat → Nat} (hn : nrm W s) : ∀ (d x nn t0 : Nat) (y : Int32) (α : mS), d ≤ 3000 → d < nn → y = nI d - 1 → PO W s Lc Lr t0 α → (∀ i, i < d → α.2 27 i = nI (ts i) ∧ vd W s t0 (ts i) ∧ PN α (ts i)) → vd W s t0 x → fit α x → PN α x → rI (f_Mod_telescope_7 N nn y (nI x) α) (fun v β => ∃ r t1, v = nI r ∧ QN W s Lc Lr [10] t0 α r t1 β ∧ fit β r ∧ PN β r ∧ d + uD α x ≤ uD β r ∧ 2 * d + uB α x ≤ uB β r) (XN W s [10, 100, 101] t0 α)
  | 0, x, nn, t0, y, α, hd, hm, hy, hP, hts, vx, fx, px => by
    obtain ⟨nn, rfl⟩ : ∃ n', nn = n' + 1 := ⟨nn - 1, by omega⟩
    rw [f_Mod_telescope_7, hy, if_pos (by decide)]
    exact rI.ret ⟨x, t0, rfl, ⟨Nat.le_refl _, hP, mch.rf, sN.rf, vx⟩, fx, px, by omega, by omega⟩
  | d + 1, x, nn, t0, y, α, hd, hm, hy, hP, hts, vx, fx, px => by
    obtain ⟨nn, rfl⟩ : ∃ n', nn = n' + 1 := ⟨nn - 1, by omega⟩
    obtain ⟨t1, t2, t3⟩ := hts d (by omega)
    rw [nI_s1] at hy
    rw [f_Mod_telescope_7, hy, if_neg (nI_pos (by omega)), nI_clamp (show d < 2 ^ 31 by omega), t1]
    refine rI.ix (mix' (show d < 3400 by omega) (by decide)) ?_
    refine (node_w (k := 6) hP hn.f (fun z => z) (by decide) (fun _ => ⟨ts d, x, rfl, rfl, ⟨t2, hn.lt hP t2⟩, ⟨vx, hn.lt hP vx⟩, fun z => absurd z (by decide)⟩) (fun z => absurd z (by decide)) (fun z => absurd z (by decide)) (fun z => absurd z (by decide))).bi (fun v β q => ?_) (fun β q => ⟨q.mo (by decide) (fun r z => by cases z), sN.ch q (fun r _ _ z => by cases z)⟩)
    obtain ⟨rfl, q1, q2, q3, q4, q5, q6, q7, -⟩ := q
    have v0 : vd W s (t0 + 1) t0 := Or.inr ⟨hP.2.1, by omega⟩
    have x4 := (hP.nw t2).1
    have y4 := (hP.nw vx).1
    have ea : uA β t0 = ts d := by unfold uA; rw [q6, nI_clamp (by omega)]
    have ec : uC β t0 = x := by unfold uC; rw [q7, nI_clamp (by omega)]
    have g1 : QN W s Lc Lr [10] t0 α t0 (t0 + 1) β := ⟨by omega, q2, q3.mo (fun _ z => z) (by decide), q4, v0⟩
    refine (fits_ok q2 v0).bi (fun v γ u => ?_) (fun γ u => g1.tx (J := [10, 100, 101]) ⟨u.mo (by decide) (fun r z => by cases z), sN.ch u (fun r _ _ z => by cases z)⟩ (by decide))
    obtain ⟨rfl, rfl, u1⟩ := u
    have hW1 := q2.2.2.2
    have h6 : 6 ≤ uK γ t0 := by omega
    have be := big_eq hW1 v0 h6 (by have := u1.1; omega)
    have dd := hW1.dd v0 h6
    rw [ea, ec, q4.b t2, q4.b vx] at be
    rw [ec, q4.d vx] at dd
    have bt := big_pos hP.2.2.2 t2
    have pp : PN γ t0 := PN.mk h6 (by rw [ea]; exact t3.sn hP.2.2.2 q4 t2) (by rw [ec]; exact px.sn hP.2.2.2 q4 vx) (fun z => by omega)
    refine (tel_7 (ts := ts) hn d t0 nn (t0 + 1) _ γ (by omega) (by omega) (i32_m1 _) q2 (fun i hi => ?_) v0 u1 pp).mono (fun v δ y => ?_) (fun δ y => g1.tx y (by decide))
    · obtain ⟨a, b, c⟩ := hts i (by omega)
      exact ⟨by rw [q3.arr (by decide)]; exact a, b.up (by omega), c.sn hP.2.2.2 q4 b⟩
    · obtain ⟨r, t5, e5, y1, y2, y3, y4, y5⟩ := y
      refine ⟨r, t5, e5, g1.tr y1, y2, y3, by omega, ?_⟩
      have : (if uK γ t0 = 9 then uB γ (uE γ t0) else 0) = 0 := if_neg (by omega)
      omega
theorem tele_ok {ts : Nat → Nat} {n x : Nat} (hN : 400000 < N) (hn : nrm W s) (hn3 : n ≤ 3000) (hP : PO W s Lc Lr t0 α) (hts : ∀ i, i < n → α.2 27 i = nI (ts i) ∧ vd W s t0 (ts i) ∧ PN α (ts i)) (vx : vd W s t0 x) (fx : fit α x) (px : PN α x) : rI (f_Mod_telescope N (nI n) (nI x) α) (fun v β => ∃ r t1, v = nI r ∧ QN W s Lc Lr [10] t0 α r t1 β ∧ fit β r ∧ PN β r ∧ n + uD α x ≤ uD β r ∧ 2 * n + uB α x ≤ uB β r) (XN W s [10, 100, 101] t0 α) := by
  unfold f_Mod_telescope
  exact tel_7 (ts := ts) hn n x N t0 _ α hn3 (by omega) rfl hP hts vx fx px
/-- isFamily -/
theorem isf_104 {t k np q : Nat} (hN : 400000 < N) (hP : PO W s Lc Lr t0 α) (vt : vd W s t0 t) (ft : fit α t) (ha : apn α (np + q) t) (hq : np + q < 400000) : ∀ (d i nn : Nat), i + d = np + q → d < nn → ∃ v, f_Mod_isFamily_104 N α nn (nI i) (nI t) (nI k) (nI np) (nI q) = some v
  | 0, i, nn, hd, hm => by
    obtain ⟨nn, rfl⟩ : ∃ n', nn = n' + 1 := ⟨nn - 1, by omega⟩
    rw [f_Mod_isFamily_104, nI_add, if_pos (nI_le (by omega) (by omega))]
    exact ⟨_, rfl⟩
  | d + 1, i, nn, hd, hm => by
    obtain ⟨nn, rfl⟩ : ∃ n', nn = n' + 1 := ⟨nn - 1, by omega⟩
    rw [f_Mod_isFamily_104, nI_add, if_neg (nI_ge (by omega) (by omega))]
    obtain ⟨r, er, vr, fr, -⟩ := nth_f (S := fun _ => True) hN hP vt ha (show i < np + q by omega)
    have fr := fr ft
    obtain ⟨x, ex⟩ := hasm_ok hN hP.2.2.2 dp_has r (nI k) vr (Nat.le_trans fr.2 (by decide))
    rw [er]
    show ∃ v, ((G_has N dp_has) (nI r) (nI k) α).bind _ = some v
    rw [ex]
    show ∃ v, (if x = 0 then _ else _) = some v
    by_cases h0 : x = 0
    · rw [if_pos h0, nI_1]
      exact isf_104 hN hP vt ft ha hq d (i + 1) nn (by omega) (by omega)
    · rw [if_neg h0]; exact ⟨_, rfl⟩
theorem isf_46 {t k np q : Nat} (hN : 400000 < N) (hP : PO W s Lc Lr t0 α) (vt : vd W s t0 t) (ft : fit α t) (ha : apn α (np + q) t) (hq : np + q < 400000) (hnp : np ≤ 5000) : ∀ (d i nn : Nat), i + d = np → d < nn → ∃ v, f_Mod_isFamily_46 N α nn (nI i) (nI t) (nI k) (nI np) (nI q) = some v
  | 0, i, nn, hd, hm => by
    obtain ⟨nn, rfl⟩ : ∃ n', nn = n' + 1 := ⟨nn - 1, by omega⟩
    rw [f_Mod_isFamily_46, if_pos (nI_le (by omega) (by omega))]
    exact isf_104 hN hP vt ft ha hq q np N (by omega) (by omega)
  | d + 1, i, nn, hd, hm => by
    obtain ⟨nn, rfl⟩ : ∃ n', nn = n' + 1 := ⟨nn - 1, by omega⟩
    rw [f_Mod_isFamily_46, if_neg (nI_ge (by omega) (by omega)), nI_add]
    obtain ⟨r, er, vr, -, -⟩ := nth_f (S := fun _ => True) hN hP vt ha (show i < np + q by omega)
    have hW := hP.2.2.2
    rw [er]
    show ∃ v, (if nI r < 0 ∨ _ then none else _) = some v
    rw [hW.cl vr, if_neg (hW.ix vr), if_neg (hW.ix vr)]
    by_cases h3 : α.2 2 r = 3
    · rw [if_pos h3, if_neg (mix (show i < 5000 by omega) (by decide))]
      split
      · rw [nI_1]; exact isf_46 hN hP vt ft ha hq hnp d (i + 1) nn (by omega) (by omega)
      · exact ⟨_, rfl⟩
    · rw [if_neg h3]; exact ⟨_, rfl⟩
theorem isf_ok {t k np q : Nat} (hN : 400000 < N) (hP : PO W s Lc Lr t0 α) (vt : vd W s t0 t) (ft : fit α t) (hq : np + q ≤ 5000) : ∃ v, f_Mod_isFamily N (nI t) (nI k) (nI np) (nI q) α = some v ∧ (v ≠ 0 → apn α (np + q) t ∧ uK α (itr α (np + q) t) = 1) := by
  have hW := hP.2.2.2
  obtain ⟨b, a1, a2, a3, a4, a5, a6⟩ := head_m hN hW vt
  unfold f_Mod_isFamily
  rw [a3]
  show ∃ v, (if nI (itr α b t) < 0 ∨ _ then none else _) = some v ∧ _
  rw [hW.cl a5, if_neg (hW.ix a5), if_neg (hW.ix a5)]
  by_cases h1 : α.2 2 (itr α b t) = 1
  · rw [if_pos h1]
    have k1 : uK α (itr α b t) = 1 := (hW.is a5 (m := 1) (by decide)).mp h1
    split
    · rw [a4]
      show ∃ v, (if nI b = nI np + nI q then _ else _) = some v ∧ _
      rw [nI_add]
      by_cases hb : nI b = nI (np + q)
      · have eb : b = np + q := by
          rcases Nat.decEq b (np + q) with z | z
          · exact absurd hb (nI_ne (by omega) (by omega) z)
          · exact z
        rw [if_pos hb]
        rw [eb] at a1 k1
        obtain ⟨v, ev⟩ := isf_46 (k := k) hN hP vt ft a1 (by omega) (by omega) np 0 N (by omega) (by omega)
        exact ⟨v, ev, fun _ => ⟨a1, k1⟩⟩
      · rw [if_neg hb]; exact ⟨_, rfl, fun z => absurd rfl z⟩
    · exact ⟨_, rfl, fun z => absurd rfl z⟩
  · rw [if_neg h1]; exact ⟨_, rfl, fun z => absurd rfl z⟩
/-- small -/
theorem sma_33 {c np q e i : Nat} {k10 : Int32 → Int32 → Int32 → Int32 → Option Int32} (hN : 400000 < N) (hP : PO W s Lc Lr t0 α) (ve : vd W s t0 e) (he : α.2 37 0 = nI e) (ha : apn α (np + q) e) (hq : np + q ≤ 5000) (hi : i < 4000) (hk : ∃ v, k10 (nI (i + 1)) (nI np) (nI c) (nI q) = some v) : ∀ (d x nn : Nat) (is : Int32), x + d = np + q → d < nn → ∃ v, f_Mod_small_33 N k10 α nn (nI x) is (nI i) (nI np) (nI c) (nI q) = some v
  | 0, x, nn, is, hd, hm => by
    obtain ⟨nn, rfl⟩ : ∃ n', nn = n' + 1 := ⟨nn - 1, by omega⟩
    rw [f_Mod_small_33, nI_add, if_pos (nI_le (by omega) (by omega))]
    by_cases h0 : is = 0
    · rw [if_pos h0]; exact ⟨_, rfl⟩
    · rw [if_neg h0, nI_1]; exact hk
  | d + 1, x, nn, is, hd, hm => by
    obtain ⟨nn, rfl⟩ : ∃ n', nn = n' + 1 := ⟨nn - 1, by omega⟩
    have hW := hP.2.2.2
    obtain ⟨r, er, vr, -, -⟩ := nth_f (S := fun _ => True) hN hP ve ha (show x < np + q by omega)
    have ih : ∀ is, ∃ v, f_Mod_small_33 N k10 α nn (nI (x + 1)) is (nI i) (nI np) (nI c) (nI q) = some v := fun is => sma_33 hN hP ve he ha hq hi hk d (x + 1) nn is (by omega) (by omega)
    rw [f_Mod_small_33, nI_add, if_neg (nI_ge (by omega) (by omega)), if_neg (by decide)]
    show ∃ v, (f_Mod_nth N (α.2 37 0) (nI (np + q)) (nI x) α).bind _ = some v
    rw [he, er]
    show ∃ v, (if is = 0 then _ else _) = some v
    rw [hW.cl vr, nI_1]
    by_cases h0 : is = 0
    · rw [if_pos h0, if_neg (hW.ix vr), if_neg (hW.ix vr)]
      by_cases h3 : α.2 2 r = 3
      · rw [if_pos h3, if_neg (mix hi (by decide))]
        split
        · exact ih 1
        · exact ih 0
      · rw [if_neg h3]; exact ih 0
    · rw [if_neg h0]; exact ih 1
theorem sma_10 {c np q e m : Nat} (hN : 400000 < N) (hP : PO W s Lc Lr t0 α) (hc : c < 301) (hm : α.2 18 c = nI m) (hm4 : m ≤ 4000) (he : 0 < m → vd W s t0 e ∧ α.2 37 0 = nI e ∧ apn α (np + q) e) (hq : np + q ≤ 5000) : ∀ (d i nn : Nat), i + d = m → d < nn → ∃ v, f_Mod_small_10 N α nn (nI i) (nI np) (nI c) (nI q) = some v
  | 0, i, nn, hd, hn => by
    obtain ⟨nn, rfl⟩ : ∃ n', nn = n' + 1 := ⟨nn - 1, by omega⟩
    rw [f_Mod_small_10, if_neg (mix hc (by decide)), nI_clamp (show c < 2 ^ 31 by omega), hm, if_pos (nI_le (by omega) (by omega))]
    exact ⟨_, rfl⟩
  | d + 1, i, nn, hd, hn => by
    obtain ⟨nn, rfl⟩ : ∃ n', nn = n' + 1 := ⟨nn - 1, by omega⟩
    obtain ⟨e1, e2, e3⟩ := he (by omega)
    rw [f_Mod_small_10, if_neg (mix hc (by decide)), nI_clamp (show c < 2 ^ 31 by omega), hm, if_neg (nI_ge (by omega) (by omega)), if_neg (mix (show i < 4000 by omega) (by decide))]
    exact sma_33 hN hP e1 e2 e3 hq (by omega) (sma_10 hN hP hc hm hm4 he hq d (i + 1) nn (by omega) (by omega)) q np N _ rfl (by omega)
theorem small_m {c np q e m : Nat} (hN : 400000 < N) (hP : PO W s Lc Lr t0 α) (hc : c < 301) (hm : α.2 18 c = nI m) (hm4 : m ≤ 4000) (h15 : α.2 15 c = nI np) (he : 0 < m → vd W s t0 e ∧ α.2 37 0 = nI e ∧ apn α (np + q) e) (hq : np + q ≤ 5000) : ∃ v, f_Mod_small N (nI c) (nI q) α = some v := by
  unfold f_Mod_small
  rw [if_neg (mix hc (by decide)), nI_clamp (show c < 2 ^ 31 by omega), h15]
  exact sma_10 hN hP hc hm hm4 he hq m 0 N (by omega) (by omega)
end FAM
