-- made, from its beginning
/-- what is known of a family before its recursor is made -/
def BK (κ t : Nat) (α : mS) (nv np nq k many : Nat) (P G z f m e wh wb : Nat → Nat) (x zz : Nat) : Prop := (∀ j, j < many → CF (· < κ) 32000 t α nv np nq k P G z j (f j) (m j) (e j)) ∧ WF κ t α many wh wb ∧ (vd (· < κ) 32000 t x ∧ fit α x ∧ clo α x) ∧ (α.1 17 = nI κ ∧ α.1 18 = nI zz) ∧ ∀ j, j < many → ∃ oc, α.2 43 j = nI oc ∧ oc ≤ 1000000
def BC (κ t : Nat) (α : mS) (nv np cv c : Nat) (P : Nat → Nat) : Prop := (TM (· < κ) 32000 t α 0 1 (fun v => v = cv) c ∧ α.2 3 c = nI cv) ∧ VT (· < κ) 32000 t α nv 1000000 797 (ml P 0 np) cv
def PIc (α : mS) : Nat → Nat → Prop
  | 0, _ => True
  | q + 1, t => uK α t = 6 ∧ PIc α q (uC α t)
section MADE2
variable {N : Nat} {κ Lc : Nat} {Lr : Nat → Prop} {w t0 t1 nv nv1 nq U : Nat} {α β : mS}
theorem PIc.sn {V : Nat → Prop} (hW : nWf V Lc Lr α) (hs : sN V α β) : ∀ {q t : Nat}, V t → PIc α q t → PIc β q t
  | 0, _, _, _ => trivial
  | q + 1, t, ht, h => ⟨by rw [hs.k ht]; exact h.1, by rw [hs.c ht]; exact PIc.sn hW hs (hW.p4 ht (by rw [h.1]; decide)).2.2 h.2⟩
theorem BK.gr {np k many x zz : Nat} {P G z f m e wh wb : Nat → Nat} (h : BK κ t0 α nv np nq k many P G z f m e wh wb x zz) (hP : PO (· < κ) 32000 Lc Lr t0 α) (g : GR (· < κ) 32000 t0 α nv (· < κ) t1 nv1 β) (hr : ∀ r, r ∈ [18, 35, 36, 37, 38, 39, 43] → β.2 r = α.2 r) (hi : β.1 17 = α.1 17 ∧ β.1 18 = α.1 18) : BK κ t1 β nv1 np nq k many P G z f m e wh wb x zz :=
  ⟨fun j hj => (h.1 j hj).gr hP g (fun r z => hr r (by revert z; revert r; decide)), h.2.1.sn hP g.1 g.2.1 (hr 35 (by decide)), ⟨g.1 _ h.2.2.1.1, h.2.2.1.2.1.sn g.2.1 h.2.2.1.1, h.2.2.1.2.2.sn hP.2.2.2 g.2.1 h.2.2.1.1⟩, ⟨hi.1.trans h.2.2.2.1.1, hi.2.trans h.2.2.2.1.2⟩, fun j hj => by rw [hr 43 (by decide)]; exact h.2.2.2.2 j hj⟩
theorem BK.qw {np k many x zz : Nat} {P G z f m e wh wb : Nat → Nat} (h : BK κ t0 α nv np nq k many P G z f m e wh wb x zz) (hP : PO (· < κ) 32000 Lc Lr t0 α) (g : QW (· < κ) 32000 Lc Lr w t0 α nv U t1 nv1 β) : BK κ t1 β nv1 np nq k many P G z f m e wh wb x zz := h.gr hP g.gr (fun r hr => g.2.1.arr (by revert hr; revert r; decide)) ⟨g.2.1.int (by decide), g.2.1.int (by decide)⟩
theorem BC.gr {np cv c : Nat} {P : Nat → Nat} (h : BC κ t0 α nv np cv c P) (hP : PO (· < κ) 32000 Lc Lr t0 α) (g : GR (· < κ) 32000 t0 α nv (· < κ) t1 nv1 β) : BC κ t1 β nv1 np cv c P := ⟨⟨h.1.1.gr hP g, by rw [g.2.1 c h.1.1.1 3 (by decide) (by decide)]; exact h.1.2⟩, h.2.gr hP g⟩
theorem BK.fm {np k many x zz cv c : Nat} {P G M z f m e wh wb : Nat → Nat} (h : BK κ t0 α nv np nq k many P G z f m e wh wb x zz) (hp : PF (· < κ) 32000 t0 α nv nq P) (hM : MF (· < κ) 32000 t0 α nv cv np many P M) (hc : BC κ t0 α nv np cv c P) : FM (· < κ) 32000 t0 α nv np nq k many cv c P G M z f m e := ⟨h.1, hp, hM, hc.1, hc.2⟩
def RL2 (np cv many q xv : Nat) (P M : Nat → Nat) (i : Nat) : Nat := if i < np then P i else if i = np then cv else if i < np + 1 + many then M (i - (np + 1)) else if i < np + 1 + many + q then P (np + (i - (np + 1 + many))) else xv
/-- the type of the recursor -/
theorem ma_237 {κ0 np q' k many cv c xn xv zz x : Nat} {P G M z f m e wh wb : Nat → Nat} (hN : 400000 < N) (hnq : np + q' = nq) (hq9 : nq ≤ 199) (hkm : k + 1 + many ≤ 300) (hkr : Lr k) (hU6 : U + smf (fun j => smf (fun i => hzf (z (f j + i))) (m j)) many ≤ 6000) (hκ : κ0 ≤ κ) (hz : κ ≤ zz) (hz3 : zz ≤ 30000) : ∀ (d i nn : Nat) (α : mS), i + d = q' → d < nn → MV (· < κ) 32000 Lc Lr U t0 α w nv → BK κ t0 α nv np nq k many P G z f m e wh wb x zz → PF (· < κ) 32000 t0 α nv nq P → MF (· < κ) 32000 t0 α nv cv np many P M → BC κ t0 α nv np cv c P → TM (· < κ) 32000 t0 α 0 1 (fun v => v = xv) xn → α.2 3 xn = nI xv → VT (· < κ) 32000 t0 α nv 1000000 797 (ml P 0 nq) xv → LL α (np + 1 + many + i) (RL2 np cv many q' xv P M) → rV (f_Mod_made_237 N nn (nI i) (nI xn) (nI c) (nI k) (nI np) (nI q') (nI many) (nI x) α) (MP κ0 Lc Lr k many α) (XD k κ0 α)
  | 0, i, nn, α, hd, hm, h, hb, hp, hM, hc, hx, hx3, hxT, hl => by
    obtain ⟨nn, rfl⟩ : ∃ n', nn = n' + 1 := ⟨nn - 1, by omega⟩
    have ei : i = q' := by omega
    subst ei
    have hn := nrmk (show κ ≤ 32000 by omega)
    have hW := h.1.2.2.2
    have l1 : ∀ l, l < np → RL2 np cv many i xv P M l = P l := fun l hl => by unfold RL2; rw [if_pos hl]
    have l2 : RL2 np cv many i xv P M np = cv := by unfold RL2; rw [if_neg (by omega), if_pos rfl]
    have l3 : ∀ l, l < many → RL2 np cv many i xv P M (np + 1 + l) = M l := fun l hl => by
      unfold RL2; rw [if_neg (by omega), if_neg (by omega), if_pos (by omega), show np + 1 + l - (np + 1) = l by omega]
    have l4 : ∀ l, l < i → RL2 np cv many i xv P M (np + 1 + many + l) = P (np + l) := fun l hl => by
      unfold RL2; rw [if_neg (by omega), if_neg (by omega), if_neg (by omega), if_pos (by omega), show np + 1 + many + l - (np + 1 + many) = l by omega]
    have l5 : RL2 np cv many i xv P M (np + 1 + many + i) = xv := by
      unfold RL2; rw [if_neg (by omega), if_neg (by omega), if_neg (by omega), if_neg (by omega)]
    obtain ⟨γ, eγ, p1, p2, p3, p4, p5⟩ := push_q (X := α.2 3 xn) h hl.1 (by omega)
    rw [f_Mod_made_237, if_pos (nI_le (Nat.le_refl _) (by omega)), hW.cl hx.1]
    refine rV.ix (hW.ix hx.1) (rV.ix p1 ?_)
    show rV (mBi (f_Mod_of N (nI c) (nI np) (nI i) (mSA (mSi α 30 (α.1 30 + 1)) 41 (upd ((mSi α 30 (α.1 30 + 1)).2 41) (α.1 30).toNatClampNeg (α.2 3 xn)))) _) _ _
    rw [eγ]
    have hl1 : LL γ (np + 1 + many + i + 1) (RL2 np cv many i xv P M) := hl.push p4 p5 (by rw [l5]; exact hx3)
    have inP : ∀ l, l < nq → ∃ j, j < np + 1 + many + l + 1 ∧ j < np + 1 + many + i + 1 ∧ RL2 np cv many i xv P M j = P l := fun l hl' => by
      rcases Nat.lt_or_ge l np with y | y
      · exact ⟨l, by omega, by omega, l1 l y⟩
      · exact ⟨np + 1 + many + (l - np), by omega, by omega, by rw [l4 _ (by omega), show np + (l - np) = l by omega]⟩
    have hpγ := hp.qw h.1 p3
    refine (of_ok (f := np) (P := P) (D := 2) (q := 0) (S := fun v => ∃ j, j < np + 1 + many + i + 1 ∧ RL2 np cv many i xv P M j = v) hN hn (by decide) (by omega) p3.mv (fun l hl' => ?_) ((hc.1.1.qw h.1 p3).su (Nat.le_refl _) (by decide) (fun v y => ⟨np, by omega, by rw [l2, y]⟩))).bv (fun v δ g => ?_) (fun δ g => (XD.qw p3 hκ).tr (XD.xv g hκ))
    · obtain ⟨y1, y2⟩ := hpγ (np + l) (by omega)
      obtain ⟨j, -, y3, y4⟩ := inP (np + l) (by omega)
      exact ⟨y1, y2.1.2, j, y3, y4⟩
    obtain ⟨r1, t1, rfl, g1, g2⟩ := g
    have q1 := p3.tr g1.1
    refine (appl_v (q := 4000) (D := 797) hn g1.mv g2 ((hx.qw h.1 q1).su (Nat.le_refl _) (Nat.le_refl _) (fun v y => ⟨np + 1 + many + i, by omega, by rw [l5, y]⟩)) (by omega) (by omega)).bv (fun v ε u => ?_) (fun δ g => (XD.qw q1 hκ).tr (XD.xv g hκ))
    obtain ⟨r2, t2, rfl, u1, u2⟩ := u
    have q2 := q1.tr u1.1
    have hl2 : LL ε (np + 1 + many + i + 1) (RL2 np cv many i xv P M) := (hl1.ls g1.2).ls u1.2
    have hp2 := hp.qw h.1 q2
    have hM2 := hM.qw h.1 q2
    have hc2 := hc.gr h.1 q2.gr
    refine (chain_ok' (ℓ := np + 1 + many + i + 1) (k := 6) (f := 0) (D := 797) (q := 4000) (L := RL2 np cv many i xv P M) (Si := fun i' v => ∃ j, j < i' ∧ RL2 np cv many i xv P M j = v) (S := fun _ => False) hN hn (Or.inl rfl) (by decide) (by decide) (by decide) (by omega) (Nat.zero_le _) (fun l _ l2 v y => ?_) (fun v y => ?_) u1.mv hl2.1 (fun l _ l2 => hl2.2 l l2) (fun l _ i9 => ?_) u2).bv (fun v ζ y => ?_) (fun δ g => (XD.qw q2 hκ).tr (XD.xv g hκ))
    · obtain ⟨j, y1, y2⟩ := y
      exact Or.inr ⟨j, Nat.zero_le _, y1, y2⟩
    · obtain ⟨j, y1, y2⟩ := y
      exact Or.inr ⟨j, Nat.zero_le _, y1, y2⟩
    · by_cases i1 : l < np
      · rw [l1 l i1]
        exact ⟨_, (hp2 l (by omega)).2.su (Nat.le_refl _) (by decide) (fun v y => by obtain ⟨l', y1, y2, y3⟩ := y; exact ⟨l', y2, by rw [l1 l' (by omega)]; exact y3⟩)⟩
      by_cases i2 : l = np
      · rw [i2, l2]
        exact ⟨_, hc2.2.su (Nat.le_refl _) (Nat.le_refl _) (fun v y => by obtain ⟨l, y1, y2, y3⟩ := y; exact ⟨l, by omega, by rw [l1 l y2]; exact y3⟩)⟩
      by_cases i3 : l < np + 1 + many
      · have ei : l = np + 1 + (l - (np + 1)) := by omega
        have i4 : l - (np + 1) < many := by omega
        have := (hM2 _ i4).2
        rw [← l3 _ i4, ← ei] at this
        refine ⟨_, this.su (Nat.le_refl _) (Nat.le_refl _) (fun v y => ?_)⟩
        rcases y with y | ⟨l, y1, y2, y3⟩
        · exact ⟨np, by omega, by rw [l2, y]⟩
        · exact ⟨l, by omega, by rw [l1 l y2]; exact y3⟩
      by_cases i5 : l < np + 1 + many + i
      · have ei : l = np + 1 + many + (l - (np + 1 + many)) := by omega
        have i4 : l - (np + 1 + many) < i := by omega
        have := (hp2 (np + (l - (np + 1 + many))) (by omega)).2
        rw [← l4 _ i4, ← ei] at this
        refine ⟨_, this.su (Nat.le_refl _) (by decide) (fun v y => ?_)⟩
        obtain ⟨l', y1, y2, y3⟩ := y
        obtain ⟨j, y4, y5, y6⟩ := inP l' (by omega)
        rcases Nat.lt_or_ge l' np with y | y
        · exact ⟨l', by omega, by rw [l1 l' y]; exact y3⟩
        · exact ⟨np + 1 + many + (l' - np), by omega, by rw [l4 _ (by omega), show np + (l' - np) = l' by omega]; exact y3⟩
      · have ei : l = np + 1 + many + i := by omega
        rw [ei, l5]
        refine ⟨_, (hxT.qw h.1 q2).su (Nat.le_refl _) (Nat.le_refl _) (fun v y => ?_)⟩
        obtain ⟨l', y1, y2, y3⟩ := y
        rcases Nat.lt_or_ge l' np with y | y
        · exact ⟨l', by omega, by rw [l1 l' y]; exact y3⟩
        · exact ⟨np + 1 + many + (l' - np), by omega, by rw [l4 _ (by omega), show np + (l' - np) = l' by omega]; exact y3⟩
    obtain ⟨r3, t3, rfl, y1, y2, -⟩ := y
    have q3 := q2.tr y1
    refine (fits_ok y1.mv.1 y2.1).bv (fun v η o => ?_) (fun δ g => (XD.qw q3 hκ).tr (XD.of g (by decide) (fun r _ _ z => by cases z) (sN.ch g (fun r _ _ z => by cases z))))
    obtain ⟨rfl, rfl, o1⟩ := o
    have hW3 := y1.mv.1.2.2.2
    have hb3 := hb.qw h.1 q3
    obtain ⟨vx, fx, cx⟩ := hb3.2.2.1
    obtain ⟨-, -, ⟨bx, -⟩, -⟩ := hW3 _ vx
    obtain ⟨-, -, ⟨br, -⟩, -⟩ := hW3 _ y2.1
    rw [hW3.cl vx, hW3.cl y2.1, bx, br, nI_add]
    refine rV.ix (hW3.ix vx) (rV.ix (hW3.ix y2.1) ?_)
    refine (ma_346 (κ0 := κ0) hN hnq hq9 hkm hkr hU6 hκ hz hz3 y1.mv hb3.2.2.2.1.1 hb3.2.2.2.1.2 (hb3.fm (hp.qw h.1 q3) (hM.qw h.1 q3) (hc.gr h.1 q3.gr)) hb3.2.1 ⟨vx, fx, cx⟩ ⟨y2.1, o1, y2.2.2.2⟩ many 0 N (by omega) (by omega) (Nat.le_refl _)).mono (fun β y => ?_) (fun β y => (XD.qw q3 hκ).tr y)
    obtain ⟨κ', zz', t, y1, y2, y3, y4, y5, y6, y7, y8, y9, y10, y11⟩ := y
    exact ⟨κ', zz', t, y1, y2, y3, y4, y5, y6, y7, y8, y9, (q3.2.1.mo (by decide) (by decide)).tr y10, (XD.qw q3 hκ).tr y11⟩
  | d + 1, i, nn, α, hd, hm, h, hb, hp, hM, hc, hx, hx3, hxT, hl => by
    obtain ⟨nn, rfl⟩ : ∃ n', nn = n' + 1 := ⟨nn - 1, by omega⟩
    obtain ⟨γ, eγ, p1, p2, p3, p4, p5⟩ := push_q (X := α.2 33 (np + i)) h hl.1 (by omega)
    rw [f_Mod_made_237, if_neg (nI_ge (by omega) (by omega)), nI_add, nI_clamp (show np + i < 2 ^ 31 by omega)]
    refine rV.ix (mix' (show np + i < 5000 by omega) (by decide)) (rV.ix p1 ?_)
    show rV (f_Mod_made_237 N nn (nI i + 1) (nI xn) (nI c) (nI k) (nI np) (nI q') (nI many) (nI x) (mSA (mSi α 30 (α.1 30 + 1)) 41 (upd ((mSi α 30 (α.1 30 + 1)).2 41) (α.1 30).toNatClampNeg (α.2 33 (np + i))))) _ _
    rw [eγ, nI_1]
    refine (ma_237 hN hnq hq9 hkm hkr hU6 hκ hz hz3 d (i + 1) nn γ (by omega) (by omega) p3.mv (hb.qw h.1 p3) (hp.qw h.1 p3) (hM.qw h.1 p3) (hc.gr h.1 p3.gr) (hx.qw h.1 p3) (by rw [p2.arr (by decide)]; exact hx3) (hxT.qw h.1 p3) (hl.push p4 p5 ?_)).mono (fun β y => ?_) (fun β y => (XD.qw p3 hκ).tr y)
    · rw [(hp (np + i) (by omega)).1]
      unfold RL2
      rw [if_neg (by omega), if_neg (by omega), if_neg (by omega), if_pos (by omega), show np + 1 + many + i - (np + 1 + many) = i by omega]
    · obtain ⟨κ', zz', t, y1, y2, y3, y4, y5, y6, y7, y8, y9, y10, y11⟩ := y
      exact ⟨κ', zz', t, y1, y2, y3, y4, y5, y6, y7, y8, y9, (p2.mo (by decide) (by decide)).tr y10, (XD.qw p3 hκ).tr y11⟩
theorem MP.tr {κ0 k many : Nat} {I R : List Nat} (hc : mch I R α β) (hI : ∀ i, i ∈ I → i ∈ zI) (hR : ∀ r, r ∈ R → r ∈ zR) (hx : XD k κ0 α β) {γ : mS} (y : MP κ0 Lc Lr k many β γ) : MP κ0 Lc Lr k many α γ := by
  obtain ⟨κ', zz', t, y1, y2, y3, y4, y5, y6, y7, y8, y9, y10, y11⟩ := y
  exact ⟨κ', zz', t, y1, y2, y3, y4, y5, y6, y7, y8, y9, (hc.mo hI hR).tr y10, hx.tr y11⟩
/-- the minor premises -/
theorem ma_160 {κ0 np q' k many cv c sf U1 zz x : Nat} {P G z f m e wh wb : Nat → Nat} (hN : 400000 < N) (hnq : np + q' = nq) (hq9 : nq ≤ 199) (hkm : k + 1 + many ≤ 300) (hLc : Lc = k + 1 + many) (hkr : Lr k) (hU6 : U1 + smf (fun j => smf (fun i => hzf (z (f j + i)) + 1) (m j) + 1) many + 1 + smf (fun j => smf (fun i => hzf (z (f j + i))) (m j)) many ≤ 6000) (hκ : κ0 ≤ κ) (hz : κ ≤ zz) (hz3 : zz ≤ 30000) : ∀ (d j nn t0 w nv : Nat) (M : Nat → Nat) (α : mS), j + d = many → d < nn → MV (· < κ) 32000 Lc Lr (U1 + smf (fun j => smf (fun i => hzf (z (f j + i)) + 1) (m j) + 1) j) t0 α w nv → BK κ t0 α nv np nq k many P G z f m e wh wb x zz → PF (· < κ) 32000 t0 α nv nq P → MF (· < κ) 32000 t0 α nv cv np j P M → BC κ t0 α nv np cv c P → TM (· < κ) 32000 t0 α 4000 797 (ml P 0 nq) sf → rV (f_Mod_made_160 N nn (nI j) (nI c) (nI sf) (nI k) (nI np) (nI q') (nI many) (nI x) α) (MP κ0 Lc Lr k many α) (XD k κ0 α)
  | 0, j, nn, t0, w, nv, M, α, hd, hm, h, hb, hp, hM, hc, hs => by
    obtain ⟨nn, rfl⟩ : ∃ n', nn = n' + 1 := ⟨nn - 1, by omega⟩
    have ej : j = many := by omega
    subst ej
    have hn := nrmk (show κ ≤ 32000 by omega)
    rw [f_Mod_made_160, if_pos (nI_le (Nat.le_refl _) (by omega))]
    refine (fresh_v hn h (by omega)).bv (fun v β g => ?_) (fun β g => XD.xv g hκ)
    obtain ⟨r, t1, rfl, g1, ⟨g2, g3⟩, g4, g5, g6⟩ := g
    have hp1 := hp.qw h.1 g1.1
    have hM1 := hM.qw h.1 g1.1
    have hc1 := hc.gr h.1 g1.1.gr
    have l1 : ∀ l, l < np → RL2 np cv j q' nv P M l = P l := fun l hl => by unfold RL2; rw [if_pos hl]
    have l2 : RL2 np cv j q' nv P M np = cv := by unfold RL2; rw [if_neg (by omega), if_pos rfl]
    have l3 : ∀ l, l < j → RL2 np cv j q' nv P M (np + 1 + l) = M l := fun l hl => by
      unfold RL2; rw [if_neg (by omega), if_neg (by omega), if_pos (by omega), show np + 1 + l - (np + 1) = l by omega]
    obtain ⟨γ, e1, b1, b2, b3⟩ := heads_m (N := N) (np := np) (many := j) (P := P) (M := M) hN (by omega) (by omega) l1 l2 l3 g1.mv (fun i hi => (hp1 i (by omega)).1) hc1.1.1.1 hc1.1.2 (fun j hj => (hM1 j hj).1)
    rw [e1]
    have q2 := g1.1.tr b1
    have vt : VT (· < κ) 32000 t1 β (nv + 1) 1000000 797 (ml P 0 nq) nv := ⟨⟨by omega, g4⟩, sf, g5, hs.qw h.1 g1.1, (g1.mv.1.2.2.2 _ (hs.qw h.1 g1.1).1).2.2.1.2.2⟩
    show rV (f_Mod_made_237 N N (nI 0) (nI r) (nI c) (nI k) (nI np) (nI q') (nI j) (nI x) γ) _ _
    exact (ma_237 (κ0 := κ0) hN hnq hq9 hkm hkr (by omega) hκ hz hz3 q' 0 N γ (by omega) (by omega) b1.mv (hb.qw h.1 q2) (hp.qw h.1 q2) (hM.qw h.1 q2) (hc.gr h.1 q2.gr) (g6.qw g1.mv.1 b1) (by rw [b2.arr (by decide)]; exact g3) (vt.qw g1.mv.1 b1) b3).mono (fun δ y => MP.tr q2.2.1 (by decide) (by decide) (XD.qw q2 hκ) y) (fun δ y => (XD.qw q2 hκ).tr y)
  | d + 1, j, nn, t0, w, nv, M, α, hd, hm, h, hb, hp, hM, hc, hs => by
    obtain ⟨nn, rfl⟩ : ∃ n', nn = n' + 1 := ⟨nn - 1, by omega⟩
    have hn := nrmk (show κ ≤ 32000 by omega)
    obtain ⟨oc, oc1, oc2⟩ := hb.2.2.2.2 j (by omega)
    have sstep : smf (fun j => smf (fun i => hzf (z (f j + i)) + 1) (m j) + 1) (j + 1) = smf (fun j => smf (fun i => hzf (z (f j + i)) + 1) (m j) + 1) j + (smf (fun i => hzf (z (f j + i)) + 1) (m j) + 1) := rfl
    have smono : smf (fun j => smf (fun i => hzf (z (f j + i)) + 1) (m j) + 1) (j + 1) ≤ smf (fun j => smf (fun i => hzf (z (f j + i)) + 1) (m j) + 1) many := smf_le (by omega)
    rw [f_Mod_made_160, if_neg (nI_ge (by omega) (by omega)), nI_clamp (show j < 2 ^ 31 by omega), oc1]
    refine rV.ix (mix' (show j < 301 by omega) (by decide)) ((costs_ok h.2.1.1 h.2.1.2 oc2).bv (fun β g => ?_) (fun β g => XD.of g (by decide) (fun r _ _ z => by cases z) (sN.ch g (fun r _ _ z => by cases z))))
    obtain ⟨eβ, w6⟩ := g
    have c1 : mch [22] [] α β := by rw [eβ]; exact mch.si (by decide)
    have s1 : ∀ V : Nat → Prop, sN V α β := fun V => sN.ch c1 (fun r _ _ z => by cases z)
    have M1 : MV (· < κ) 32000 Lc Lr (U1 + smf (fun j => smf (fun i => hzf (z (f j + i)) + 1) (m j) + 1) j) t0 β (w + oc) nv := ⟨h.1.sn c1 (by decide) (s1 _), ⟨by rw [eβ]; rfl, w6⟩, (c1.int (by decide)).trans h.2.2.1, by have := h.2.2.2; omega⟩
    have gg : GR (· < κ) 32000 t0 α nv (· < κ) t0 nv β := ⟨fun _ z => z, s1 _, Nat.le_refl _, fun i _ => by rw [c1.arr (fun z => by cases z)]⟩
    have x1 : XD k κ0 α β := XD.of c1 (by decide) (fun r _ _ z => by cases z) (s1 _)
    have aa : ∀ r, β.2 r = α.2 r := fun r => c1.arr (fun z => by cases z)
    have hb1 := hb.gr h.1 gg (fun r _ => aa r) ⟨c1.int (by decide), c1.int (by decide)⟩
    have hp1 : PF (· < κ) 32000 t0 β nv nq P := fun i hi => ⟨by rw [aa]; exact (hp i hi).1, (hp i hi).2.gr h.1 gg⟩
    have hM1 : MF (· < κ) 32000 t0 β nv cv np j P M := fun i hi => ⟨by rw [aa]; exact (hM i hi).1, (hM i hi).2.gr h.1 gg⟩
    have hc1 := hc.gr h.1 gg
    refine (minor_m (cv := cv) (P := P) (G := G) (z := z) hN hn hnq hq9 (show j < 301 by omega) (show k + 1 + j < Lc by omega) (by omega) (by omega) M1 (hb1.1 j (by omega)) hp1 hc1.1.1).bv (fun v γ g => ?_) (fun γ g => x1.tr (XD.xv g hκ))
    obtain ⟨r, t1, nv1, rfl, g1, g2⟩ := g
    refine (fresh_v hn g1.mv (by omega)).bv (fun v δ u => ?_) (fun γ g => (x1.tr (XD.qw g1 hκ)).tr (XD.xv g hκ))
    obtain ⟨r2, t2, rfl, u1, ⟨u2, u3⟩, u4, u5, u6⟩ := u
    have q2 := g1.tr u1.1
    have hW := u1.mv.1.2.2.2
    rw [hW.cl u6.1]
    refine rV.ix (hW.ix u6.1) (rV.ix (mix' (show j < 301 by omega) (by decide)) ?_)
    obtain ⟨ε, eε⟩ : ∃ ε, ε = mSA δ 42 (upd (δ.2 42) j (δ.2 3 r2)) := ⟨_, rfl⟩
    rw [← eε, nI_1]
    have c2 : mch [] [42] δ ε := by rw [eε]; exact mch.sA (by decide)
    have s2 : ∀ V : Nat → Prop, sN V δ ε := fun V => sN.ch c2 (fun r a b z => by have := List.mem_singleton.mp z; omega)
    have e42 : ε.2 42 = upd (δ.2 42) j (nI nv1) := by rw [eε, u3]; rfl
    have g3 : GR (· < κ) 32000 t0 β nv (· < κ) t2 (nv1 + 1) ε := ⟨q2.gr.1, q2.gr.2.1.tr (s2 _), q2.gr.2.2.1, fun i hi => by rw [c2.arr (by decide)]; exact q2.gr.2.2.2 i hi⟩
    have cA : mch [10, 11, 12, 13, 14, 23, 30, 31] [2, 3, 4, 5, 6, 7, 8, 32, 41, 42] β ε := (q2.2.1.mo (fun _ z => z) (by decide)).tr (c2.mo (fun _ z => by cases z) (by decide))
    have x2 : XD k κ0 β ε := (XD.qw q2 hκ).tr (XD.of c2 (fun i _ z => by cases z) (r1024 (by decide)) (s2 _))
    have M2 : MV (· < κ) 32000 Lc Lr (U1 + smf (fun j => smf (fun i => hzf (z (f j + i)) + 1) (m j) + 1) (j + 1)) t2 ε (w + oc) (nv1 + 1) := ⟨u1.mv.1.sn c2 (fun z => by cases z) (s2 _), ⟨(c2.int (fun z => by cases z)).trans u1.mv.2.1.1, u1.mv.2.1.2⟩, (c2.int (fun z => by cases z)).trans u1.mv.2.2.1, by have := u1.mv.2.2.2; omega⟩
    have vt : VT (· < κ) 32000 t2 ε (nv1 + 1) 1000000 797 (fun v => v = cv ∨ ml P 0 np v) nv1 := ⟨⟨by omega, u4⟩, r, by rw [c2.arr (by decide)]; exact u5, (g2.qw g1.mv.1 u1.1).su (Nat.le_refl _) (Nat.le_refl _) (fun _ z => z) |>.gr u1.mv.1 (nv := nv1 + 1) (nv1 := nv1 + 1) ⟨fun _ z => z, s2 _, Nat.le_refl _, fun i _ => by rw [c2.arr (by decide)]⟩, (M2.1.2.2.2 _ (g2.1.up u1.1.1)).2.2.1.2.2⟩
    have cB : mch [10, 11, 12, 13, 14, 22, 23, 30, 31] [2, 3, 4, 5, 6, 7, 8, 32, 41, 42] α ε := (c1.mo (by decide) (fun r z => by cases z)).tr (cA.mo (by decide) (fun _ z => z))
    refine (ma_160 hN hnq hq9 hkm hLc hkr hU6 hκ hz hz3 d (j + 1) nn t2 (w + oc) (nv1 + 1) (fun i => if i < j then M i else nv1) ε (by omega) (by omega) M2 (hb1.gr M1.1 g3 (fun r hr => cA.arr (by revert hr; revert r; decide)) ⟨cA.int (by decide), cA.int (by decide)⟩) (fun i hi => ⟨by rw [cA.arr (by decide)]; exact (hp1 i hi).1, (hp1 i hi).2.gr M1.1 g3⟩) (fun i hi => ?_) (hc1.gr M1.1 g3) ((hs.gr h.1 gg).gr M1.1 g3)).mono (fun ζ y => MP.tr cB (by decide) (by decide) (x1.tr x2) y) (fun ζ y => (x1.tr x2).tr y)
    show ε.2 42 i = nI (if i < j then M i else nv1) ∧ VT (· < κ) 32000 t2 ε (nv1 + 1) 1000000 797 _ (if i < j then M i else nv1)
    rcases Nat.lt_or_ge i j with y | y
    · rw [if_pos y]
      exact ⟨by rw [e42, upd_ne (by omega), q2.2.1.arr (by decide)]; exact (hM1 i y).1, (hM1 i y).2.gr M1.1 g3⟩
    · have ei : i = j := by omega
      rw [if_neg (by omega), ei, e42, upd_at]
      exact ⟨rfl, vt⟩
/-- the motive -/
theorem ma_92 {κ0 np q' k many sf U1 zz x : Nat} {P G z f m e wh wb : Nat → Nat} (hN : 400000 < N) (hnq : np + q' = nq) (hq9 : nq ≤ 199) (hkm : k + 1 + many ≤ 300) (hLc : Lc = k + 1 + many) (hkr : Lr k) (hU6 : U1 + 1 + smf (fun j => smf (fun i => hzf (z (f j + i)) + 1) (m j) + 1) many + 1 + smf (fun j => smf (fun i => hzf (z (f j + i))) (m j)) many ≤ 6000) (hκ : κ0 ≤ κ) (hz : κ ≤ zz) (hz3 : zz ≤ 30000) : ∀ (d i nn : Nat) (α : mS), i + d = q' → d < nn → MV (· < κ) 32000 Lc Lr U1 t0 α w nv → BK κ t0 α nv np nq k many P G z f m e wh wb x zz → PF (· < κ) 32000 t0 α nv nq P → TM (· < κ) 32000 t0 α nq 2 (ml P 0 nq) sf → LL α i (fun i => P (np + i)) → rV (f_Mod_made_92 N nn (nI i) (nI sf) (nI k) (nI np) (nI q') (nI many) (nI x) α) (MP κ0 Lc Lr k many α) (XD k κ0 α)
  | 0, i, nn, α, hd, hm, h, hb, hp, hs, hl => by
    obtain ⟨nn, rfl⟩ : ∃ n', nn = n' + 1 := ⟨nn - 1, by omega⟩
    have ei : i = q' := by omega
    subst ei
    have hn := nrmk (show κ ≤ 32000 by omega)
    rw [f_Mod_made_92, if_pos (nI_le (Nat.le_refl _) (by omega))]
    unfold f_Mod_sort
    refine ((leaf_v (k := 0) (S := ml P 0 nq) hn h (by decide) (fun z => absurd z (by decide)) (fun z => absurd z (by decide)) (fun z => absurd z (by decide)) (by decide)).end).bv (fun v β g => ?_) (fun β g => XD.xv g hκ)
    obtain ⟨r, t1, rfl, g1, -, g2⟩ := g
    refine (bnd_v (k := 6) (q := 4000) (D := 199) hn g1.mv (Or.inl rfl) ((hs.qw h.1 g1.1).su (by omega) (by decide) (fun _ z => z)) (g2.su (by decide) (by decide) (fun _ z => z))).bv (fun v γ u => ?_) (fun β g => (XD.qw g1.1 hκ).tr (XD.xv g hκ))
    obtain ⟨r2, t2, rfl, u1, u2, -⟩ := u
    have q2 := g1.tr u1
    have hl2 := hl.ls q2.2
    have hp2 := hp.qw h.1 q2.1
    have gj : ∀ b v, ml P 0 (np + b) v → b ≤ i → ml P 0 np v ∨ ∃ j, 0 ≤ j ∧ j < b ∧ P (np + j) = v := fun b v y _ => by
      obtain ⟨l, l1, l2, l3⟩ := y
      rcases Nat.lt_or_ge l np with y | y
      · exact Or.inl ⟨l, l1, y, l3⟩
      · exact Or.inr ⟨l - np, Nat.zero_le _, by omega, by rw [show np + (l - np) = l by omega]; exact l3⟩
    refine (chain_ok' (ℓ := i) (k := 6) (f := 0) (D := 200) (q := 4000) (L := fun l => P (np + l)) (Si := fun l => ml P 0 (np + l)) (S := ml P 0 np) hN hn (Or.inl rfl) (by decide) (by decide) (by decide) (by omega) (Nat.zero_le _) (fun l _ l2 v y => gj l v y (by omega)) (fun v y => gj i v (by rw [hnq]; exact y) (Nat.le_refl _)) u1.mv hl2.1 (fun l _ l2 => hl2.2 l l2) (fun l _ l2 => ⟨_, (hp2 (np + l) (by omega)).2⟩) u2).bv (fun v δ y => ?_) (fun β g => (XD.qw q2.1 hκ).tr (XD.xv g hκ))
    obtain ⟨r3, t3, rfl, y1, y2, -⟩ := y
    have q3 := q2.1.tr y1
    refine (fresh_v hn y1.mv (by omega)).bv (fun v ε o => ?_) (fun β g => (XD.qw q3 hκ).tr (XD.xv g hκ))
    obtain ⟨r4, t4, rfl, o1, ⟨o2, o3⟩, o4, o5, o6⟩ := o
    have q4 := q3.tr o1.1
    have vt : VT (· < κ) 32000 t4 ε (nv + 1) 1000000 797 (ml P 0 np) nv := ⟨⟨by omega, o4⟩, r3, o5, (y2.qw y1.mv.1 o1.1).su (Nat.le_refl _) (by omega) (fun _ z => z), (o1.mv.1.2.2.2 _ (y2.1.up o1.1.1)).2.2.1.2.2⟩
    exact (ma_160 (κ0 := κ0) (cv := nv) (U1 := U1 + 1) hN hnq hq9 hkm hLc hkr hU6 hκ hz hz3 many 0 N t4 w (nv + 1) (fun _ => 0) ε (by omega) (by omega) o1.mv (hb.qw h.1 q4) (hp.qw h.1 q4) (fun i hi => by omega) ⟨⟨o6, o3⟩, vt⟩ ((hs.qw h.1 q4).su (by omega) (by decide) (fun _ z => z))).mono (fun ζ y => MP.tr q4.2.1 (by decide) (by decide) (XD.qw q4 hκ) y) (fun ζ y => (XD.qw q4 hκ).tr y)
  | d + 1, i, nn, α, hd, hm, h, hb, hp, hs, hl => by
    obtain ⟨nn, rfl⟩ : ∃ n', nn = n' + 1 := ⟨nn - 1, by omega⟩
    obtain ⟨γ, eγ, p1, p2, p3, p4, p5⟩ := push_q (X := α.2 33 (np + i)) h hl.1 (by omega)
    rw [f_Mod_made_92, if_neg (nI_ge (by omega) (by omega)), nI_add, nI_clamp (show np + i < 2 ^ 31 by omega)]
    refine rV.ix (mix' (show np + i < 5000 by omega) (by decide)) (rV.ix p1 ?_)
    show rV (f_Mod_made_92 N nn (nI i + 1) (nI sf) (nI k) (nI np) (nI q') (nI many) (nI x) (mSA (mSi α 30 (α.1 30 + 1)) 41 (upd ((mSi α 30 (α.1 30 + 1)).2 41) (α.1 30).toNatClampNeg (α.2 33 (np + i))))) _ _
    rw [eγ, nI_1]
    exact (ma_92 hN hnq hq9 hkm hLc hkr hU6 hκ hz hz3 d (i + 1) nn γ (by omega) (by omega) p3.mv (hb.qw h.1 p3) (hp.qw h.1 p3) (hs.qw h.1 p3) (hl.push p4 p5 (hp (np + i) (by omega)).1)).mono (fun ζ y => MP.tr p3.2.1 (by decide) (by decide) (XD.qw p3 hκ) y) (fun ζ y => (XD.qw p3 hκ).tr y)
/-- the VARIABLES of the indices -/
theorem ma_6 {κ0 np q' k many U1 nv0 zz x : Nat} {P G z f m e wh wb : Nat → Nat} (hN : 400000 < N) (hnq : np + q' = nq) (hq9 : nq ≤ 199) (hkm : k + 1 + many ≤ 300) (hLc : Lc = k + 1 + many) (hkr : Lr k) (hU6 : U1 + q' + 1 + smf (fun j => smf (fun i => hzf (z (f j + i)) + 1) (m j) + 1) many + 1 + smf (fun j => smf (fun i => hzf (z (f j + i))) (m j)) many ≤ 6000) (hκ : κ0 ≤ κ) (hz : κ ≤ zz) (hz3 : zz ≤ 30000) (hPn : ∀ i, i < q' → P (np + i) = nv0 + i) : ∀ (d i tm nn t0 : Nat) (α : mS), i + d = q' → d < nn → MV (· < κ) 32000 Lc Lr (U1 + i) t0 α w (nv0 + i) → BK κ t0 α (nv0 + i) np nq k many P G z f m e wh wb x zz → PF (· < κ) 32000 t0 α (nv0 + i) (np + i) P → vd (· < κ) 32000 t0 tm → fit α tm → PN α tm → PIc α d tm → rV (f_Mod_made_6 N nn (nI i) (nI tm) (nI k) (nI np) (nI q') (nI many) (nI x) α) (MP κ0 Lc Lr k many α) (XD k κ0 α)
  | 0, i, tm, nn, t0, α, hd, hm, h, hb, hp, vt, ft, pt, ct => by
    obtain ⟨nn, rfl⟩ : ∃ n', nn = n' + 1 := ⟨nn - 1, by omega⟩
    have ei : i = q' := by omega
    subst ei
    rw [hnq] at hp
    have hn := nrmk (show κ ≤ 32000 by omega)
    rw [f_Mod_made_6, if_pos (nI_le (Nat.le_refl _) (by omega)), nI_add, hnq]
    refine (leaf_v (k := 1) (S := ml P 0 nq) hn h (by decide) (fun _ => ⟨k, rfl, by omega, by omega⟩) (fun z => absurd z (by decide)) (fun z => absurd z (by decide)) (by decide)).bv (fun v β g => ?_) (fun β g => XD.xv g hκ)
    obtain ⟨r, t1, rfl, g1, -, g2⟩ := g
    refine (of_ok (f := 0) (P := P) (D := 2) (q := 0) (S := ml P 0 nq) hN hn (by decide) (by omega) g1.mv (fun l hl => ?_) (g2.su (Nat.le_refl _) (by decide) (fun _ z => z))).bv (fun v γ u => ?_) (fun γ g => (XD.qw g1.1 hκ).tr (XD.xv g hκ))
    · rw [Nat.zero_add, g1.1.2.1.arr (by decide)]
      obtain ⟨p1, p2⟩ := hp l hl
      exact ⟨p1, p2.1.2, l, by omega, hl, rfl⟩
    obtain ⟨r2, t2, rfl, u1, u2⟩ := u
    have q2 := g1.tr u1
    obtain ⟨ε, eε⟩ : ∃ ε, ε = mSi γ 30 0 := ⟨_, rfl⟩
    rw [← eε]
    have ce : mch [30] [] γ ε := by rw [eε]; exact mch.si (by decide)
    have se : ∀ V : Nat → Prop, sN V γ ε := fun V => sN.ch ce (fun r _ _ z => by cases z)
    have q4 : QW (· < κ) 32000 Lc Lr w t2 γ (nv0 + i) (U1 + i) t2 (nv0 + i) ε := ⟨Nat.le_refl _, ce.mo (by decide) (fun r z => by cases z), se _, ⟨u1.mv.1.sn ce (by decide) (se _), by rw [eε]; exact u1.mv.2⟩, Nat.le_refl _, fun i _ => by rw [ce.arr (fun z => by cases z)]⟩
    have q5 := q2.1.tr q4
    refine (ma_92 (κ0 := κ0) (U1 := U1 + i) hN hnq hq9 hkm hLc hkr hU6 hκ hz hz3 i 0 N ε (by omega) (by omega) q4.mv (hb.qw h.1 q5) (hp.qw h.1 q5) ((u2.qw u1.mv.1 q4).su (by omega) (Nat.le_refl _) (fun _ z => z)) ⟨by rw [eε]; rfl, fun i hi => by omega⟩).mono (fun ζ y => MP.tr q5.2.1 (by decide) (by decide) (XD.qw q5 hκ) y) (fun ζ y => (XD.qw q5 hκ).tr y)
  | d + 1, i, tm, nn, t0, α, hd, hm, h, hb, hp, vt, ft, pt, ct => by
    obtain ⟨nn, rfl⟩ : ∃ n', nn = n' + 1 := ⟨nn - 1, by omega⟩
    have hn := nrmk (show κ ≤ 32000 by omega)
    have hW := h.1.2.2.2
    have h6 : 6 ≤ uK α tm := by rw [ct.1]; decide
    have p3 := hW.p3 vt h6
    have p4 := hW.p4 vt h6
    have fp := ft.p hW vt h6
    obtain ⟨pp1, pp2, -⟩ := pt.p h6
    rw [f_Mod_made_6, if_neg (nI_ge (by omega) (by omega)), hW.cl vt, p3.1, nI_add]
    obtain ⟨d1, d2⟩ := fp.1.sp h.1 p3.2.2
    refine rV.ix (hW.ix vt) ((whole_ok hN hn (show np + i ≤ 5000 by omega) h.1 p3.2.2 d1 d2).bv (fun v β g => ?_) (fun β g => XD.xv (g.xn.xv (by decide)) hκ))
    obtain ⟨r, t1, rfl, g1, g2⟩ := g.qn
    have qv := h.qn g1 (by decide)
    have hW1 := g1.2.1.2.2.2
    have vA : vd (· < κ) 32000 t1 (uA α tm) := p3.2.2.up g1.1
    obtain ⟨z1, z2, -⟩ := g2.sz hW1 (fun t r _ _ h1 h2 => RWh.lf h1 h2) vA g1.2.2.2.2
    have fr : fit β r := by
      have := fp.1.sn g1.2.2.2.1 p3.2.2
      exact ⟨by rw [z1]; exact this.1, by rw [z2]; exact this.2⟩
    have ar : AL (ml P 0 (np + i)) β r := AL.wh hW1 vA g1.2.2.2.2 g2 (fun l hl => by
      obtain ⟨p1, p2⟩ := hp l hl
      exact ⟨P l, p1, p2.1.2, l, by omega, hl, rfl⟩) (pp1.sn hW g1.2.2.2.1 p3.2.2)
    refine (fresh_v hn qv.mv (by omega)).bv (fun v γ u => ?_) (fun γ g => (XD.qw qv.1 hκ).tr (XD.xv g hκ))
    obtain ⟨r2, t2, rfl, u1, ⟨u2, u3⟩, u4, u5, u6⟩ := u
    have q2 := qv.tr u1
    have hW2 := u1.mv.1.2.2.2
    rw [hW2.cl u6.1, nI_clamp (show np + i < 2 ^ 31 by omega)]
    refine rV.ix (hW2.ix u6.1) (rV.ix (mix' (show np + i < 5000 by omega) (by decide)) (rV.ix (hW.ix vt) ?_))
    obtain ⟨ε, eε⟩ : ∃ ε, ε = mSA γ 33 (upd (γ.2 33) (np + i) (γ.2 3 r2)) := ⟨_, rfl⟩
    rw [← eε, nI_1]
    have c2 : mch [] [33] γ ε := by rw [eε]; exact mch.sA (by decide)
    have s2 : ∀ V : Nat → Prop, sN V γ ε := fun V => sN.ch c2 (fun r a b z => by have := List.mem_singleton.mp z; omega)
    have e33 : ε.2 33 = upd (γ.2 33) (np + i) (nI (nv0 + i)) := by rw [eε, u3]; rfl
    have g3 : GR (· < κ) 32000 t0 α (nv0 + i) (· < κ) t2 (nv0 + i + 1) ε := ⟨q2.1.gr.1, q2.1.gr.2.1.tr (s2 _), q2.1.gr.2.2.1, fun l hl => by rw [c2.arr (by decide)]; exact q2.1.gr.2.2.2 l hl⟩
    have cA : mch [10, 11, 12, 13, 14, 23, 30, 31] [2, 3, 4, 5, 6, 7, 8, 32, 33, 41] α ε := (q2.1.2.1.mo (fun _ z => z) (by decide)).tr (c2.mo (fun _ z => by cases z) (by decide))
    have x2 : XD k κ0 α ε := (XD.qw q2.1 hκ).tr (XD.of c2 (fun i _ z => by cases z) (r1024 (by decide)) (s2 _))
    have M2 : MV (· < κ) 32000 Lc Lr (U1 + (i + 1)) t2 ε w (nv0 + (i + 1)) := ⟨u1.mv.1.sn c2 (fun z => by cases z) (s2 _), ⟨(c2.int (fun z => by cases z)).trans u1.mv.2.1.1, u1.mv.2.1.2⟩, (c2.int (fun z => by cases z)).trans u1.mv.2.2.1, by have := u1.mv.2.2.2; omega⟩
    rw [g3.2.1 tm vt 4 (by decide) (by decide), p4.1]
    refine (ma_6 hN hnq hq9 hkm hLc hkr hU6 hκ hz hz3 hPn d (i + 1) _ nn t2 ε (by omega) (by omega) M2 (hb.gr h.1 g3 (fun r hr => cA.arr (by revert hr; revert r; decide)) ⟨cA.int (by decide), cA.int (by decide)⟩) (fun l hl => ?_) (g3.1 _ p4.2.2) (fp.2.1.sn g3.2.1 p4.2.2) (pp2.sn hW g3.2.1 p4.2.2) (PIc.sn hW g3.2.1 p4.2.2 ct.2)).mono (fun ζ y => MP.tr cA (by decide) (by decide) x2 y) (fun ζ y => x2.tr y)
    rcases Nat.lt_or_ge l (np + i) with y | y
    · obtain ⟨p1, p2⟩ := hp l y
      exact ⟨by rw [e33, upd_ne (by omega), q2.1.2.1.arr (by decide)]; exact p1, p2.gr h.1 g3⟩
    · have el : l = np + i := by omega
      rw [el, e33, upd_at, hPn i (by omega)]
      refine ⟨rfl, ⟨by omega, u4⟩, r, by rw [c2.arr (by decide)]; exact u5, ?_, ?_⟩
      · have tr : TM (· < κ) 32000 t1 β 4000 200 (ml P 0 (np + i)) r := ⟨g1.2.2.2.2, fr.2, SP_big hW1 g1.2.2.2.2 (by have := fr.1; omega) (by decide), ar⟩
        exact (tr.qw qv.mv.1 u1.1).gr u1.mv.1 (nv := 0) (nv1 := 0) ⟨fun _ z => z, s2 _, Nat.le_refl _, fun l hl => by omega⟩
      · have s3 : sN (vd (· < κ) 32000 t1) β ε := u1.1.2.2.1.tr (s2 _)
        rw [s3.b g1.2.2.2.2]; exact fr.1
theorem made_m {κ0 np q' k many nv0 zz x tm : Nat} {P G z f m e wh wb : Nat → Nat} (hN : 400000 < N) (hnq : np + q' = nq) (hq9 : nq ≤ 199) (hkm : k + 1 + many ≤ 300) (hLc : Lc = k + 1 + many) (hkr : Lr k) (hU6 : U + q' + 1 + smf (fun j => smf (fun i => hzf (z (f j + i)) + 1) (m j) + 1) many + 1 + smf (fun j => smf (fun i => hzf (z (f j + i))) (m j)) many ≤ 6000) (hκ : κ0 ≤ κ) (hz : κ ≤ zz) (hz3 : zz ≤ 30000) (hPn : ∀ i, i < q' → P (np + i) = nv0 + i) (h : MV (· < κ) 32000 Lc Lr U t0 α w nv0) (hb : BK κ t0 α nv0 np nq k many P G z f m e wh wb x zz) (hp : PF (· < κ) 32000 t0 α nv0 np P) (vt : vd (· < κ) 32000 t0 tm) (ft : fit α tm) (pt : PN α tm) (ct : PIc α q' tm) : rV (f_Mod_made N (nI k) (nI tm) (nI np) (nI q') (nI many) (nI x) α) (MP κ0 Lc Lr k many α) (XD k κ0 α) := by
  unfold f_Mod_made
  exact ma_6 (U1 := U) hN hnq hq9 hkm hLc hkr hU6 hκ hz hz3 hPn q' 0 tm N t0 α (by omega) (by omega) h hb hp vt ft pt ct
end MADE2
