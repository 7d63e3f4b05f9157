-- made, from its beginning
/-- what is known of a family before its recursor is made -/
def BK (κ t : Nat) (α : mS) (nv np nq k many : Nat) (P G z f m e wh wb : Nat → Nat) (x zz : Nat) : Prop := (∀ j, j < many → CF (· < κ) 32000 t α nv np nq k P G z j (f j) (m j) (e j)) ∧ WF κ t α many wh wb ∧ (vd (· < κ) 32000 t x ∧ fit α x ∧ clo α x) ∧ (α.1 17 = nI κ ∧ α.1 18 = nI zz) ∧ ∀ j, j < many → ∃ oc, α.2 43 j = nI oc ∧ oc ≤ 1000000
def BC (κ t : Nat) (α : mS) (nv np cv c : Nat) (P : Nat → Nat) : Prop := (TM (· < κ) 32000 t α 0 1 (fun v => v = cv) c ∧ α.2 3 c = nI cv) ∧ VT (· < κ) 32000 t α nv 1000000 797 (ml P 0 np) cv
def PIc (α : mS) : Nat → Nat → Prop
  | 0, _ => True
  | q + 1, t => uK α t = 6 ∧ PIc α q (uC α t)
section MADE2
variable {N : Nat} {κ Lc : Nat} {Lr : Nat → Prop} {w t0 t1 nv nv1 nq U : Nat} {α β : mS}
theorem PIc.sn {V : Nat → Prop} (hW : nWf V Lc Lr α) (hs : sN V α β) : ∀ {q t : Nat}, V t → PIc α q t → PIc β q t
  | 0, _, _, _ => trivial
  | q + 1, t, ht, h => ⟨by rw [hs.k ht]; exact h.1, by rw [hs.c ht]; exact PIc.sn hW hs (hW.p4 ht (by rw [h.1]; decide)).2.2 h.2⟩
theorem BK.gr {np k many x zz : Nat} {P G z f m e wh wb : Nat → Nat} (h : BK κ t0 α nv np nq k many P G z f m e wh wb x zz) (hP : PO (· < κ) 32000 Lc Lr t0 α) (g : GR (· < κ) 32000 t0 α nv (· < κ) t1 nv1 β) (hr : ∀ r, r ∈ [18, 35, 36, 37, 38, 39, 43] → β.2 r = α.2 r) (hi : β.1 17 = α.1 17 ∧ β.1 18 = α.1 18) : BK κ t1 β nv1 np nq k many P G z f m e wh wb x zz :=
  ⟨fun j hj => (h.1 j hj).gr hP g (fun r z => hr r (by revert z; revert r; decide)), h.2.1.sn hP g.1 g.2.1 (hr 35 (by decide)), ⟨g.1 _ h.2.2.1.1, h.2.2.1.2.1.sn g.2.1 h.2.2.1.1, h.2.2.1.2.2.sn hP.2.2.2 g.2.1 h.2.2.1.1⟩, ⟨hi.1.trans h.2.2.2.1.1, hi.2.trans h.2.2.2.1.2⟩, fun j hj => by rw [hr 43 (by decide)]; exact h.2.2.2.2 j hj⟩
theorem BK.qw {np k many x zz : Nat} {P G z f m e wh wb : Nat → Nat} (h : BK κ t0 α nv np nq k many P G z f m e wh wb x zz) (hP : PO (· < κ) 32000 Lc Lr t0 α) (g : QW (· < κ) 32000 Lc Lr w t0 α nv U t1 nv1 β) : BK κ t1 β nv1 np nq k many P G z f m e wh wb x zz := h.gr hP g.gr (fun r hr => g.2.1.arr (by revert hr; revert r; decide)) ⟨g.2.1.int (by decide), g.2.1.int (by decide)⟩
theorem BC.gr {np cv c : Nat} {P : Nat → Nat} (h : BC κ t0 α nv np cv c P) (hP : PO (· < κ) 32000 Lc Lr t0 α) (g : GR (· < κ) 32000 t0 α nv (· < κ) t1 nv1 β) : BC κ t1 β nv1 np cv c P := ⟨⟨h.1.1.gr hP g, by rw [g.2.1 c h.1.1.1 3 (by decide) (by decide)]; exact h.1.2⟩, h.2.gr hP g⟩
theorem BK.fm {np k many x zz cv c : Nat} {P G M z f m e wh wb : Nat → Nat} (h : BK κ t0 α nv np nq k many P G z f m e wh wb x zz) (hp : PF (· < κ) 32000 t0 α nv nq P) (hM : MF (· < κ) 32000 t0 α nv cv np many P M) (hc : BC κ t0 α nv np cv c P) : FM (· < κ) 32000 t0 α nv np nq k many cv c P G M z f m e := ⟨h.1, hp, hM, hc.1, hc.2⟩
def RL2 (np cv many q xv : Nat) (P M : Nat → Nat) (i : Nat) : Nat := if i < np then P i else if i = np then cv else if i < np + 1 + many then M (i - (np + 1)) else if i < np + 1 + many + q then P (np + (i - (np + 1 + many))) else xv
/-- the type of the recursor -/
theorem ma_237 {κ0 np q' k many cv c xn xv zz x : Nat} {P G M z f m e wh wb : Nat → Nat} (hN : 400000 < N) (hnq : np + q' = nq) (hq9 : nq ≤ 199) (hkm : k + 1 + many ≤ 300) (hkr : Lr k) (hU6 : U + smf (fun j => smf (fun i => hzf (z (f j + i))) (m j)) many ≤ 6000) (hκ : κ0 ≤ κ) (hz : κ ≤ zz) (hz3 : zz ≤ 30000) : ∀ (d i nn : Nat) (α : mS), i + d = q' → d < nn → MV (· < κ) 32000 Lc Lr U t0 α w nv → BK κ t0 α nv np nq k many P G z f m e wh wb x zz → PF (· < κ) 32000 t0 α nv nq P → MF (· < κ) 32000 t0 α nv cv np many P M → BC κ t0 α nv np cv c P → TM (· < κ) 32000 t0 α 0 1 (fun v => v = xv) xn → α.2 3 xn = nI xv → VT (· < κ) 32000 t0 α nv 1000000 797 (ml P 0 nq) xv → LL α (np + 1 + many + i) (RL2 np cv many q' xv P M) → rV (f_Mod_made_237 N nn (nI i) (nI xn) (nI c) (nI k) (nI np) (nI q') (nI many) (nI x) α) (MP κ0 Lc Lr k many α) (XD k κ0 α)
  | 0, i, nn, α, hd, hm, h, hb, hp, hM, hc, hx, hx3, hxT, hl => by
    obtain ⟨nn, rfl⟩ : ∃ n', nn = n' + 1 := ⟨nn - 1, by omega⟩
    have ei : i = q' := by omega
    subst ei
    have hn := nrmk (show κ ≤ 32000 by omega)
    have hW := h.1.2.2.2
    have l1 : ∀ l, l < np → RL2 np cv many i xv P M l = P l := fun l hl => by unfold RL2; rw [if_pos hl]
    have l2 : RL2 np cv many i xv P M np = cv := by unfold RL2; rw [if_neg (by omega), if_pos rfl]
    have l3 : ∀ l, l < many → RL2 np cv many i xv P M (np + 1 + l) = M l := fun l hl => by
      unfold RL2; rw [if_neg (by omega), if_neg (by omega), if_pos (by omega), show np + 1 + l - (np + 1) = l by omega]
    have l4 : ∀ l, l < i → RL2 np cv many i xv P M (np + 1 + many + l) = P (np + l) := fun l hl => by
      unfold RL2; rw [if_neg (by omega), if_neg (by omega), if_neg (by omega), if_pos (by omega), show np + 1 + many + l - (np + 1 + many) = l by omega]
    have l5 : RL2 np cv many i xv P M (np + 1 + many + i) = xv := by
      unfold RL2; rw [if_neg (by omega), if_neg (by omega), if_neg (by omega), if_neg (by omega)]
    obtain ⟨γ, eγ, p1, p2, p3, p4, p5⟩ := push_q (X := α.2 3 xn) h hl.1 (by omega)
    rw [f_Mod_made_237, if_pos (nI_le (Nat.le_refl _) (by omega)), hW.cl hx.1]
    refine rV.ix (hW.ix hx.1) (rV.ix p1 ?_)
    show rV (mBi (f_Mod_of N (nI c) (nI np) (nI i) (mSA (mSi α 30 (α.1 30 + 1)) 41 (upd ((mSi α 30 (α.1 30 + 1)).2 41) (α.1 30).toNatClampNeg (α.2 3 xn)))) _) _ _
    rw [eγ]
    have hl1 : LL γ (np + 1 + many + i + 1) (RL2 np cv many i xv P M) := hl.push p4 p5 (by rw [l5]; exact hx3)
    have inP : ∀ l, l < nq → ∃ j, j < np + 1 + many + l + 1 ∧ j < np + 1 + many + i + 1 ∧ RL2 np cv many i xv P M j = P l := fun l hl' => by
      rcases Nat.lt_or_ge l np with y | y
      · exact ⟨l, by omega, by omega, l1 l y⟩
      · exact ⟨np + 1 + many + (l - np), by omega, by omega, by rw [l4 _ (by omega), show np + (l - np) = l by omega]⟩
    have hpγ := hp.qw h.1 p3
    refine (of_ok (f := np) (P := P) (D := 2) (q := 0) (S := fun v => ∃ j, j < np + 1 + many + i + 1 ∧ RL2 np cv many i xv P M j = v) hN hn (by decide) (by omega) p3.mv (fun l hl' => ?_) ((hc.1.1.qw h.1 p3).su (Nat.le_refl _) (by decide) (fun v y => ⟨np, by omega, by rw [l2, y]⟩))).bv (fun v δ g => ?_) (fun δ g => (XD.qw p3 hκ).tr (XD.xv g hκ))
    · obtain ⟨y1, y2⟩ := hpγ (np + l) (by omega)
      obtain ⟨j, -, y3, y4⟩ := inP (np + l) (by omega)
      exact ⟨y1, y2.1.2, j, y3, y4⟩
    obtain ⟨r1, t1, rfl, g1, g2⟩ := g
    have q1 := p3.tr g1.1
    refine (appl_v (q := 4000) (D := 797) hn g1.mv g2 ((hx.qw h.1 q1).su (Nat.le_refl _) (Nat.le_refl _) (fun v y => ⟨np + 1 + many + i, by omega, by rw [l5, y]⟩)) (by omega) (by omega)).bv (fun v ε u => ?_) (fun δ g => (XD.qw q1 hκ).tr (XD.xv g hκ))
    obtain ⟨r2, t2, rfl, u1, u2⟩ := u
    have q2 := q1.tr u1.1
    have hl2 : LL ε (np + 1 + many + i + 1) (RL2 np cv many i xv P M) := (hl1.ls g1.2).ls u1.2
    have hp2 := hp.qw h.1 q2
    have hM2 := hM.qw h.1 q2
    have hc2 := hc.gr h.1 q2.gr
    refine (chain_ok' (ℓ := np + 1 + many + i + 1) (k := 6) (f := 0) (D := 797) (q := 4000) (L := RL2 np cv many i xv P M) (Si := fun i' v => ∃ j, j < i' ∧ RL2 np cv many i xv P M j = v) (S := fun _ => False) hN hn (Or.inl rfl) (by decide) (by decide) (by decide) (by omega) (Nat.zero_le _) (fun l _ l2 v y => ?_) (fun v y => ?_) u1.mv hl2.1 (fun l _ l2 => hl2.2 l l2) (fun l _ i9 => ?_) u2).bv (fun v ζ y => ?_) (fun δ g => (XD.qw q2 hκ).tr (XD.xv g hκ))
    · obtain ⟨j, y1, y2⟩ := y
      exact Or.inr ⟨j, Nat.zero_le _, y1, y2⟩
    · obtain ⟨j, y1, y2⟩ := y
      exact Or.inr ⟨j, Nat.zero_le _, y1, y2⟩
    · by_cases i1 : l < np
      · rw [l1 l i1]
        exact ⟨_, (hp2 l (by omega)).2.su (Nat.le_refl _) (by decide) (fun v y => by obtain ⟨l', y1, y2, y3⟩ := y; exact ⟨l', y2, by rw [l1 l' (by omega)]; exact y3⟩)⟩
      by_cases i2 : l = np
      · rw [i2, l2]
        exact ⟨_, hc2.2.su (Nat.le_refl _) (Nat.le_refl _) (fun v y => by obtain ⟨l, y1, y2, y3⟩ := y; exact ⟨l, by omega, by rw [l1 l y2]; exact y3⟩)⟩
      by_cases i3 : l < np + 1 + many
      · have ei : l = np + 1 + (l - (np + 1)) := by omega
        have i4 : l - (np + 1) < many := by omega
        have := (hM2 _ i4).2
        rw [← l3 _ i4, ← ei] at this
        refine ⟨_, this.su (Nat.le_refl _) (Nat.le_refl _) (fun v y => ?_)⟩
        rcases y with y | ⟨l, y1, y2, y3⟩
        · exact ⟨np, by omega, by rw [l2, y]⟩
        · exact ⟨l, by omega, by rw [l1 l y2]; exact y3⟩
      by_cases i5 : l < np + 1 + many + i
      · have ei : l = np + 1 + many + (l - (np + 1 + many)) := by omega
        have i4 : l - (np + 1 + many) < i := by omega
        have := (hp2 (np + (l - (np + 1 + many))) (by omega)).2
        rw [← l4 _ i4, ← ei] at this
        refine ⟨_, this.su (Nat.le_refl _) (by decide) (fun v y => ?_)⟩
        obtain ⟨l', y1, y2, y3⟩ := y
        obtain ⟨j, y4, y5, y6⟩ := inP l' (by omega)
        rcases Nat.lt_or_ge l' np with y | y
        · exact ⟨l', by omega, by rw [l1 l' y]; exact y3⟩
        · exact ⟨np + 1 + many + (l' - np), by omega, by rw [l4 _ (by omega), show np + (l' - np) = l' by omega]; exact y3⟩
      · have ei : l = np + 1 + many + i := by omega
        rw [ei, l5]
        refine ⟨_, (hxT.qw h.1 q2).su (Nat.le_refl _) (Nat.le_refl _) (fun v y => ?_)⟩
        obtain ⟨l', y1, y2, y3⟩ := y
        rcases Nat.lt_or_ge l' np with y | y
        · exact ⟨l', by omega, by rw [l1 l' y]; exact y3⟩
        · exact ⟨np + 1 + many + (l' - np), by omega, by rw [l4 _ (by omega), show np + (l' - np) = l' by omega]; exact y3⟩
    obtain ⟨r3, t3, rfl, y1, y2, -⟩ := y
    have q3 := q2.tr y1
    refine (fits_ok y1.mv.1 y2.1).bv (fun v η o => ?_) (fun δ g => (XD.qw q3 hκ).tr (XD.of g (by decide) (fun r _ _ z => by cases z) (sN.ch g (fun r _ _ z => by cases z))))
    obtain ⟨rfl, rfl, o1⟩ := o
    have hW3 := y1.mv.1.2.2.2
    have hb3 := hb.qw h.1 q3
    obtain ⟨vx, fx, cx⟩ := hb3.2.2.1
    obtain ⟨-, -, ⟨bx, -⟩, -⟩ := hW3 _ vx
    obtain ⟨-, -, ⟨br, -⟩, -⟩ := hW3 _ y2.1
    rw [hW3.cl vx, hW3.cl y2.1, bx, br, nI_add]
    refine rV.ix (hW3.ix vx) (rV.ix (hW3.ix y2.1) ?_)
    refine (ma_346 (κ0 := κ0) hN hnq hq9 hkm hkr hU6 hκ hz hz3 y1.mv hb3.2.2.2.1.1 hb3.2.2.2.1.2 (hb3.fm (hp.qw h.1 q3) (hM.qw h.1 q3) (hc.gr h.1 q3.gr)) hb3.2.1 ⟨vx, fx, cx⟩ ⟨y2.1, o1, y2.2.2.2⟩ many 0 N (by omega) (by omega) (Nat.le_refl _)).mono (fun β y => ?_) (fun β y => (XD.qw q3 hκ).tr y)
    obtain ⟨κ', zz', t, y1, y2, y3, y4, y5, y6, y7, y8, y9, y10, y11⟩ := y
    exact ⟨κ', zz', t, y1, y2, y3, y4, y5, y6, y7, y8, y9, (q3.2.1.mo (by decide) (by decide)).tr y10, (XD.qw q3 hκ).tr y11⟩
  | d + 1, i, nn, α, hd, hm, h, hb, hp, hM, hc, hx, hx3, hxT, hl => by
    obtain ⟨nn, rfl⟩ : ∃ n', nn = n' + 1 := ⟨nn - 1, by omega⟩
    obtain ⟨γ, eγ, p1, p2, p3, p4, p5⟩ := push_q (X := α.2 33 (np + i)) h hl.1 (by omega)
    rw [f_Mod_made_237, if_neg (nI_ge (by omega) (by omega)), nI_add, nI_clamp (show np + i < 2 ^ 31 by omega)]
    refine rV.ix (mix' (show np + i < 5000 by omega) (by decide)) (rV.ix p1 ?_)
    show rV (f_Mod_made_237 N nn (nI i + 1) (nI xn) (nI c) (nI k) (nI np) (nI q') (nI many) (nI x) (mSA (mSi α 30 (α.1 30 + 1)) 41 (upd ((mSi α 30 (α.1 30 + 1)).2 41) (α.1 30).toNatClampNeg (α.2 33 (np + i))))) _ _
    rw [eγ, nI_1]
    refine (ma_237 hN hnq hq9 hkm hkr hU6 hκ hz hz3 d (i + 1) nn γ (by omega) (by omega) p3.mv (hb.qw h.1 p3) (hp.qw h.1 p3) (hM.qw h.1 p3) (hc.gr h.1 p3.gr) (hx.qw h.1 p3) (by rw [p2.arr (by decide)]; exact hx3) (hxT.qw h.1 p3) (hl.push p4 p5 ?_)).mono (fun β y => ?_) (fun β y => (XD.qw p3 hκ).tr y)
    · rw [(hp (np + i) (by omega)).1]
      unfold RL2
      rw [if_neg (by omega), if_neg (by omega), if_neg (by omega), if_pos (by omega), show np + 1 + many + i - (np + 1 + many) = i by omega]
    · obtain ⟨κ', zz', t, y1, y2, y3, y4, y5, y6, y7, y8, y9, y10, y11⟩ := y
      exact ⟨κ', zz', t, y1, y2, y3, y4, y5, y6, y7, y8, y9, (p2.mo (by decide) (by decide)).tr y10, (XD.qw p3 hκ).tr y11⟩
end MADE2
