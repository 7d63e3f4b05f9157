-- the reference's parser: binders, and the whole
section BINDM
variable {N : Nat} {W : Nat → Prop} {s Lc : Nat} {Lr : Nat → Prop} {sz : Nat} {kk : (Int32 → mS → Option (kO × mS)) × (Int32 → mS → Option (kO × mS)) × (Int32 → mS → Option (kO × mS)) × (Int32 → Int32 → mS → Option (kO × mS)) × (Int32 → mS → Option (kO × mS)) × (Int32 → mS → Option (kO × mS))} {t0 p0 sc ph e : Nat} {α0 : mS}
def pnf (α : mS) (i : Nat) : Prop := ∃ a z, α.2 28 i = nI a ∧ α.2 29 i = nI z ∧ a + z ≤ 65536
/-- the parser's state where only its side tables changed -/
theorem PSm.tab {I R : List Nat} {t p sc ph ph' : Nat} {α β : mS} (h : PSm W s Lc Lr sz t p sc ph α) (hc : mch I R α β) (hI : ∀ i, i ∈ [0, 5, 6, 7, 8, 9, 10, 19, 28] → i ∉ I) (hR : ∀ r, r ∈ [2, 3, 4, 5, 6, 7, 10, 11, 12, 25, 26, 27] → r ∉ R) (hp : β.1 20 = nI ph' ∧ ph' ≤ 3000 ∧ ∀ i, i < ph' → hdf β i) (hcp : ∃ cp, β.1 21 = nI cp ∧ cp ≤ 6000) : PSm W s Lc Lr sz t p sc ph' β ∧ sN (vd W s t) α β := by
  obtain ⟨h1, h2, ⟨h3, h4, h5⟩, ⟨h6, h7⟩, -, -⟩ := h
  have hs : sN (vd W s t) α β := sN.ch hc (fun r a b => hR r (by
    have : r = 2 ∨ r = 3 ∨ r = 4 ∨ r = 5 ∨ r = 6 ∨ r = 7 := by omega
    rcases this with e | e | e | e | e | e <;> subst e <;> decide))
  refine ⟨⟨h1.sn hc (hI 10 (by decide)) hs, h2.ch hc (fun i hi => hI i (by revert hi; revert i; decide)), ⟨h3.ch hc (hR 10 (by decide)) (hR 11 (by decide)), (hc.int (hI 28 (by decide))).trans h4, fun j hj => by rw [hc.arr (hR 12 (by decide))]; exact h5 j hj⟩, ⟨(hc.int (hI 19 (by decide))).trans h6, fun i hi => ?_⟩, hp, hcp⟩, hs⟩
  unfold scf
  rw [hc.arr (hR 25 (by decide)), hc.arr (hR 26 (by decide))]
  exact h7 i hi
theorem BT.tab {I R : List Nat} {m t p : Nat} {α β : mS} (h : BT W s Lc Lr sz t0 p0 sc ph α0 m t p α) (hc : mch I R α β) (hI : ∀ i, i ∈ [0, 5, 6, 7, 8, 9, 10, 19, 20, 28] → i ∉ I) (hI2 : ∀ i, i ∈ I → i ∈ paI) (hR : ∀ r, r ∈ [2, 3, 4, 5, 6, 7, 10, 11, 12, 25, 26, 27] → r ∉ R) (hR2 : ∀ r, r ∈ R → r ∈ paR) (h30 : ∀ i, i < ph → β.2 30 i = α.2 30 i ∧ β.2 31 i = α.2 31 i) (hcp : ∃ cp, β.1 21 = nI cp ∧ cp ≤ 6000) : BT W s Lc Lr sz t0 p0 sc ph α0 m t p β := by
  obtain ⟨hp1, hp2, hp3⟩ := h.1.ps.2.2.2.2.1
  obtain ⟨P, hs⟩ := h.1.ps.tab (ph' := ph) hc (fun i hi => hI i (by revert hi; revert i; decide)) hR ⟨(hc.int (hI 20 (by decide))).trans hp1, hp2, fun i hi => by unfold hdf; rw [(h30 i hi).1, (h30 i hi).2]; exact hp3 i hi⟩ hcp
  exact h.tr ⟨Nat.le_refl _, Nat.le_refl _, P, hc.mo hI2 hR2, hs, fun i _ => ⟨by rw [hc.arr (hR 25 (by decide))], by rw [hc.arr (hR 26 (by decide))], by rw [hc.arr (hR 27 (by decide))]⟩, h30⟩
theorem bind_142 {pm many m : Nat} {k2 : Int32 → Int32 → mS → Option (kO × mS)} {k39 : Int32 → Int32 → Int32 → Int32 → mS → Option (kO × mS)} (hN : 400000 < N) (he : e ≤ 100) (hk : ∀ e', e = e' + 1 → TmS W s Lc Lr sz e' kk.2.2.2.2.2) (hk2 : KB W s Lc Lr sz t0 p0 sc ph α0 (nI (100 - e)) pm k2) (hm : sc + m + many ≤ 3000) (hph : ph + many ≤ 3000) (h1m : 1 ≤ many) : ∀ (dd i nn t p : Nat) (α : mS), i + dd = many → dd < nn → pm < p → BT W s Lc Lr sz t0 p0 sc ph α0 m t p α → (∀ j, j < many → pnf α j) → (∀ j, j < i → hdf α (ph + j)) → rI (f_Mod_binders_142 N kk k2 k39 nn (nI i) (nI ph) (nI many) (nI m) (nI (100 - e)) α) (BQm W s Lc Lr sz t0 p0 sc ph α0) (XP W s t0 α0)
  | 0, i, nn, t, p, α, hi, hn, hp, h, hpn, hhd => by
    obtain ⟨nn, rfl⟩ : ∃ n', nn = n' + 1 := ⟨nn - 1, by omega⟩
    have ei : i = many := by omega
    subst ei
    rw [f_Mod_binders_142, if_pos (nI_le (by omega) (by omega)), nI_add]
    obtain ⟨β, eβ⟩ : ∃ β, β = mSi α 20 (nI (ph + i)) := ⟨_, rfl⟩
    rw [← eβ]
    have c1 : mch [20] [] α β := by rw [eβ]; exact mch.si (by decide)
    obtain ⟨x1, x2, x3⟩ := h.1.ps.2.2.2.2.1
    obtain ⟨cp, y1, y2⟩ := h.1.ps.2.2.2.2.2
    obtain ⟨P1, s1⟩ := h.1.ps.tab (ph' := ph + i) c1 (by decide) (fun r _ z => by cases z) ⟨by rw [eβ]; rfl, hph, fun j hj => by
      rcases Nat.lt_or_ge j ph with z | z
      · unfold hdf; rw [c1.arr (by decide), c1.arr (by decide)]; exact x3 j z
      · have := hhd (j - ph) (by omega)
        rw [show ph + (j - ph) = j by omega] at this
        unfold hdf; rw [c1.arr (by decide), c1.arr (by decide)]; exact this⟩ ⟨cp, (c1.int (by decide)).trans y1, y2⟩
    have xx : ∀ γ, XP W s t β γ → XP W s t0 α0 γ := fun γ g => h.1.tx ⟨(c1.mo (by decide) (fun r z => by cases z)).tr g.1, s1.tr g.2⟩
    refine (nest_ok hN (by omega) P1.2.1).bi (fun v δ u => ?_) (fun δ u => xx δ (lx_x u))
    obtain ⟨rfl, rfl, u1⟩ := u
    obtain ⟨e', rfl⟩ : ∃ e', e = e' + 1 := ⟨e - 1, by omega⟩
    rw [show 100 - (e' + 1) + 1 = 100 - e' by omega]
    refine (hk e' rfl t p (sc + m) (ph + i) δ P1 (by omega)).bi (fun v ε u => ?_) (fun ε u => xx ε u)
    obtain ⟨ty, t1, p1, rfl, u1, u2, u3, u4⟩ := u
    obtain ⟨-, -, ⟨b1, b2, b3⟩, -⟩ := u1.ps.1.nw u2
    rw [u1.ps.1.2.2.2.cl u2, b1]
    obtain ⟨cp1, w1, w2⟩ := u1.ps.2.2.2.2.2
    have em : nI cp1 + nI (uB ε ty) * (nI i - 1) = nI (cp1 + uB ε ty * (i - 1)) := by
      rw [show nI i - 1 = nI (i - 1) from pk_sub (a := i) (b := 1) h1m, show nI (uB ε ty) * nI (i - 1) = nI (uB ε ty * (i - 1)) from pk_mul _ _, nI_add]
    rw [w1, em]
    have bnd : uB ε ty * (i - 1) ≤ 3000 * 3000 := Nat.mul_le_mul u3.1 (by omega)
    refine rI.ix (u1.ps.1.2.2.2.ix u2) (rI.ite (fun cc => ?_) fun _ => rI.thr (xx _ (u1.tx ⟨(mch.si (by decide)).tr (mch.th (by decide) (by decide)), sN.ch (I := [21, 100, 101]) (R := []) ((mch.si (by decide)).tr (mch.th (by decide) (by decide))) (fun r _ _ z => by cases z)⟩)))
    have cc : cp1 + uB ε ty * (i - 1) ≤ 6000 := Nat.not_lt.mp fun z => absurd cc (nI_ge (a := 6000) z (by omega))
    obtain ⟨ζ, eζ⟩ : ∃ ζ, ζ = mSi ε 21 (nI (cp1 + uB ε ty * (i - 1))) := ⟨_, rfl⟩
    rw [← eζ]
    have c2 : mch [21] [] ε ζ := by rw [eζ]; exact mch.si (by decide)
    obtain ⟨P2, s2⟩ := u1.ps.tab (ph' := ph + i) c2 (by decide) (fun r _ z => by cases z) ⟨(c2.int (by decide)).trans u1.ps.2.2.2.2.1.1, hph, fun j hj => by unfold hdf; rw [c2.arr (by decide), c2.arr (by decide)]; exact u1.ps.2.2.2.2.1.2.2 j hj⟩ ⟨_, by rw [eζ]; rfl, cc⟩
    have xz : ∀ γ, XP W s t1 ζ γ → XP W s t0 α0 γ := fun γ g => xx γ (u1.tx ⟨(c2.mo (by decide) (fun r z => by cases z)).tr g.1, s2.tr g.2⟩)
    refine (must_ok hN P2.2.1).bi (fun η g => ?_) (fun η g => xz η (lx_x g))
    obtain ⟨p2, g1, -, g2, g3⟩ := g
    have q3 := P2.lx g1 g2 g3
    obtain ⟨θ, eθ⟩ : ∃ θ, θ = mSi η 20 (nI ph) := ⟨_, rfl⟩
    rw [← eθ]
    have c4 : mch [20] [] η θ := by rw [eθ]; exact mch.si (by decide)
    have hh4 : ∀ j, j < ph + i → hdf θ j := fun j hj => by unfold hdf; rw [c4.arr (by decide), c4.arr (by decide)]; exact q3.ps.2.2.2.2.1.2.2 j hj
    obtain ⟨P4, s4⟩ := q3.ps.tab (ph' := ph) c4 (by decide) (fun r _ z => by cases z) ⟨by rw [eθ]; rfl, x2, fun j hj => hh4 j (by omega)⟩ (by obtain ⟨c, a, b⟩ := q3.ps.2.2.2.2.2; exact ⟨c, (c4.int (by decide)).trans a, b⟩)
    have cc4 : mch paI paR α θ := (((c1.mo (by decide) (fun r z => by cases z)).tr u1.2.2.2.1).tr (c2.mo (by decide) (fun r z => by cases z))).tr ((g3.mo (by decide) (fun r z => by cases z)).tr (c4.mo (by decide) (fun r z => by cases z)))
    have ss4 : sN (vd W s t1) ε θ := s2.tr (q3.2.2.2.2.1.tr s4)
    have ssA : sN (vd W s t) α θ := s1.tr (u1.2.2.2.2.1.tr (ss4.su fun _ z => z.up u1.1))
    have ar : ∀ r, r ∈ [25, 26, 27, 30, 31] → ∀ j, θ.2 r j = ε.2 r j := fun r hr j => by
      have a1 : θ.2 r = η.2 r := c4.arr (fun z => by cases z)
      have a2 : η.2 r = ζ.2 r := g3.arr (fun z => by cases z)
      have a3 : ζ.2 r = ε.2 r := c2.arr (fun z => by cases z)
      rw [a1, a2, a3]
    have hB : BT W s Lc Lr sz t0 p0 sc ph α0 m t1 p2 θ := by
      refine h.tr ⟨u1.1, Nat.le_trans u1.2.1 g1, P4, cc4, ssA, fun j hj => ?_, fun j hj => ?_⟩
      · obtain ⟨z1, z2, z3⟩ := u1.2.2.2.2.2.1 j hj
        rw [ar 25 (by decide), ar 26 (by decide), ar 27 (by decide), z1, z2, z3]
        exact ⟨by rw [c1.arr (by decide)], by rw [c1.arr (by decide)], by rw [c1.arr (by decide)]⟩
      · obtain ⟨z1, z2⟩ := u1.2.2.2.2.2.2 j (by omega)
        rw [ar 30 (by decide), ar 31 (by decide), z1, z2]
        exact ⟨by rw [c1.arr (by decide)], by rw [c1.arr (by decide)]⟩
    exact bind_261 hN hk2 hm hph i 0 N t1 p2 θ (by omega) (by omega) (by have := u1.2.1; omega) hB u2 (u3.sn ss4 u2) (u4.sn u1.ps.1.2.2.2 ss4 u2) (fun j _ hj => hh4 (ph + j) (by omega))
  | dd + 1, i, nn, t, p, α, hi, hn, hp, h, hpn, hhd => by
    obtain ⟨nn, rfl⟩ : ∃ n', nn = n' + 1 := ⟨nn - 1, by omega⟩
    have ix1 := mix (i := i) (n := 3100) (by omega) (by decide)
    have ix2 := mix (i := ph + i) (n := 3400) (by omega) (by decide)
    rw [f_Mod_binders_142, if_neg (nI_ge (by omega) (by omega)), nI_add, nI_1]
    refine rI.ix ix1 (rI.ix ix2 (rI.ix ix1 (rI.ix ix2 ?_)))
    rw [nI_clamp (show ph + i < 2 ^ 31 by omega), nI_clamp (show i < 2 ^ 31 by omega)]
    obtain ⟨β, eβ⟩ : ∃ β, β = mSA (mSA α 30 (upd (α.2 30) (ph + i) (α.2 28 i))) 31 (upd ((mSA α 30 (upd (α.2 30) (ph + i) (α.2 28 i))).2 31) (ph + i) ((mSA α 30 (upd (α.2 30) (ph + i) (α.2 28 i))).2 29 i)) := ⟨_, rfl⟩
    rw [← eβ]
    have c1 : mch [] [30, 31] α β := by rw [eβ]; exact (mch.sA (by decide)).tr (mch.sA (by decide))
    have e30 : β.2 30 = upd (α.2 30) (ph + i) (α.2 28 i) := by rw [eβ]; rfl
    have e31 : β.2 31 = upd (α.2 31) (ph + i) (α.2 29 i) := by rw [eβ]; rfl
    have hB : BT W s Lc Lr sz t0 p0 sc ph α0 m t p β := h.tab c1 (fun i _ z => by cases z) (fun i z => by cases z) (by decide) (by decide) (fun j hj => ⟨by rw [e30, upd_ne (by omega)], by rw [e31, upd_ne (by omega)]⟩) (by obtain ⟨c, a, b⟩ := h.1.ps.2.2.2.2.2; exact ⟨c, (c1.int (fun z => by cases z)).trans a, b⟩)
    refine bind_142 hN he hk hk2 hm hph h1m dd (i + 1) nn t p β (by omega) (by omega) hp hB (fun j hj => ?_) (fun j hj => ?_)
    · unfold pnf; rw [c1.arr (by decide), c1.arr (by decide)]; exact hpn j hj
    · unfold hdf
      rw [e30, e31]
      rcases Nat.lt_or_ge j i with z | z
      · rw [upd_ne (by omega), upd_ne (by omega)]; exact hhd j z
      · have : j = i := by omega
        rw [this, upd_at, upd_at]
        exact hpn i (by omega)
theorem bind_39 {pm m : Nat} {k2 : Int32 → Int32 → mS → Option (kO × mS)} (hN : 400000 < N) (he : e ≤ 100) (hk : ∀ e', e = e' + 1 → TmS W s Lc Lr sz e' kk.2.2.2.2.2) (hk2 : KB W s Lc Lr sz t0 p0 sc ph α0 (nI (100 - e)) pm k2) (hm3 : sc + m ≤ 3200) : ∀ (dd c nn t p : Nat) (α : mS), c + dd = 3001 → dd < nn → pm < p → BT W s Lc Lr sz t0 p0 sc ph α0 m t p α → (∀ j, j < c → pnf α j) → (c = 0 ∨ sc + m + ph + c ≤ 3000) → (c = 0 → α.1 9 ≠ 0 ∧ α.1 6 = 1 ∧ f_Mod_reserved N α = some (some (some 0), α)) → rI (f_Mod_binders_39 N kk k2 nn (nI (sc + m + c)) (nI (sc + m)) (nI m) (nI (100 - e)) α) (BQm W s Lc Lr sz t0 p0 sc ph α0) (XP W s t0 α0)
  | 0, c, nn, t, p, α, hc, hn, hp, h, hpn, hcc, hc0 => by omega
  | dd + 1, c, nn, t, p, α, hc, hn, hp, h, hpn, hcc, hc0 => by
    obtain ⟨nn, rfl⟩ : ∃ n', nn = n' + 1 := ⟨nn - 1, by omega⟩
    rw [f_Mod_binders_39]
    have j121 : ∀ (β : mS) (p1 : Nat), pm < p1 → 1 ≤ c → BT W s Lc Lr sz t0 p0 sc ph α0 m t p1 β → (∀ j, j < c → pnf β j) → rI (f_Mod_binders_j121 N kk k2 (f_Mod_binders_39 N kk k2 nn) (nI (sc + m + c)) (nI (sc + m)) (nI m) (nI (100 - e)) β) (BQm W s Lc Lr sz t0 p0 sc ph α0) (XP W s t0 α0) := fun β p1 hp1 hc1 hb hpn => by
      unfold f_Mod_binders_j121
      refine (must_ok hN hb.1.ps.2.1).bi (fun γ g => ?_) (fun γ g => hb.1.tx (lx_x g))
      obtain ⟨p2, g1, -, g2, g3⟩ := g
      have hg := hb.tr (hb.1.ps.lx g1 g2 g3)
      have hph := hg.1.ps.2.2.2.2.1
      rw [hph.1, sub_nI (by omega), show sc + m + c - (sc + m) = c by omega]
      exact bind_142 hN he hk hk2 (by omega) (by omega) hc1 c 0 N t p2 γ (by omega) (by omega) (by omega) hg (fun j hj => by unfold pnf; rw [g3.arr (fun z => by cases z), g3.arr (fun z => by cases z)]; exact hpn j hj) (fun j hj => by omega)
    have name : ∀ (β : mS) (p1 : Nat), pm < p1 → PK sz p1 β → BT W s Lc Lr sz t0 p0 sc ph α0 m t p1 β → (∀ j, j < c → pnf β j) → rI (if ((((β.1 19) + (β.1 20)) + nI (sc + m + c)) - nI (sc + m)) < 3000 then (if (nI (sc + m + c) - nI (sc + m)) < 0 ∨ 3100 ≤ ((nI (sc + m + c) - nI (sc + m)) : Int32).toNatClampNeg then none else (if (nI (sc + m + c) - nI (sc + m)) < 0 ∨ 3100 ≤ ((nI (sc + m + c) - nI (sc + m)) : Int32).toNatClampNeg then none else (mBv (f_Mod_take N (mSA (mSA β 28 (upd (β.2 28) ((nI (sc + m + c) - nI (sc + m)) : Int32).toNatClampNeg (β.1 7))) 29 (upd ((mSA β 28 (upd (β.2 28) ((nI (sc + m + c) - nI (sc + m)) : Int32).toNatClampNeg (β.1 7))).2 29) ((nI (sc + m + c) - nI (sc + m)) : Int32).toNatClampNeg ((β.1 8) - (β.1 7))))) fun α51 => (f_Mod_binders_39 N kk k2 nn (nI (sc + m + c) + 1) (nI (sc + m)) (nI m) (nI (100 - e)) α51)))) else (some (none, (mTh β 10 (-1))))) (BQm W s Lc Lr sz t0 p0 sc ph α0) (XP W s t0 α0) := fun β p1 hp1 hk1 hb hpn => by
      have hph := hb.1.ps.2.2.2.2.1
      have hscb := hb.1.ps.2.2.2.1.1
      rw [hscb, hph.1, nI_add, nI_add, sub_nI (show sc + m ≤ sc + m + ph + (sc + m + c) by omega), sub_nI (show sc + m ≤ sc + m + c by omega), show sc + m + c - (sc + m) = c by omega]
      refine rI.ite (fun c3 => ?_) fun _ => rI.thr (hb.1.tx thr_p)
      have c3 : sc + m + ph + c < 3000 := by have := (nI_ltI (a := sc + m + ph + (sc + m + c) - (sc + m)) (b := 3000) (by omega) (by omega)).mp c3; omega
      have ix := mix (i := c) (n := 3100) (by omega) (by decide)
      refine rI.ix ix (rI.ix ix ?_)
      rw [nI_clamp (show c < 2 ^ 31 by omega), nI_1]
      obtain ⟨⟨k0, ksz, k5, kp, kk'⟩, k9⟩ := hk1
      obtain ⟨a, ee, k7, k8, kae, kes, -⟩ := kk'.resolve_left k9
      rw [k7, k8, sub_nI kae]
      obtain ⟨γ, eγ⟩ : ∃ γ, γ = mSA (mSA β 28 (upd (β.2 28) c (nI a))) 29 (upd ((mSA β 28 (upd (β.2 28) c (nI a))).2 29) c (nI (ee - a))) := ⟨_, rfl⟩
      rw [← eγ]
      have c1 : mch [] [28, 29] β γ := by rw [eγ]; exact (mch.sA (by decide)).tr (mch.sA (by decide))
      have e28 : γ.2 28 = upd (β.2 28) c (nI a) := by rw [eγ]; rfl
      have e29 : γ.2 29 = upd (β.2 29) c (nI (ee - a)) := by rw [eγ]; rfl
      have hB : BT W s Lc Lr sz t0 p0 sc ph α0 m t p1 γ := hb.tab c1 (fun i _ z => by cases z) (fun i z => by cases z) (by decide) (by decide) (fun j hj => ⟨by rw [c1.arr (by decide)], by rw [c1.arr (by decide)]⟩) (by obtain ⟨c, a, b⟩ := hb.1.ps.2.2.2.2.2; exact ⟨c, (c1.int (fun z => by cases z)).trans a, b⟩)
      obtain ⟨δ, p2, e2, d1, d2, d3, -⟩ := take_m hN hB.1.ps.2.1
      rw [e2]
      have hD := hB.tr (hB.1.ps.lx d1 d2 d3)
      show rI (f_Mod_binders_39 N kk k2 nn (nI (sc + m + c + 1)) (nI (sc + m)) (nI m) (nI (100 - e)) δ) _ _
      rw [show sc + m + c + 1 = sc + m + (c + 1) by omega]
      refine bind_39 hN he hk hk2 hm3 dd (c + 1) nn t p2 δ (by omega) (by omega) (by omega) hD (fun j hj => ?_) (Or.inr (by omega)) (fun z => by omega)
      unfold pnf
      rw [d3.arr (fun z => by cases z), d3.arr (fun z => by cases z), e28, e29]
      rcases Nat.lt_or_ge j c with z | z
      · rw [upd_ne (by omega), upd_ne (by omega)]; exact hpn j z
      · have : j = c := by omega
        rw [this, upd_at, upd_at]
        exact ⟨a, ee - a, rfl, rfl, by omega⟩
    rcases Nat.eq_zero_or_pos c with z | z
    · obtain ⟨b9, b6, br⟩ := hc0 z
      rw [peek_same b9]
      show rI (if α.1 6 = 1 then _ else _) _ _
      rw [if_pos b6, br]
      exact name α p hp ⟨h.1.ps.2.1, b9⟩ h hpn
    · refine h.1.ps.iq (peek_q hN h.1.ps.2.1) (fun v β p1 e1 q1 k1 _ => ?_)
      have h1 := h.tr q1
      have pn1 : ∀ j, j < c → pnf β j := fun j hj => by
        obtain ⟨v, β', q, e1', hq, hP, hc', hs⟩ := peek_q hN h.1.ps.2.1
        rw [e1] at e1'
        injection e1' with e1'; injection e1' with _ e1'
        subst e1'
        unfold pnf; rw [hc'.arr (fun z => by cases z), hc'.arr (fun z => by cases z)]; exact hpn j hj
      refine rI.ite (fun _ => ?_) fun _ => j121 β p1 (by have := q1.2.1; omega) z h1 pn1
      refine h1.1.ps.iq (reserved_ok hN h1.1.ps.2.1) (fun v2 γ p2 e2 q2 k2' hs2 => ?_)
      have eγ := hs2 k1.2
      subst eγ
      have h2 := h1.tr q2
      refine rI.ite (fun _ => ?_) fun _ => j121 γ p2 (by have := q1.2.1; have := q2.2.1; omega) z h2 pn1
      exact name γ p2 (by have := q1.2.1; have := q2.2.1; omega) k2' h2 pn1
theorem bind_2 (hN : 400000 < N) (he : e ≤ 100) (hk : ∀ e', e = e' + 1 → TmS W s Lc Lr sz e' kk.2.2.2.2.2) (hsc : sc ≤ 3100) : ∀ (q nn m t p : Nat) (α : mS), sz - p < q → q ≤ nn → BT W s Lc Lr sz t0 p0 sc ph α0 m t p α → rI (f_Mod_binders_2 N kk nn (nI m) (nI (100 - e)) α) (BQm W s Lc Lr sz t0 p0 sc ph α0) (XP W s t0 α0)
  | 0, nn, m, t, p, α, hq, hn, h => by omega
  | q + 1, nn, m, t, p, α, hq, hn, h => by
    obtain ⟨nn, rfl⟩ : ∃ n', nn = n' + 1 := ⟨nn - 1, by omega⟩
    rw [f_Mod_binders_2]
    refine (must_ok hN h.1.ps.2.1).bi (fun β g => ?_) (fun β g => h.1.tx (lx_x g))
    obtain ⟨p1, g1, g1', g2, g3⟩ := g
    have pl := g1' (by decide)
    have hs1 : p1 ≤ sz := g2.2.2.2.1
    have hb := h.tr (h.1.ps.lx g1 g2 g3)
    have cant : ∀ (γ : mS) (p2 : Nat), BT W s Lc Lr sz t0 p0 sc ph α0 m t p2 γ → rI ((f_Mod_cant N γ).bind fun α7 => some (none, mTh α7 (α7.1 100) (α7.1 101))) (BQm W s Lc Lr sz t0 p0 sc ph α0) (XP W s t0 α0) := fun γ p2 hg => cant_r hN hg.1.ps.2.1 fun δ g => hg.1.tx (lx_x g)
    rw [hb.1.ps.2.2.2.1.1]
    obtain ⟨v, γ, p2, e2, hq2, hP2, h6, hc2⟩ := peek_ok hN hb.1.ps.2.1
    have hs2 : p2 ≤ sz := hP2.1.2.2.2.1
    rw [e2]
    have hg := hb.tr (hb.1.ps.lx hq2 hP2.1 hc2)
    show rI (if v = 1 then _ else _) _ _
    refine rI.ite (fun cv => ?_) fun _ => cant γ p2 hg
    obtain ⟨v3, δ, p3, e3, hq3, hP3, hc3, hs3⟩ := reserved_ok hN hP2.1
    have eδ := hs3 hP2.2
    subst eδ
    rw [e3]
    show rI (if v3 = 0 then _ else _) _ _
    have hg3 := hg.tr (hg.1.ps.lx hq3 hP3.1 hc3)
    refine rI.ite (fun c3 => ?_) fun _ => cant δ p3 hg3
    have hk2 : KB W s Lc Lr sz t0 p0 sc ph α0 (nI (100 - e)) p (f_Mod_binders_2 N kk nn) := fun m' t' p' α' hp' hb' => bind_2 hN he hk hsc q nn m' t' p' α' (by have := hb'.1.ps.2.1.2.2.2.1; omega) (by omega) hb'
    exact bind_39 hN he hk hk2 (by have := hg3.2.1; omega) 3001 0 N t p3 δ (by omega) (by omega) (by omega) hg3 (fun j hj => by omega) (Or.inl rfl) (fun _ => ⟨hP2.2, by rw [h6, cv], by rw [e3, c3]⟩)
theorem binders_ok (hN : 400000 < N) (he : e ≤ 100) (hk : ∀ e', e = e' + 1 → TmS W s Lc Lr sz e' kk.2.2.2.2.2) {t p sc ph : Nat} {α : mS} (h : PSm W s Lc Lr sz t p sc ph α) (hsc : sc ≤ 3100) : rI (f_Mod_binders N kk (nI (100 - e)) α) (BQm W s Lc Lr sz t p sc ph α) (XP W s t α) := by
  unfold f_Mod_binders
  have hs := h.2.1.2.1
  exact bind_2 hN he hk hsc (sz + 1) N 0 t p α (by omega) (by omega) ⟨QP.rf h, Or.inl rfl, fun i hi => by omega⟩
end BINDM
