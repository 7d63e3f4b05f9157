-- NORMAL FORM: its turns
section NORMAL
variable {N K c m yv z dd g : Nat} {α : kS} {a b t r : Int32} {fs : List F5} {ty : List Int32}
theorem normal_ok (hN : 2 ^ 31 ≤ N) (T : Top K c m yv z 9 α a b t dd fs ty r g) : tV (f_Red_normal N α) (TI2 (LC m yv 9 g α a b fs r) K yv z α) (TX K α) := by
  obtain ⟨h, he, v, ⟨hqa, hd, hh⟩, hl, hs, hr, hg, ht⟩ := T
  have ht0 : tvp yv α fs ty := ht.pop (by decide)
  unfold f_Red_normal
  rw [top4 h v]
  refine tV.ite (fun c1 => ?_) (fun _ => fail_x N 10 h ch.rf)
  have hd2 : dd ≤ 120 := Nat.not_lt.mp fun y => absurd c1 (nI_ge (a := 120) (b := dd) y (by omega))
  unfold f_Red_normal_j22
  obtain ⟨γ, e, g1, g2, g3⟩ := set0 h v 10
  rw [e, top1 g1 g3]
  obtain ⟨δ, e', y1, y2, y3⟩ := fpush (N := N) g1 g3 (by show fs.length + 1 < 512; omega) 1 a 0 0
  rw [e']
  have w2 := g2.tr y2
  refine tV.ret ⟨y1, w2, SI2.top2 (n := 10) (n1 := 1) (d1 := 0) h y1 w2.2.2 y3 (by decide) ⟨hqa.g w2.2.2, by omega, by omega⟩ (by decide) (by decide) ⟨hd2, hh, one0⟩ hl hs ?_ (fun l => ?_)⟩
  · exact ((ht0.g w2.2.2).push (n' := 10) (by decide)).push (by decide)
  · have fa : FP α (vc fs) a := l.2.2.1
    exact lev_c (n := 1) (by decide) (vc_p (n := 10) (by decide)).1 (fa.g h.1.1 h.2.1 w2.2.2) (lev_c (n := 10) (by decide) rfl trivial (lev.w h y1 w2 fs l.2.2.2.1))
/-- a TERM within is brought to normal form -/
theorem normalW {L : Prop} {n' : Nat} {β : kS} {a' b' t' x : Int32} {ty' : List Int32} (h : tT K α) (hβ : tT K β) (w : wk α β) (v : vw β ((nI n', a', b', t', nI dd) :: fs) ty' r) (hx : qP β x) (hd : dd ≤ 120) (hh : fs.length < 302 + dd) (hn : n' ≤ 31) (hl2 : lv n' ≤ 2) (hf : ∀ γ, grw β γ → tT K γ → fo γ n' dd fs.length 1 a' b' t') (hl : lvs (lv n') fs) (hs : ∀ γ, grw β γ → tT K γ → st α (zs n' z) fs (gv γ n' 1 a')) (ht : tvp yv β ((nI n', a', b', t', nI dd) :: fs) ty') (hL : L → lev β ((nI n', a', b', t', nI dd) :: fs) ∧ FP β (vc ((nI n', a', b', t', nI dd) :: fs)) x) : tV (kBv (f_Red_normalWithin N x β) fun δ => some (some none, δ)) (TI2 L K yv z α) (TX K α) := by
  obtain ⟨γ, e, g1, g2, g3⟩ := nw_ok (N := N) hβ v (by omega) x
  rw [e]
  have w2 := w.tr g2
  exact tV.ret ⟨g1, w2, SI2.top2 (n := n') (n1 := 9) (d1 := dd + 1) h g1 w2.2.2 g3 (by decide) ⟨hx.g g2.2.2, by omega, by omega⟩ hl2 hn (hf γ g2.2.2 g1) hl (hs γ g2.2.2 g1) ((ht.g g2.2.2).push (by decide)) (fun l => lev_c (n := 9) (by decide) rfl (FP.g hβ.1.1 hβ.2.1 g2.2.2 (hL l).2) (lev.w hβ g1 g2 _ (hL l).1))⟩
theorem normalSplit_ok (hN : 2 ^ 31 ≤ N) (T : Top K c m yv z 10 α a b t dd fs ty r g) : tV (f_Red_normalSplit N α) (TI2 (LC m yv 10 g α a b fs r) K yv z α) (TX K α) := by
  obtain ⟨h, he, v, ⟨hd, hh, hg1⟩, hl, hs, hr, hg, ht⟩ := T
  have hqr := hr hg1
  have ht0 : tvp yv α fs ty := ht.pop (by decide)
  obtain ⟨β, e, hβ, wβ, vβ⟩ := set1 h v r
  have qr := hqr.g wβ.2.2
  have j38 : bnd α r → tV (f_Red_normalSplit_j38 N r β) (TI2 (LC m yv 10 g α a b fs r) K yv z α) (TX K α) := by
    intro br
    unfold f_Red_normalSplit_j38
    obtain ⟨γ, e1, g1, g2, g3⟩ := set0 hβ vβ 11
    rw [e1]
    have w2 := wβ.tr g2
    have br' := br.g w2.2.2
    refine normalW h g1 w2 g3 (n' := 11) (br'.q g1.1.1 g1.2.1).2.1 hd hh (by decide) (by decide) (fun δ hg _ => ⟨br'.g hg, hd, hh, one0⟩) hl (fun _ _ _ => hs) ((ht0.g w2.2.2).push (by decide)) (fun l => ?_)
    have fr : FP α (vc fs) r := l.2.2.2.2 hg1
    have fr' := fr.g h.1.1 h.2.1 w2.2.2
    refine ⟨lev_c (n := 11) (by decide) rfl fr' (lev.w h g1 w2 fs l.2.2.2.1), ?_⟩
    rw [(vc_p (n := 11) (by decide)).1]
    rcases br'.kd g1.1.1 with k6 | k7
    · exact (FP_part g1.1.1 g1.2.1 (k := 6) (by decide) (by decide) k6 fr').1
    · exact (FP_part g1.1.1 g1.2.1 (k := 7) (by decide) (by decide) k7 fr').1
  unfold f_Red_normalSplit
  rw [show f_Fra_result α = r from v.2.2, e]
  refine tV.ite (fun c6 => j38 (bnd.of h.1.1 (Or.inl c6))) (fun _ => tV.ite (fun c7 => j38 (bnd.of h.1.1 (Or.inr c7))) (fun _ => ?_))
  obtain ⟨γ, e1, g1, g2, g3⟩ := set0 hβ vβ 13
  rw [e1]
  have qr2 := qr.g g2.2.2
  obtain ⟨p, eh, qh⟩ := head_ok (N := N) (by omega) g1.1.1 g1.2.1 qr2
  rw [eh, obs]
  obtain ⟨δ, e2, y1, y2, y3⟩ := set2 g1 g3 p
  rw [e2]
  obtain ⟨k, eb, hk, ak⟩ := behind_sz (N := N) (by omega) y1.1.1 y1.2.1 r
  rw [eb, obs]
  obtain ⟨ε, e3, x1, x2, x3⟩ := set3 y1 y3 (nI k)
  rw [e3]
  have w2 := (wβ.tr g2).tr (y2.tr x2)
  refine tV.ret ⟨x1, w2, SI2.top (n := 13) (g := 0) h x1 w2.2.2 x3 (by decide) ⟨⟨qr2.g (y2.tr x2).2.2, qh.g (y2.tr x2).2.2, k, Nat.zero_le _, by omega, rfl, aP_g y1.1.1 y1.2.1 x1.1.1 x2.2.2 k (qr2.g y2.2.2) ak⟩, hd, hh⟩ hl hs (fun q => absurd q (by decide)) (by decide) ((ht0.g w2.2.2).push (by decide)) (fun l => ⟨?_, fun q => absurd rfl q⟩)⟩
  have fr : FP α (vc fs) r := l.2.2.2.2 hg1
  have fr1 := fr.g h.1.1 h.2.1 (wβ.tr g2).2.2
  exact lev_c (n := 13) (by decide) rfl ⟨fr.g h.1.1 h.2.1 w2.2.2, (FP_head (by omega) g1.1.1 g1.2.1 eh fr1).g g1.1.1 g1.2.1 (y2.tr x2).2.2⟩ (lev.w h x1 w2 fs l.2.2.2.1)
theorem normalBody_ok (hN : 2 ^ 31 ≤ N) (T : Top K c m yv z 11 α a b t dd fs ty r g) : tV (f_Red_normalBody N α) (TI2 (LC m yv 11 g α a b fs r) K yv z α) (TX K α) := by
  obtain ⟨h, he, v, ⟨ba, hd, hh, hg1⟩, hl, hs, hr, hg, ht⟩ := T
  have hqr := hr hg1
  have ht0 : tvp yv α fs ty := ht.pop (by decide)
  obtain ⟨β, e, hβ, wβ, vβ⟩ := set2 h v r
  obtain ⟨γ, e1, g1, g2, g3⟩ := set0 hβ vβ 12
  have w2 := wβ.tr g2
  unfold f_Red_normalBody
  rw [show f_Fra_result α = r from v.2.2, e, e1]
  refine var_l (by omega) g1 g3 (ht0.len (by omega)) (-1) (fun j δ y1 y2 y3 y4 y5 => ?_) (fun γ q1 q2 => ⟨q1, w2.tr q2⟩)
  rw [top1 y1 y3]
  have w3 := w2.tr y2
  refine rw_l (m' := 0) (by omega) y1 (by decide) ((ba.g w3.2.2).q y1.1.1 y1.2.1).2.2 (fun _ => ⟨j, rfl, y4⟩) y3 (fun x ε d1 d2 d3 d4 d5 => ?_) (fun δ q1 q2 => ⟨q1, w3.tr q2⟩)
  have w4 := w3.tr d2
  have ba' := ba.g w4.2.2
  have qr' := hqr.g w4.2.2
  refine normalW h d1 w4 d3 (n' := 12) d4 hd hh (by decide) (by decide) (fun δ hg _ => ⟨⟨ba'.g hg, qr'.g hg⟩, hd, hh, one0⟩) hl (fun _ _ _ => hs) ((ht.newc (n' := 12) (by decide) (Or.inr rfl)).g w4.2.2) (fun l => ?_)
  have fr : FP α (vc fs) r := l.2.2.2.2 hg1
  have fa : FP α (vc fs) a := l.2.2.1
  have ety : ty.length = vc fs := by
    have := ht0.1.2
    have := l.1
    omega
  refine ⟨lev_c (n := 12) (by decide) rfl (fr.g h.1.1 h.2.1 w4.2.2) (lev.w h d1 w4 fs l.2.2.2.1), ?_⟩
  rw [(vc_c (n := 12) (Or.inr rfl)).1, Nat.add_comm]
  rw [ety] at y5
  have fa' := fa.g h.1.1 h.2.1 w3.2.2
  have fb : FP δ (vc fs) (f_Terms_right a δ) := by
    rcases (ba.g w3.2.2).kd y1.1.1 with k6 | k7
    · exact (FP_part y1.1.1 y1.2.1 (k := 6) (by decide) (by decide) k6 fa').2
    · exact (FP_part y1.1.1 y1.2.1 (k := 7) (by decide) (by decide) k7 fa').2
  exact d5 _ _ (lvk1 (by decide) ⟨j, rfl, y4.1, y5⟩) (fb.up (by omega))
theorem normalClose_ok (hN : 2 ^ 31 ≤ N) (T : Top K c m yv z 12 α a b t dd fs ty r g) : tV (f_Red_normalClose N α) (TI2 (LC m yv 12 g α a b fs r) K yv z α) (TX K α) := by
  obtain ⟨h, he, v, ⟨⟨ba, hqb⟩, hd, hh, hg1⟩, hl, hs, hr, hg, ht⟩ := T
  have hqr := hr hg1
  obtain ⟨β, e, hβ, wβ, vβ⟩ := dropvar h v
  unfold f_Red_normalClose
  rw [show f_Fra_result α = r from v.2.2, e]
  refine rw_l (m' := 2) (by omega) hβ (by decide) (hqr.g wβ.2.2) (fun y => absurd y (by decide)) vβ (fun x γ g1 g2 g3 g4 g5 => ?_) (fun δ q1 q2 => ⟨q1, wβ.tr q2⟩)
  rw [top1 g1 g3, top2 g1 g3]
  have w2 := wβ.tr g2
  have fin : ∀ k', (k' = 6 ∨ k' = 7) → tV (kBi (f_Terms_make N (nI k') b x γ) fun v6 α4 => some (some none, f_Fra_give v6 α4)) (TI2 (LC m yv 12 g α a b fs r) K yv z α) (TX K α) := by
    intro k' hk
    refine mk_lv (k' := k') (by omega) g1 (by omega) (by omega) (hqb.g w2.2.2) g4 g3 (fun y δ y1 y2 y3 y4 y5 => ?_) (fun δ q1 q2 => ⟨q1, w2.tr q2⟩)
    obtain ⟨ε, e1, i1, i2, i3⟩ := fgive y1 y3 y
    rw [e1]
    have w3 := (w2.tr y2).tr i2
    refine tV.ret ⟨i1, w3, SI2.give h i1 w3.2.2 i3 hs (y4.g i2.2.2) ((ht.dropc (Or.inr rfl)).g w3.2.2) (fun l => ⟨lev.w h i1 w3 fs l.2.2.2.1, FP.g y1.1.1 y1.2.1 i2.2.2 ?_⟩)⟩
    have fb : FP α (vc fs) b := l.2.2.1
    have fr : FP α (vc fs + 1) r := l.2.2.2.2 hg1
    have ety : ty.length - 1 = vc fs := by
      have h1 := ht.1.2
      rw [(vc_c (n := 12) (Or.inr rfl)).1] at h1
      have := l.1
      omega
    have hsl := st_len fs hs
    have hvl := vc_le fs
    exact y5 _ (fb.g h.1.1 h.2.1 w2.2.2) (g5 (vc fs + 1) (vc fs) (Or.inr (Or.inr ⟨rfl, by rw [ety], by omega, by omega⟩)) (fr.g h.1.1 h.2.1 wβ.2.2))
  rcases (ba.g w2.2.2).kd g1.1.1 with k6 | k7
  · rw [k6]; exact fin 6 (Or.inl rfl)
  · rw [k7]; exact fin 7 (Or.inr rfl)
theorem normalArg_ok (hN : 2 ^ 31 ≤ N) (T : Top K c m yv z 13 α a b t dd fs ty r g) : tV (f_Red_normalArgument N α) (TI2 (LC m yv 13 g α a b fs r) K yv z α) (TX K α) := by
  obtain ⟨h, he, v, ⟨⟨hqa, hqb, k, -, hk, rfl, aka⟩, hd, hh⟩, hl, hs, hr, hg, ht⟩ := T
  have ht0 : tvp yv α fs ty := ht.pop (by decide)
  have hka : k ≤ 1499 := by
    obtain ⟨ja, rfl, hja⟩ := hqa
    have := aP_sz h.1.1 h.2.1 k ja hja.1 aka
    have := (h.2.1 ja hja.1).2.1.2
    omega
  unfold f_Red_normalArgument
  rw [show f_Fra_top 3 α = nI k from top3 h v]
  rcases Nat.eq_zero_or_pos k with rfl | hk0
  · rw [if_neg (show ¬ (0 : Int32) ≤ nI 0 - 1 by decide), top2 h v]
    obtain ⟨β, e, g1, g2, g3⟩ := fgive h v b
    rw [e]
    exact tV.ret ⟨g1, g2, SI2.give h g1 g2.2.2 g3 hs (hqb.g g2.2.2) (ht0.g g2.2.2) (fun l => ⟨lev.w h g1 g2 fs l.2.2.2.1, FP.g h.1.1 h.2.1 g2.2.2 l.2.2.1.2⟩)⟩
  · have ek : nI k - 1 = nI (k - 1) := pk_sub (a := k) (b := 1) hk0
    rw [ek, if_pos (show (0 : Int32) ≤ nI (k - 1) from nI_le (a := 0) (Nat.zero_le _) (by omega))]
    obtain ⟨β, e, g1, g2, g3⟩ := set3 h v (nI (k - 1))
    rw [e]
    obtain ⟨γ, e1, y1, y2, y3⟩ := set0 g1 g3 14
    rw [e1, top1 y1 y3, fromLast_ok (N := N) (by omega) (by omega), obs]
    have w := g2.tr y2
    have qa := hqa.g w.2.2
    have qb := hqb.g w.2.2
    have aka' : aP γ (k - 1 + 1) a := by rw [show k - 1 + 1 = k by omega]; exact aP_g h.1.1 h.2.1 y1.1.1 w.2.2 k hqa aka
    refine normalW h y1 w y3 (n' := 14) (fromLast_vP y1.1.1 y1.2.1 qa aka') hd hh (by decide) (by decide) (fun δ hg hδ => ⟨⟨qa.g hg, qb.g hg, k - 1, Nat.zero_le _, by omega, rfl, aP_g y1.1.1 y1.2.1 hδ.1.1 hg _ qa (aP_le _ _ aka' (by omega))⟩, hd, hh, one0⟩) hl (fun _ _ _ => hs) ((ht0.g w.2.2).push (by decide)) (fun l => ?_)
    obtain ⟨fa, fb⟩ : FP α (vc fs) a ∧ FP α (vc fs) b := l.2.2.1
    refine ⟨lev_c (n := 14) (by decide) rfl ⟨fa.g h.1.1 h.2.1 w.2.2, fb.g h.1.1 h.2.1 w.2.2⟩ (lev.w h y1 w fs l.2.2.2.1), ?_⟩
    rw [(vc_p (n := 14) (by decide)).1]
    exact FP_from y1.1.1 y1.2.1 aka' (fa.g h.1.1 h.2.1 w.2.2)
theorem normalApply_ok (hN : 2 ^ 31 ≤ N) (T : Top K c m yv z 14 α a b t dd fs ty r g) : tV (f_Red_normalApply N α) (TI2 (LC m yv 14 g α a b fs r) K yv z α) (TX K α) := by
  obtain ⟨h, he, v, ⟨⟨hqa, hqb, har⟩, hd, hh, hg1⟩, hl, hs, hr, hg, ht⟩ := T
  have hqr := hr hg1
  have ht0 : tvp yv α fs ty := ht.pop (by decide)
  unfold f_Red_normalApply
  rw [show f_Fra_result α = r from v.2.2, top2 h v]
  refine mk_lv (k' := 5) (by omega) h (by decide) (by decide) hqb hqr v (fun y δ y1 y2 y3 y4 y5 => ?_) (fun δ q1 q2 => ⟨q1, q2⟩)
  obtain ⟨β, e, g1, g2, g3⟩ := set2 y1 y3 y
  rw [e]
  obtain ⟨γ, e1, x1, x2, x3⟩ := set0 g1 g3 13
  rw [e1]
  have w := (y2.tr g2).tr x2
  refine tV.ret ⟨x1, w, SI2.top (n := 13) (g := 0) h x1 w.2.2 x3 (by decide) ⟨⟨hqa.g w.2.2, y4.g (g2.tr x2).2.2, har.g h.1.1 h.2.1 x1.1.1 w.2.2 hqa⟩, hd, hh⟩ hl hs (fun q => absurd q (by decide)) (by decide) ((ht0.g w.2.2).push (by decide)) (fun l => ⟨?_, fun q => absurd rfl q⟩)⟩
  obtain ⟨fa, fb⟩ : FP α (vc fs) a ∧ FP α (vc fs) b := l.2.2.1
  have fr : FP α (vc fs) r := l.2.2.2.2 hg1
  exact lev_c (n := 13) (by decide) rfl ⟨fa.g h.1.1 h.2.1 w.2.2, (y5 _ fb fr).g y1.1.1 y1.2.1 (g2.tr x2).2.2⟩ (lev.w h x1 w fs l.2.2.2.1)
end NORMAL
