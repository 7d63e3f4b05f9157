-- CONV: its turns
section WITHIN
variable {N K dd : Nat} {β : kS} {o a b t r : Int32} {fs : List F5} {ty : List Int32}
theorem cw_ok (h : tT K β) (v : vw β ((o, a, b, t, nI dd) :: fs) ty r) (hl : fs.length + 1 < 512) (x y : Int32) : ∃ γ, f_Red_convWithin N x y β = some (some none, γ) ∧ tT K γ ∧ wk β γ ∧ vw γ ((3, x, y, 0, nI (dd + 1)) :: (o, a, b, t, nI dd) :: fs) ty r := by
  obtain ⟨γ, e, g1, g2, g3⟩ := fpush (N := N) h v hl 3 x y (nI (dd + 1))
  refine ⟨γ, ?_, g1, g2, g3⟩
  unfold f_Red_convWithin
  rw [top4 h v, nI_1, e]
  rfl
theorem nw_ok (h : tT K β) (v : vw β ((o, a, b, t, nI dd) :: fs) ty r) (hl : fs.length + 1 < 512) (x : Int32) : ∃ γ, f_Red_normalWithin N x β = some (some none, γ) ∧ tT K γ ∧ wk β γ ∧ vw γ ((9, x, 0, 0, nI (dd + 1)) :: (o, a, b, t, nI dd) :: fs) ty r := by
  obtain ⟨γ, e, g1, g2, g3⟩ := fpush (N := N) h v hl 9 x 0 (nI (dd + 1))
  refine ⟨γ, ?_, g1, g2, g3⟩
  unfold f_Red_normalWithin
  rw [top4 h v, nI_1, e]
  rfl
/-- a new VARIABLE as a TERM -/
theorem var_ok {f : F5} (hN : 524288 < N) (h : tT K β) (v : vw β (f :: fs) ty r) (hl : ty.length < 1024) (x : Int32) {k : Int32 → kS → Option (kO × kS)} {P X : kS → Prop} (hk : ∀ j γ, tT K γ → wk β γ → vw γ (f :: fs) (ty ++ [x]) r → qT γ j → nK γ j = 1 → tV (k (nI j) γ) P X) (hX : ∀ γ, tT K γ → wk β γ → X γ) :
    tV (kBi (f_Fra_newVariable N x β) fun y γ => kBi (f_Terms_make N 1 y 0 γ) k) P X := by
  obtain ⟨γ, e, g1, g2, g3⟩ := newvar (N := N) h v hl x
  rw [e, kBi_s]
  refine (mk_f hN g1 (nI ty.length) 0).bv (fun y δ q => ?_) (fun δ q => hX δ q.1 (g2.tr (q.2.mo (by decide) (by decide))))
  obtain ⟨q1, q2, j, rfl, q3, q4, -⟩ := q
  exact hk j δ q1 (g2.tr (q2.mo (by decide) (by decide))) (g3.ch q2 (by decide) (by decide) (by decide)) q3 q4
/-- OPEN and CLOSE and the like give a TERM -/
theorem rw_q {m' : Nat} {p key : Int32} {f : F5} (hN : 16777216 < N) (h : tT K β) (hm : m' ≤ 5) (hp : qP β p) (hkey : m' ≤ 1 → qP β key) (v : vw β (f :: fs) ty r) {k : Int32 → kS → Option (kO × kS)} {P X : kS → Prop} (hk : ∀ x γ, tT K γ → wk β γ → vw γ (f :: fs) ty r → qP γ x → tV (k x γ) P X) (hX : ∀ γ, tT K γ → wk β γ → X γ) :
    tV (kBi (f_Terms_rewrite N (nI m') p key β) k) P X := by
  obtain ⟨j, rfl, hj⟩ := hp
  refine (rewrite_f hN h hm hj.1 hkey).bv (fun y δ q => ?_) (fun δ q => hX δ q.1 (q.2.mo (by decide) (by decide)))
  obtain ⟨q1, q2, i, rfl, q3, q4, -⟩ := q
  exact hk _ δ q1 (q2.mo (by decide) (by decide)) (v.ch q2 (by decide) (by decide) (by decide)) ⟨i, rfl, q3, fun y => hj.2 (q4.mp y)⟩
theorem mk_q {k' : Nat} {p q : Int32} {f : F5} (hN : 524288 < N) (h : tT K β) (hk5 : 5 ≤ k') (hk7 : k' ≤ 7) (hp : qP β p) (hq : qP β q) (v : vw β (f :: fs) ty r) {k : Int32 → kS → Option (kO × kS)} {P X : kS → Prop} (hk : ∀ x γ, tT K γ → wk β γ → vw γ (f :: fs) ty r → qP γ x → tV (k x γ) P X) (hX : ∀ γ, tT K γ → wk β γ → X γ) :
    tV (kBi (f_Terms_make N (nI k') p q β) k) P X := by
  obtain ⟨a, rfl, ha⟩ := hp
  obtain ⟨b, rfl, hb⟩ := hq
  refine (mk_n hN h hk5 hk7 ha hb).bv (fun y δ q => ?_) (fun δ q => hX δ q.1 (q.2.mo (by decide) (by decide)))
  obtain ⟨q1, q2, j, rfl, q3, -⟩ := q
  exact hk _ δ q1 (q2.mo (by decide) (by decide)) (v.ch q2 (by decide) (by decide) (by decide)) ⟨j, rfl, q3⟩
end WITHIN
section CONV
variable {N K c m yv z dd g : Nat} {α : kS} {a b t r : Int32} {fs : List F5} {ty : List Int32}
theorem conv_ok (hN : 2 ^ 31 ≤ N) (T : Top K c m yv z 3 α a b t dd fs ty r g) : tV (f_Red_conv N α) (TI K yv z α) (TX K α) := by
  obtain ⟨h, he, v, ⟨⟨hqa, hqb⟩, hd, hh⟩, hl, hs, hr, hg, ht⟩ := T
  have ht0 : tvp yv α fs ty := ht.pop (by decide)
  unfold f_Red_conv
  refine (charge_ok 1 h).bv (fun β q => ?_) (fun β q => ⟨q.1, q.2.mo (by decide) (by decide)⟩)
  obtain ⟨hβ, q2⟩ := q
  have w : wk α β := q2.mo (by decide) (by decide)
  have vβ := v.ch q2 (by decide) (by decide) (by decide)
  rw [top4 hβ vβ]
  refine tV.ite (fun c1 => ?_) (fun _ => fail_x N 10 hβ w)
  have hd2 : dd ≤ 120 := Nat.not_lt.mp fun y => absurd c1 (nI_ge (a := 120) (b := dd) y (by omega))
  unfold f_Red_conv_j30
  refine tV.ite (fun _ => ?_) (fun _ => ?_)
  · obtain ⟨γ, e, g1, g2, g3⟩ := fpop hβ vβ
    rw [e]
    have w2 := w.tr g2
    exact tV.ret ⟨g1, w2, SI.none h g1 w2.2.2 g3 hs (ht0.g w2.2.2)⟩
  · obtain ⟨γ, e, g1, g2, g3⟩ := set0 hβ vβ 4
    rw [e, top1 g1 g3]
    obtain ⟨δ, e', y1, y2, y3⟩ := fpush (N := N) g1 g3 (by show fs.length + 1 < 512; omega) 1 a 0 0
    rw [e']
    have w2 := (w.tr g2).tr y2
    refine tV.ret ⟨y1, w2, SI.top2 (n := 4) (n1 := 1) (d1 := 0) h y1 w2.2.2 y3 (by decide) ⟨hqa.g w2.2.2, by omega, by omega⟩ (by decide) (by decide) ⟨hqb.g w2.2.2, hd2, hh, one0⟩ hl hs ?_⟩
    exact ((ht0.g w2.2.2).push (n' := 4) (by decide)).push (by decide)
theorem convLeft_ok (hN : 2 ^ 31 ≤ N) (T : Top K c m yv z 4 α a b t dd fs ty r g) : tV (f_Red_convLeft N α) (TI K yv z α) (TX K α) := by
  obtain ⟨h, he, v, ⟨hqb, hd, hh, hg1⟩, hl, hs, hr, hg, ht⟩ := T
  have hqr := hr hg1
  have ht0 : tvp yv α fs ty := ht.pop (by decide)
  unfold f_Red_convLeft
  rw [show f_Fra_result α = r from v.2.2]
  obtain ⟨β, e, g1, g2, g3⟩ := set1 h v r
  rw [e]
  obtain ⟨γ, e', y1, y2, y3⟩ := set0 g1 g3 5
  rw [e', top2 y1 y3]
  obtain ⟨δ, e2, x1, x2, x3⟩ := fpush (N := N) y1 y3 (by show fs.length + 1 < 512; omega) 1 b 0 0
  show tV (kBv (f_Fra_push N 1 b 0 0 γ) _) _ _
  rw [e2]
  have w := (g2.tr y2).tr x2
  refine tV.ret ⟨x1, w, SI.top2 (n := 5) (n1 := 1) (d1 := 0) h x1 w.2.2 x3 (by decide) ⟨hqb.g w.2.2, by omega, by omega⟩ (by decide) (by decide) ⟨hqr.g w.2.2, hd, hh, one0⟩ hl hs ?_⟩
  exact ((ht0.g w.2.2).push (n' := 5) (by decide)).push (by decide)
/-- two TERMS are compared within -/
theorem convW {n' : Nat} {β : kS} {a' b' t' x y : Int32} {ty' : List Int32} (h : tT K α) (hβ : tT K β) (w : wk α β) (v : vw β ((nI n', a', b', t', nI dd) :: fs) ty' r) (hx : qP β x) (hy : qP β y) (hd : dd ≤ 120) (hh : fs.length < 302 + dd) (hn : n' ≤ 31) (hl2 : lv n' ≤ 2) (hf : ∀ γ, grw β γ → tT K γ → fo γ n' dd fs.length 0 a' b' t') (hl : lvs (lv n') fs) (hs : ∀ γ, grw β γ → tT K γ → st α (zs n' z) fs (gv γ n' 0 a')) (ht : tvp yv β ((nI n', a', b', t', nI dd) :: fs) ty') : tV (kBv (f_Red_convWithin N x y β) fun δ => some (some none, δ)) (TI K yv z α) (TX K α) := by
  obtain ⟨γ, e, g1, g2, g3⟩ := cw_ok (N := N) hβ v (by omega) x y
  rw [e]
  have w2 := w.tr g2
  exact tV.ret ⟨g1, w2, SI.top2 (n := n') (n1 := 3) (d1 := dd + 1) h g1 w2.2.2 g3 (by decide) ⟨⟨hx.g g2.2.2, hy.g g2.2.2⟩, by omega, by omega⟩ hl2 hn (hf γ g2.2.2 g1) hl (hs γ g2.2.2 g1) ((ht.g g2.2.2).push (by decide))⟩
theorem convRight_ok (hN : 2 ^ 31 ≤ N) (T : Top K c m yv z 5 α a b t dd fs ty r g) : tV (f_Red_convRight N α) (TI K yv z α) (TX K α) := by
  obtain ⟨h, he, v, ⟨hqa, hd, hh, hg1⟩, hl, hs, hr, hg, ht⟩ := T
  have hqr := hr hg1
  have ht0 : tvp yv α fs ty := ht.pop (by decide)
  have htl : ty.length < 1024 := ht0.len (by omega)
  obtain ⟨β, e, hβ, wβ, vβ⟩ := set2 h v r
  have sβ : sT α β := by rw [← e]; unfold f_Fra_set fR_put; split <;> exact ⟨rfl, rfl⟩
  have qa := hqa.g wβ.2.2
  have qr := hqr.g wβ.2.2
  have htβ := ht0.g wβ.2.2
  unfold f_Red_convRight
  rw [top1 h v, show f_Fra_result α = r from v.2.2, e]
  have heads : tV (kBv (f_Red_convHeads N a r β) fun δ => some (some none, δ)) (TI K yv z α) (TX K α) := by
    refine tV.bv (Pv := TI K yv z α) (Px := TX K α) ?_ (fun β q => tV.ret q) (fun β q => q)
    obtain ⟨k1, eb1, hk1, ak1⟩ := behind_sz (N := N) (by omega) hβ.1.1 hβ.2.1 a
    obtain ⟨k2, eb2, hk2, ak2⟩ := behind_sz (N := N) (by omega) hβ.1.1 hβ.2.1 r
    obtain ⟨p1, ep1, -⟩ := head_ok (N := N) (by omega) hβ.1.1 hβ.2.1 qa
    obtain ⟨p2, ep2, -⟩ := head_ok (N := N) (by omega) hβ.1.1 hβ.2.1 qr
    have j40 : ∀ x, tV (f_Red_convHeads_j40 N x β) (TI K yv z α) (TX K α) := fun x => by
      unfold f_Red_convHeads_j40
      exact fail_x N 4 hβ wβ
    unfold f_Red_convHeads
    rw [eb1]
    show tV ((f_Terms_head N a β).bind _) _ _
    rw [ep1]
    show tV ((f_Terms_head N r β).bind _) _ _
    rw [ep2]
    refine tV.ite (fun _ => ?_) (fun _ => j40 _)
    rw [eb2]
    refine tV.ite (fun ck => ?_) (fun _ => j40 _)
    have ek : k1 = k2 := (nI_eq (by omega) (by omega)).mp ck
    subst ek
    unfold f_Red_convHeads_j48
    obtain ⟨γ, e1, g1, g2, g3⟩ := set0 hβ vβ 8
    rw [e1]
    obtain ⟨δ, e2, y1, y2, y3⟩ := set3 g1 g3 (nI k1)
    rw [e2]
    have w2 := g2.tr y2
    have w3 := wβ.tr w2
    exact tV.ret ⟨y1, w3, SI.top (n := 8) (g := 0) h y1 w3.2.2 y3 (by decide) ⟨⟨qa.g w2.2.2, qr.g w2.2.2, k1, by omega, rfl, aP_g hβ.1.1 hβ.2.1 y1.1.1 w2.2.2 k1 qa ak1, aP_g hβ.1.1 hβ.2.1 y1.1.1 w2.2.2 k1 qr ak2⟩, hd, hh⟩ hl hs (fun q => absurd q (by decide)) (by decide) ((ht0.g w3.2.2).push (by decide))⟩
  have j78 : ∀ k, (k = 6 ∨ k = 7) → f_Terms_kind a α = nI k → f_Terms_kind r α = nI k → tV (f_Red_convRight_j78 N r a β) (TI K yv z α) (TX K α) := by
    intro k hk ka kr
    have ba : bnd β a := bnd.of hβ.1.1 (by rw [sβ.kd, ka]; rcases hk with rfl | rfl; exact Or.inl rfl; exact Or.inr rfl)
    have br : bnd β r := bnd.of hβ.1.1 (by rw [sβ.kd, kr]; rcases hk with rfl | rfl; exact Or.inl rfl; exact Or.inr rfl)
    unfold f_Red_convRight_j78
    obtain ⟨γ, e1, g1, g2, g3⟩ := set0 hβ vβ 6
    rw [e1]
    have ba' := ba.g g2.2.2
    have br' := br.g g2.2.2
    exact convW h g1 (wβ.tr g2) g3 (n' := 6) (ba'.q g1.1.1 g1.2.1).2.1 (br'.q g1.1.1 g1.2.1).2.1 hd hh (by decide) (by decide) (fun δ hg _ => ⟨⟨ba'.g hg, br'.g hg⟩, hd, hh⟩) hl (fun _ _ _ => hs) ((htβ.g g2.2.2).push (by decide))
  have j199 : ∀ y4 y3, y4 = f_Terms_kind r α → tV (f_Red_convRight_j199 N y4 y3 r a β) (TI K yv z α) (TX K α) := by
    intro y4 y3 e4
    unfold f_Red_convRight_j199
    refine tV.ite (fun c7 => ?_) (fun _ => heads)
    have br : bnd β r := bnd.of hβ.1.1 (Or.inr (by rw [sβ.kd, ← e4, c7]; rfl))
    refine tV.ite (fun _ => heads) (fun _ => tV.ite (fun _ => heads) (fun _ => ?_))
    refine var_ok (by omega) hβ vβ htl (-1) (fun j γ g1 g2 g3 g4 g5 => ?_) (fun γ q1 q2 => ⟨q1, wβ.tr q2⟩)
    refine rw_q (m' := 0) (by omega) g1 (by decide) ((br.g g2.2.2).q g1.1.1 g1.2.1).2.2 (fun _ => ⟨j, rfl, g4⟩) g3 (fun x δ d1 d2 d3 d4 => ?_) (fun δ q1 q2 => ⟨q1, (wβ.tr g2).tr q2⟩)
    obtain ⟨ε, e1, i1, i2, i3⟩ := set0 d1 d3 7
    rw [e1]
    have w1 := (wβ.tr g2).tr (d2.tr i2)
    refine mk_q (k' := 5) (by omega) i1 (by decide) (by decide) (qa.g (g2.tr (d2.tr i2)).2.2) ⟨j, rfl, g4.g (d2.tr i2).2.2⟩ i3 (fun y ζ y1 y2 y3 y4 => ?_) (fun δ q1 q2 => ⟨q1, w1.tr q2⟩)
    exact convW h y1 (w1.tr y2) y3 (n' := 7) y4 (d4.g (i2.tr y2).2.2) hd hh (by decide) (by decide) (fun _ _ _ => ⟨hd, hh⟩) hl (fun _ _ _ => hs) (((htβ.push (n' := 5) (x' := (a, r, t, nI dd)) (by decide)).newc (n' := 7) (by decide) (Or.inl rfl)).g (g2.tr ((d2.tr i2).tr y2)).2.2)
  have j111 : ∀ y4 y3, y4 = f_Terms_kind r α → y3 = f_Terms_kind a α → tV (f_Red_convRight_j111 N y4 y3 r a β) (TI K yv z α) (TX K α) := by
    intro y4 y3 e4 e3
    unfold f_Red_convRight_j111
    refine tV.ite (fun c7 => ?_) (fun _ => j199 _ _ e4)
    have ba : bnd β a := bnd.of hβ.1.1 (Or.inr (by rw [sβ.kd, ← e3, c7]; rfl))
    refine tV.ite (fun _ => j199 _ _ e4) (fun _ => tV.ite (fun _ => j199 _ _ e4) (fun _ => ?_))
    refine var_ok (by omega) hβ vβ htl (-1) (fun j γ g1 g2 g3 g4 g5 => ?_) (fun γ q1 q2 => ⟨q1, wβ.tr q2⟩)
    refine rw_q (m' := 0) (by omega) g1 (by decide) ((ba.g g2.2.2).q g1.1.1 g1.2.1).2.2 (fun _ => ⟨j, rfl, g4⟩) g3 (fun x δ d1 d2 d3 d4 => ?_) (fun δ q1 q2 => ⟨q1, (wβ.tr g2).tr q2⟩)
    obtain ⟨ε, e1, i1, i2, i3⟩ := set0 d1 d3 7
    rw [e1]
    have w1 := (wβ.tr g2).tr (d2.tr i2)
    refine mk_q (k' := 5) (by omega) i1 (by decide) (by decide) (qr.g (g2.tr (d2.tr i2)).2.2) ⟨j, rfl, g4.g (d2.tr i2).2.2⟩ i3 (fun y ζ y1 y2 y3 y4 => ?_) (fun δ q1 q2 => ⟨q1, w1.tr q2⟩)
    exact convW h y1 (w1.tr y2) y3 (n' := 7) (d4.g (i2.tr y2).2.2) y4 hd hh (by decide) (by decide) (fun _ _ _ => ⟨hd, hh⟩) hl (fun _ _ _ => hs) (((htβ.push (n' := 5) (x' := (a, r, t, nI dd)) (by decide)).newc (n' := 7) (by decide) (Or.inl rfl)).g (g2.tr ((d2.tr i2).tr y2)).2.2)
  refine tV.ite (fun _ => ?_) (fun _ => tV.ite (fun ck => ?_) (fun _ => j111 _ _ rfl rfl))
  · obtain ⟨γ, e1, g1, g2, g3⟩ := fpop hβ vβ
    rw [e1]
    have w2 := wβ.tr g2
    exact tV.ret ⟨g1, w2, SI.none h g1 w2.2.2 g3 hs (ht0.g w2.2.2)⟩
  · refine tV.ite (fun c6 => j78 6 (Or.inl rfl) c6 (ck.symm.trans c6)) (fun _ => tV.ite (fun c7 => j78 7 (Or.inr rfl) c7 (ck.symm.trans c7)) (fun _ => j111 _ _ rfl rfl))
theorem convBodies_ok (hN : 2 ^ 31 ≤ N) (T : Top K c m yv z 6 α a b t dd fs ty r g) : tV (f_Red_convBodies N α) (TI K yv z α) (TX K α) := by
  obtain ⟨h, he, v, ⟨⟨ba, bb⟩, hd, hh⟩, hl, hs, hr, hg, ht⟩ := T
  have ht0 : tvp yv α fs ty := ht.pop (by decide)
  unfold f_Red_convBodies
  rw [top1 h v, top2 h v]
  refine var_ok (by omega) h v (ht0.len (by omega)) (-1) (fun j γ g1 g2 g3 g4 g5 => ?_) (fun γ q1 q2 => ⟨q1, q2⟩)
  refine rw_q (m' := 0) (by omega) g1 (by decide) ((ba.g g2.2.2).q g1.1.1 g1.2.1).2.2 (fun _ => ⟨j, rfl, g4⟩) g3 (fun x δ d1 d2 d3 d4 => ?_) (fun δ q1 q2 => ⟨q1, g2.tr q2⟩)
  have w1 := g2.tr d2
  refine rw_q (m' := 0) (by omega) d1 (by decide) ((bb.g w1.2.2).q d1.1.1 d1.2.1).2.2 (fun _ => ⟨j, rfl, g4.g d2.2.2⟩) d3 (fun y ε e1 e2 e3 e4 => ?_) (fun δ q1 q2 => ⟨q1, w1.tr q2⟩)
  obtain ⟨ζ, ee, i1, i2, i3⟩ := set0 e1 e3 7
  rw [ee]
  have w2 := (w1.tr e2).tr i2
  exact convW h i1 w2 i3 (n' := 7) (d4.g (e2.tr i2).2.2) (e4.g i2.2.2) hd hh (by decide) (by decide) (fun _ _ _ => ⟨hd, hh⟩) hl (fun _ _ _ => hs) ((ht.newc (n' := 7) (by decide) (Or.inl rfl)).g w2.2.2)
theorem convLeave_ok (T : Top K c m yv z 7 α a b t dd fs ty r g) : TI K yv z α (f_Red_convLeave α) := by
  obtain ⟨h, he, v, ⟨hd, hh⟩, hl, hs, hr, hg, ht⟩ := T
  unfold f_Red_convLeave
  obtain ⟨β, e, g1, g2, g3⟩ := dropvar h v
  rw [e]
  obtain ⟨γ, e', y1, y2, y3⟩ := fpop g1 g3
  show TI K yv z α (f_Fra_pop β)
  rw [e']
  have w := g2.tr y2
  exact ⟨y1, w, SI.none h y1 w.2.2 y3 hs ((ht.dropc (Or.inl rfl)).g w.2.2)⟩
theorem convArgs_ok (hN : 2 ^ 31 ≤ N) (T : Top K c m yv z 8 α a b t dd fs ty r g) : tV (f_Red_convArguments N α) (TI K yv z α) (TX K α) := by
  obtain ⟨h, he, v, ⟨⟨hqa, hqb, k, hk, rfl, aka, akb⟩, hd, hh⟩, hl, hs, hr, hg, ht⟩ := T
  have ht0 : tvp yv α fs ty := ht.pop (by decide)
  have hs0 : st α z fs 0 := hs
  have hka : k ≤ 1499 := by
    obtain ⟨ja, rfl, hja⟩ := hqa
    have := aP_sz h.1.1 h.2.1 k ja hja.1 aka
    have := (h.2.1 ja hja.1).2.1.2
    omega
  unfold f_Red_convArguments
  rw [show f_Fra_top 3 α = nI k from top3 h v]
  rcases Nat.eq_zero_or_pos k with rfl | hk0
  · rw [if_neg (show ¬ (0 : Int32) ≤ nI 0 - 1 by decide)]
    obtain ⟨β, e, g1, g2, g3⟩ := fpop h v
    rw [e]
    exact tV.ret ⟨g1, g2, SI.none h g1 g2.2.2 g3 hs (ht0.g g2.2.2)⟩
  · have ek : nI k - 1 = nI (k - 1) := pk_sub (a := k) (b := 1) hk0
    rw [ek, if_pos (show (0 : Int32) ≤ nI (k - 1) from nI_le (a := 0) (Nat.zero_le _) (by omega))]
    obtain ⟨β, e, g1, g2, g3⟩ := set3 h v (nI (k - 1))
    rw [e, top1 g1 g3, top2 g1 g3, fromLast_ok (N := N) (by omega) (by omega), obs]
    have aka' : aP β (k - 1 + 1) a := by rw [show k - 1 + 1 = k by omega]; exact aP_g h.1.1 h.2.1 g1.1.1 g2.2.2 k hqa aka
    have akb' : aP β (k - 1 + 1) b := by rw [show k - 1 + 1 = k by omega]; exact aP_g h.1.1 h.2.1 g1.1.1 g2.2.2 k hqb akb
    have qa := hqa.g g2.2.2
    have qb := hqb.g g2.2.2
    rw [fromLast_ok (N := N) (by omega) (by omega), obs]
    exact convW h g1 g2 g3 (n' := 8) (fromLast_vP g1.1.1 g1.2.1 qa aka') (fromLast_vP g1.1.1 g1.2.1 qb akb') hd hh (by decide) (by decide) (fun γ hg hγ => ⟨⟨qa.g hg, qb.g hg, k - 1, by omega, rfl, aP_g g1.1.1 g1.2.1 hγ.1.1 hg _ qa (aP_le _ _ aka' (by omega)), aP_g g1.1.1 g1.2.1 hγ.1.1 hg _ qb (aP_le _ _ akb' (by omega))⟩, hd, hh⟩) hl (fun _ _ _ => hs0) ((ht0.g g2.2.2).push (by decide))
end CONV
