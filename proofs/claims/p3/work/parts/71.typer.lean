-- INFER, SORTOF, CHECK: their turns
theorem head_leaf {N : Nat} {α : kS} {p : Int32} (hN : 0 < N) (hk : f_Terms_kind p α ≠ 5) : f_Terms_head N p α = some p := by
  obtain ⟨n, rfl⟩ : ∃ n', N = n' + 1 := ⟨N - 1, by omega⟩
  show f_Terms_head_4 (n + 1) α (n + 1) 0 p = _
  rw [f_Terms_head_4, if_neg (by decide), if_neg hk]
theorem behind_s1 {N : Nat} {α : kS} {p : Int32} (hN : 3000 < N) (hO : kOk α) (hW : tWf α) (hk : f_Terms_kind p α = 5) : ∃ b, f_Terms_behind N p α = some (nI b) ∧ 1 ≤ b ∧ b ≤ 1499 ∧ aP α b p := by
  obtain ⟨b, e, h1, h2, h3⟩ := behind_go (N := N) (α := α) 3000 0 N p (by omega) hN
  rw [Nat.zero_add] at e h1 h3
  obtain ⟨j, rfl, hj⟩ := kin hO (p := p) (by rw [hk]; decide)
  have h4 := aP_sz hO hW b j hj h2
  have h5 := (hW j hj).2.1.2
  refine ⟨b, e, ?_, by omega, h2⟩
  rcases Nat.eq_zero_or_pos b with rfl | z
  · exact absurd hk (h3 (by omega))
  · exact z
theorem gv15 {β : kS} {x : Int32} : gv β 15 0 x ≠ 0 := by
  show (if _ then 2 else 1) ≠ 0
  split <;> decide
theorem typeOf_q {K yv : Nat} {α : kS} {fs : List F5} {ty : List Int32} {r : Int32} (h : tT K α) (v : vw α fs ty r) (ht : tvp yv α fs ty) (h0 : vc1 fs = 0) (htn : 0 < tn α) (x : Int32) : qP α (f_Fra_typeOf x α) := by
  have z0 : qP α 0 := ⟨0, rfl, zero_leaf h.2.1 htn⟩
  unfold f_Fra_typeOf
  by_cases hx : x < 0
  · unfold fR_at
    rw [if_pos (Or.inl hx)]
    exact z0
  · obtain ⟨j, hj, rfl⟩ := nI_of hx
    rw [at_e h (by decide) hj, v.2.1]
    rcases Nat.lt_or_ge j ty.length with q | q
    · exact ht.2.2 j (by omega)
    · rw [List.getD_eq_getElem?_getD, List.getElem?_eq_none q]
      exact z0
section TYPER
variable {N K c m yv z dd g : Nat} {α : kS} {a b t r : Int32} {fs : List F5} {ty : List Int32}
theorem sortW {n' : Nat} {β : kS} {o a' b' t' x : Int32} {ty' : List Int32} (h : tT K α) (hβ : tT K β) (w : wk α β) (v : vw β ((o, a', b', t', nI dd) :: fs) ty' r) (hx : qP β x) (hd : dd ≤ 150) (hh : fs.length < 2 * dd + 1) (hn : n' ≤ 31) (hl1 : lv n' ≤ 1) (hf : ∀ γ, grw β γ → tT K γ → fo γ n' dd fs.length 0 a' b' t') (hl : lvs (lv n') fs) (hs : ∀ γ, grw β γ → tT K γ → st α (zs n' z) fs (gv γ n' 0 a')) (ht : tvp yv β ((nI n', a', b', t', nI dd) :: fs) ty') : tV (kBv (f_Typ_sortWithin N (nI n') x β) fun δ => some (some none, δ)) (TI K yv z α) (TX K α) := by
  obtain ⟨γ, e, g1, g2, g3⟩ := set0 hβ v (nI n')
  obtain ⟨δ, e2, y1, y2, y3⟩ := fpush (N := N) g1 g3 (by show fs.length + 1 < 512; omega) 25 0 0 0
  obtain ⟨ε, e3, x1, x2, x3⟩ := fpush (N := N) y1 y3 (by show fs.length + 1 + 1 < 512; omega) 15 x 0 (nI (dd + 1))
  have ee : f_Typ_sortWithin N (nI n') x β = some (some none, ε) := by
    unfold f_Typ_sortWithin
    rw [top4 hβ v, e, e2, nI_1]
    rw [kBv_s, e3]
    rfl
  rw [ee]
  have w1 := (g2.tr y2).tr x2
  have w2 := w.tr w1
  exact tV.ret ⟨x1, w2, SI.top3 (n := n') (n1 := 25) (n2 := 15) (d1 := 0) (d2 := dd + 1) h x1 w2.2.2 x3 (by decide) ⟨hx.g w1.2.2, by omega, by omega⟩ (by decide) (by decide) ⟨by omega, gv15⟩ hl1 hn (hf ε w1.2.2 x1) hl (hs ε w1.2.2 x1) (((ht.g w1.2.2).push (n' := 25) (by decide)).push (by decide))⟩
theorem checkW {n' : Nat} {β : kS} {o a' b' t' x y : Int32} {ty' : List Int32} (h : tT K α) (hβ : tT K β) (w : wk α β) (v : vw β ((o, a', b', t', nI dd) :: fs) ty' r) (hx : qP β x) (hy : qP β y) (hd : dd ≤ 150) (hh : fs.length < 2 * dd + 1) (hn : n' ≤ 31) (hl1 : lv n' ≤ 1) (hf : ∀ γ, grw β γ → tT K γ → fo γ n' dd fs.length 0 a' b' t') (hl : lvs (lv n') fs) (hs : ∀ γ, grw β γ → tT K γ → st α (zs n' z) fs (gv γ n' 0 a')) (ht : tvp yv β ((nI n', a', b', t', nI dd) :: fs) ty') : tV (kBv (f_Typ_checkWithin N (nI n') x y β) fun δ => some (some none, δ)) (TI K yv z α) (TX K α) := by
  obtain ⟨γ, e, g1, g2, g3⟩ := set0 hβ v (nI n')
  obtain ⟨δ, e2, y1, y2, y3⟩ := fpush (N := N) g1 g3 (by show fs.length + 1 < 512; omega) 27 y 0 0
  obtain ⟨ε, e3, x1, x2, x3⟩ := fpush (N := N) y1 y3 (by show fs.length + 1 + 1 < 512; omega) 15 x 0 (nI (dd + 1))
  have ee : f_Typ_checkWithin N (nI n') x y β = some (some none, ε) := by
    unfold f_Typ_checkWithin
    rw [top4 hβ v, e, e2, nI_1]
    rw [kBv_s, e3]
    rfl
  rw [ee]
  have w1 := (g2.tr y2).tr x2
  have w2 := w.tr w1
  exact tV.ret ⟨x1, w2, SI.top3 (n := n') (n1 := 27) (n2 := 15) (d1 := 0) (d2 := dd + 1) h x1 w2.2.2 x3 (by decide) ⟨hx.g w1.2.2, by omega, by omega⟩ (by decide) (by decide) ⟨hy.g w1.2.2, by omega, gv15⟩ hl1 hn (hf ε w1.2.2 x1) hl (hs ε w1.2.2 x1) (((ht.g w1.2.2).push (n' := 27) (by decide)).push (by decide))⟩
theorem inferW {n' : Nat} {β : kS} {a' b' t' x : Int32} {ty' : List Int32} (h : tT K α) (hβ : tT K β) (w : wk α β) (v : vw β ((nI n', a', b', t', nI dd) :: fs) ty' r) (hx : qP β x) (hd : dd ≤ 150) (hh : fs.length < 2 * dd + 1) (hn : n' ≤ 31) (hl1 : lv n' ≤ 1) (hf : ∀ γ, grw β γ → tT K γ → fo γ n' dd fs.length (gv γ 15 0 x) a' b' t') (hl : lvs (lv n') fs) (hs : ∀ γ, grw β γ → tT K γ → st α (zs n' z) fs (gv γ n' (gv γ 15 0 x) a')) (ht : tvp yv β ((nI n', a', b', t', nI dd) :: fs) ty') : tV (kBv (f_Typ_inferWithin N x β) fun δ => some (some none, δ)) (TI K yv z α) (TX K α) := by
  obtain ⟨ε, e3, x1, x2, x3⟩ := fpush (N := N) hβ v (by show fs.length + 1 < 512; omega) 15 x 0 (nI (dd + 1))
  have ee : f_Typ_inferWithin N x β = some (some none, ε) := by
    unfold f_Typ_inferWithin
    rw [top4 hβ v, nI_1, e3]
    rfl
  rw [ee]
  have w2 := w.tr x2
  exact tV.ret ⟨x1, w2, SI.top2 (n := n') (n1 := 15) (d1 := dd + 1) h x1 w2.2.2 x3 (by decide) ⟨hx.g x2.2.2, by omega, by omega⟩ hl1 hn (hf ε x2.2.2 x1) hl (hs ε x2.2.2 x1) ((ht.g x2.2.2).push (by decide))⟩
/-- a leaf is made and given -/
theorem sortGive {β : kS} {f : F5} {x : Int32} {ty' : List Int32} (hN : 524288 < N) (h : tT K α) (hβ : tT K β) (w : wk α β) (v : vw β (f :: fs) ty' r) (hs : st α z fs 1) (ht : tvp yv β fs ty') : tV (kBi (f_Terms_make N 2 x 0 β) fun y γ => some (some none, f_Fra_give y γ)) (TI K yv z α) (TX K α) := by
  refine (mk_l (k := 2) hN hβ (by decide) x 0 (fun y => by omega)).bv (fun y δ q => ?_) (fun δ q => ⟨q.1, w.tr (q.2.mo (by decide) (by decide))⟩)
  obtain ⟨q1, q2, j, rfl, q3, q4, -⟩ := q
  have w1 : wk α δ := w.tr (q2.mo (by decide) (by decide))
  obtain ⟨γ, e, g1, g2, g3⟩ := fgive q1 (v.ch q2 (by decide) (by decide) (by decide)) (nI j)
  rw [e]
  have w2 := w1.tr g2
  have w3 : grw β γ := q2.2.2.tr g2.2.2
  exact tV.ret ⟨g1, w2, SI.give h g1 w2.2.2 g3 hs ⟨j, rfl, q3.g g2.2.2⟩ (ht.g w3)⟩
theorem infer_ok (hN : 2 ^ 31 ≤ N) (T : Top K c m yv z 15 α a b t dd fs ty r g) : tV (f_Typ_infer N α) (TI K yv z α) (TX K α) := by
  obtain ⟨h, he, v, ⟨hqa, hd, hh⟩, hl, hs, hr, hg, ht⟩ := T
  have hO := h.1.1
  have hW := h.2.1
  have ht0 : tvp yv α fs ty := ht.pop (by decide)
  have h0 : vc1 fs = 0 := vc1_0 fs hs hl
  have hKc := he.2.2.1
  unfold f_Typ_infer
  rw [top4 h v]
  refine tV.ite (fun c1 => ?_) (fun _ => fail_x N 10 h ch.rf)
  have hd2 : dd ≤ 150 := Nat.not_lt.mp fun y => absurd c1 (nI_ge (a := 150) (b := dd) y (by omega))
  obtain ⟨j, ej, hj⟩ := id hqa
  have kj : f_Terms_kind a α = nI (nK α j) := by rw [ej]; exact kd_at hO hj.1
  have hs1 : f_Terms_kind a α ≠ 0 → st α z fs 1 := fun y => by
    have e : gv α 15 g a = 1 := if_neg y
    rw [← e]
    exact hs
  have gvx : ∀ p, qP α p → f_Terms_kind a α ≠ 0 → tV (some (some none, f_Fra_give p α)) (TI K yv z α) (TX K α) := by
    intro p hp hk
    obtain ⟨β, e, g1, g2, g3⟩ := fgive h v p
    rw [e]
    exact tV.ret ⟨g1, g2, SI.give h g1 g2.2.2 g3 (hs1 hk) (hp.g g2.2.2) (ht0.g g2.2.2)⟩
  have j228 : f_Terms_kind a α = 5 ∨ f_Terms_kind a α = 0 → tV (f_Typ_infer_j228 N a α) (TI K yv z α) (TX K α) := by
    intro hk
    unfold f_Typ_infer_j228
    obtain ⟨β, e, g1, g2, g3⟩ := set0 h v 22
    rw [e]
    have kβ : f_Terms_kind a β = f_Terms_kind a α := by rw [ej]; exact kd_g hO g1.1.1 g2.2.2 hj.1
    have qa := hqa.g g2.2.2
    have hb : ∃ k, f_Terms_behind N a β = some (nI k) ∧ k ≤ 1499 ∧ aP β k a ∧ (f_Terms_kind a α = 5 → 1 ≤ k) := by
      rcases hk with hk | hk
      · obtain ⟨k, x1, x2, x3, x4⟩ := behind_s1 (N := N) (by omega) g1.1.1 g1.2.1 (p := a) (by rw [kβ]; exact hk)
        exact ⟨k, x1, x3, x4, fun _ => x2⟩
      · obtain ⟨k, x1, x3, x4⟩ := behind_sz (N := N) (by omega) g1.1.1 g1.2.1 a
        exact ⟨k, x1, x3, x4, fun y => by rw [hk] at y; exact absurd y (by decide)⟩
    obtain ⟨k, eb, hk1, ak, hk2⟩ := hb
    rw [eb, obs]
    obtain ⟨γ, e2, y1, y2, y3⟩ := set3 g1 g3 (nI k)
    rw [e2]
    have kγ : f_Terms_kind a γ = f_Terms_kind a α := by rw [ej]; exact kd_g hO y1.1.1 (g2.tr y2).2.2 hj.1
    obtain ⟨p, eh, qh⟩ := head_ok (N := N) (by omega) y1.1.1 y1.2.1 (qa.g y2.2.2)
    rw [eh, obs]
    have w := g2.tr y2
    have gvv : ∀ δ, grw γ δ → tT K δ → ∀ g', gv δ 22 g' a = gv α 15 g a := by
      intro δ hg hδ g'
      show (if f_Terms_kind a δ = 0 then 2 else 1) = (if f_Terms_kind a α = 0 then 2 else 1)
      rw [show f_Terms_kind a δ = f_Terms_kind a α by rw [ej]; exact kd_g hO hδ.1.1 (w.2.2.tr hg) hj.1]
    refine inferW h y1 w y3 (n' := 22) qh hd2 hh (by decide) (by decide) (fun δ hg hδ => ?_) hl (fun δ hg hδ => by rw [gvv δ hg hδ]; exact hs) ((ht0.g w.2.2).push (by decide))
    refine ⟨⟨(qa.g y2.2.2).g hg, ?_⟩, hd2, hh⟩
    rcases hk with hk | hk
    · exact Or.inr ⟨gv15, k, hk2 hk, by omega, rfl, aP_g g1.1.1 g1.2.1 hδ.1.1 (y2.2.2.tr hg) k qa ak⟩
    · have ep : p = a := by
        rw [head_leaf (N := N) (by omega) (by rw [kγ, hk]; decide)] at eh
        exact (Option.some.inj eh).symm
      subst ep
      have kδ : f_Terms_kind p δ = 0 := by rw [ej, kd_g hO hδ.1.1 (w.2.2.tr hg) hj.1, ← ej]; exact hk
      exact Or.inl ⟨kδ, if_pos kδ⟩
  have sw : ∀ n' k, (n' = 16 ∧ k = 6 ∨ n' = 18 ∧ k = 7 ∨ n' = 20 ∧ k = 8) → f_Terms_kind a α = nI k → tV (kBv (f_Typ_sortWithin N (nI n') (f_Terms_left a α) α) fun δ => some (some none, δ)) (TI K yv z α) (TX K α) := by
    intro n' k hn hk
    have ka : knd α k a := knd.of hO (by omega) (by omega) hk
    have hne : f_Terms_kind a α ≠ 0 := by rw [hk]; exact nI_ne (m := 0) (by omega) (by omega) (by omega)
    have ql := (part_q hO hW (k := k) (by omega) (by omega) hk).1
    rcases hn with ⟨rfl, rfl⟩ | ⟨rfl, rfl⟩ | ⟨rfl, rfl⟩
    · exact sortW h h ch.rf v (n' := 16) ql hd2 hh (by decide) (by decide) (fun δ hg _ => ⟨ka.g hg, hd2, hh⟩) hl (fun _ _ _ => hs1 hne) (ht.op (by decide) (by decide))
    · exact sortW h h ch.rf v (n' := 18) ql hd2 hh (by decide) (by decide) (fun δ hg _ => ⟨ka.g hg, hd2, hh⟩) hl (fun _ _ _ => hs1 hne) (ht.op (by decide) (by decide))
    · exact sortW h h ch.rf v (n' := 20) ql hd2 hh (by decide) (by decide) (fun δ hg _ => ⟨ka.g hg, hd2, hh⟩) hl (fun _ _ _ => hs1 hne) (ht.op (by decide) (by decide))
  unfold f_Typ_infer_j23
  rw [top1 h v]
  refine tV.ite (fun k1 => ?_) (fun n1 => tV.ite (fun k2 => ?_) (fun n2 => tV.ite (fun k3 => ?_) (fun n3 => tV.ite (fun k4 => ?_) (fun n4 => tV.ite (fun k5 => j228 (Or.inl k5)) (fun n5 => tV.ite (fun k6 => sw 16 6 (Or.inl ⟨rfl, rfl⟩) k6) (fun n6 => tV.ite (fun k7 => sw 18 7 (Or.inr (Or.inl ⟨rfl, rfl⟩)) k7) (fun n7 => tV.ite (fun k8 => sw 20 8 (Or.inr (Or.inr ⟨rfl, rfl⟩)) k8) (fun n8 => ?_))))))))
  · exact gvx _ (typeOf_q h v ht (by rw [(vc_p (by decide)).2]; exact h0) (by have := hj.1; omega) _) (by rw [k1]; decide)
  · refine tV.bv (Pv := TI K yv z α) (Px := TX K α) ?_ (fun β q => tV.ret q) (fun β q => q)
    unfold f_Typ_inferSort
    refine tV.ite (fun _ => ?_) (fun _ => fail_x N 7 h ch.rf)
    unfold f_Typ_inferSort_j15
    exact sortGive (by omega) h h ch.rf v (hs1 (by rw [k2]; decide)) ht0
  · rw [ej] at k3 ⊢
    obtain ⟨k, ek, hk⟩ := const_v h hj.1 (Or.inl (kd_is hO hj.1 (k := 3) (by decide) k3))
    rw [ek]
    exact gvx _ (type_v h he hk) (by rw [ej, k3]; decide)
  · refine tV.bv (Pv := TI K yv z α) (Px := TX K α) ?_ (fun β q => tV.ret q) (fun β q => q)
    have hne : f_Terms_kind a α ≠ 0 := by rw [k4]; decide
    rw [ej] at k4 ⊢
    obtain ⟨k, ek, hk⟩ := const_v h hj.1 (Or.inr (kd_is hO hj.1 (k := 4) (by decide) k4))
    rw [ek]
    unfold f_Typ_inferRecursor
    refine tV.ite (fun _ => fail_x N 9 h ch.rf) (fun _ => ?_)
    unfold f_Typ_inferRecursor_j21
    have qe := elim_v h he (k := k) (by omega) (by have := hj.1; omega)
    refine (charge_ok _ h).bv (fun β q => ?_) (fun β q => ⟨q.1, q.2.mo (by decide) (by decide)⟩)
    obtain ⟨hβ, q2⟩ := q
    have w : wk α β := q2.mo (by decide) (by decide)
    refine rw_q (m' := 5) (by omega) hβ (by decide) (qe.g w.2.2) (fun y => absurd y (by decide)) (v.ch q2 (by decide) (by decide) (by decide)) (fun x γ g1 g2 g3 g4 => ?_) (fun δ q1 q2 => ⟨q1, w.tr q2⟩)
    obtain ⟨ε, e1, i1, i2, i3⟩ := fgive g1 g3 x
    rw [e1]
    have w3 := (w.tr g2).tr i2
    exact tV.ret ⟨i1, w3, SI.give h i1 w3.2.2 i3 (hs1 hne) (g4.g i2.2.2) (ht0.g w3.2.2)⟩
  · refine j228 (Or.inr ?_)
    have h9 := (hW j hj.1).1
    have h99 := hj.2
    rw [kj] at n1 n2 n3 n4 n5 n6 n7 n8 ⊢
    have : nK α j = 0 := by
      have m1 : nK α j ≠ 1 := fun y => n1 (by rw [y]; rfl)
      have m2 : nK α j ≠ 2 := fun y => n2 (by rw [y]; rfl)
      have m3 : nK α j ≠ 3 := fun y => n3 (by rw [y]; rfl)
      have m4 : nK α j ≠ 4 := fun y => n4 (by rw [y]; rfl)
      have m5 : nK α j ≠ 5 := fun y => n5 (by rw [y]; rfl)
      have m6 : nK α j ≠ 6 := fun y => n6 (by rw [y]; rfl)
      have m7 : nK α j ≠ 7 := fun y => n7 (by rw [y]; rfl)
      have m8 : nK α j ≠ 8 := fun y => n8 (by rw [y]; rfl)
      omega
    rw [this]
    rfl
/-- the body is opened with a new VARIABLE -/
theorem openB {β : kS} {f : F5} {p : Int32} {k : Nat} {ty' : List Int32} (hN : 2 ^ 31 ≤ N) (hβ : tT K β) (v : vw β (f :: fs) ty' r) (hl : ty'.length < 1024) (hk : k = 6 ∨ k = 7) (hp : knd β k p) : tI (f_Typ_openBody N p β) (fun x γ => tT K γ ∧ wk β γ ∧ vw γ (f :: fs) (ty' ++ [f_Terms_left p β]) r ∧ qP γ x) (fun γ => tT K γ ∧ wk β γ) := by
  obtain ⟨γ, e, g1, g2, g3⟩ := newvar (N := N) hβ v hl (f_Terms_left p β)
  unfold f_Typ_openBody
  rw [e, kBi_s]
  refine (mk_f (by omega) g1 (nI ty'.length) 0).bi (fun y δ q => ?_) (fun δ q => ⟨q.1, g2.tr (q.2.mo (by decide) (by decide))⟩)
  obtain ⟨q1, q2, j, rfl, q3, q4, -⟩ := q
  have w : wk β δ := g2.tr (q2.mo (by decide) (by decide))
  have kp := (hp.g w.2.2).kd q1.1.1
  obtain ⟨tt, et, qt⟩ := (part_q q1.1.1 q1.2.1 (k := k) (by omega) (by omega) kp).2.1 (by omega)
  rw [et]
  refine (rewrite_ok (m' := 0) (by omega) q1 (by decide) qt.1 (fun _ => ⟨j, rfl, q3⟩)).bi (fun y ε u => ?_) (fun ε u => ⟨u.1, w.tr (u.2.mo (by decide) (by decide))⟩)
  obtain ⟨u1, u2, i, rfl, u3, u4, -⟩ := u
  exact tI.ret ⟨u1, w.tr (u2.mo (by decide) (by decide)), (g3.ch q2 (by decide) (by decide) (by decide)).ch u2 (by decide) (by decide) (by decide), i, rfl, u3, fun y => qt.2 (u4.mp y)⟩
theorem piBody_ok (hN : 2 ^ 31 ≤ N) (T : Top K c m yv z 16 α a b t dd fs ty r g) : tV (f_Typ_piBody N α) (TI K yv z α) (TX K α) := by
  obtain ⟨h, he, v, ⟨ka, hd, hh⟩, hl, hs, hr, hg, ht⟩ := T
  have h0 : vc1 fs = 0 := vc1_0 fs hs hl
  have ht0 : tvp yv α fs ty := ht.pop (by decide)
  unfold f_Typ_piBody
  rw [show f_Fra_result α = r from v.2.2]
  obtain ⟨β, e, hβ, wβ, vβ⟩ := set2 h v r
  rw [e, top1 hβ vβ]
  have ka' := ka.g wβ.2.2
  have ql := (part_q hβ.1.1 hβ.2.1 (k := 6) (by decide) (by decide) (ka'.kd hβ.1.1)).1
  refine (openB hN hβ vβ (ht0.len (by omega)) (Or.inl rfl) ka').bv (fun x γ q => ?_) (fun γ q => ⟨q.1, wβ.tr q.2⟩)
  obtain ⟨g1, g2, g3, g4⟩ := q
  have w := wβ.tr g2
  exact sortW h g1 w g3 (n' := 17) g4 hd hh (by decide) (by decide) (fun _ _ _ => ⟨hd, hh⟩) hl (fun _ _ _ => hs) (((ht.g wβ.2.2).newa (n' := 17) (by decide) (Or.inl rfl) h0 ql).g g2.2.2)
theorem piEnd_ok (hN : 2 ^ 31 ≤ N) (T : Top K c m yv z 17 α a b t dd fs ty r g) : tV (f_Typ_piEnd N α) (TI K yv z α) (TX K α) := by
  obtain ⟨h, he, v, ⟨hd, hh⟩, hl, hs, hr, hg, ht⟩ := T
  have h0 : vc1 fs = 0 := vc1_0 fs hs hl
  obtain ⟨β, e, hβ, wβ, vβ⟩ := dropvar h v
  have htβ := (ht.dropa (Or.inl rfl) h0).g wβ.2.2
  unfold f_Typ_piEnd
  rw [e]
  exact tV.ite (fun _ => sortGive (by omega) h hβ wβ vβ hs htβ) (fun _ => sortGive (by omega) h hβ wβ vβ hs htβ)
theorem lamBody_ok (hN : 2 ^ 31 ≤ N) (T : Top K c m yv z 18 α a b t dd fs ty r g) : tV (f_Typ_lamBody N α) (TI K yv z α) (TX K α) := by
  obtain ⟨h, he, v, ⟨ka, hd, hh⟩, hl, hs, hr, hg, ht⟩ := T
  have h0 : vc1 fs = 0 := vc1_0 fs hs hl
  have ht0 : tvp yv α fs ty := ht.pop (by decide)
  unfold f_Typ_lamBody
  obtain ⟨β, e, hβ, wβ, vβ⟩ := set0 h v 19
  rw [e, top1 hβ vβ]
  have ka' := ka.g wβ.2.2
  have ql := (part_q hβ.1.1 hβ.2.1 (k := 7) (by decide) (by decide) (ka'.kd hβ.1.1)).1
  refine (openB hN hβ vβ (ht0.len (by omega)) (Or.inr rfl) ka').bv (fun x γ q => ?_) (fun γ q => ⟨q.1, wβ.tr q.2⟩)
  obtain ⟨g1, g2, g3, g4⟩ := q
  have w := wβ.tr g2
  have ka2 := ka'.g g2.2.2
  exact inferW h g1 w g3 (n' := 19) g4 hd hh (by decide) (by decide) (fun δ hg _ => ⟨ka2.g hg, hd, hh, gv15⟩) hl (fun _ _ _ => hs) (((ht.g wβ.2.2).newa (n' := 19) (by decide) (Or.inr rfl) h0 ql).g g2.2.2)
theorem lamEnd_ok (hN : 2 ^ 31 ≤ N) (T : Top K c m yv z 19 α a b t dd fs ty r g) : tV (f_Typ_lamEnd N α) (TI K yv z α) (TX K α) := by
  obtain ⟨h, he, v, ⟨ka, hd, hh, hg1⟩, hl, hs, hr, hg, ht⟩ := T
  have hqr := hr hg1
  have h0 : vc1 fs = 0 := vc1_0 fs hs hl
  obtain ⟨β, e, hβ, wβ, vβ⟩ := dropvar h v
  unfold f_Typ_lamEnd
  rw [show f_Fra_result α = r from v.2.2, e]
  refine rw_q (m' := 2) (by omega) hβ (by decide) (hqr.g wβ.2.2) (fun y => absurd y (by decide)) vβ (fun x γ g1 g2 g3 g4 => ?_) (fun δ q1 q2 => ⟨q1, wβ.tr q2⟩)
  rw [top1 g1 g3]
  have w2 := wβ.tr g2
  have ka' := ka.g w2.2.2
  have ql := (part_q g1.1.1 g1.2.1 (k := 7) (by decide) (by decide) (ka'.kd g1.1.1)).1
  refine mk_q (k' := 6) (by omega) g1 (by decide) (by decide) ql g4 g3 (fun y δ y1 y2 y3 y4 => ?_) (fun δ q1 q2 => ⟨q1, w2.tr q2⟩)
  obtain ⟨ε, e1, i1, i2, i3⟩ := fgive y1 y3 y
  rw [e1]
  have w3 := (w2.tr y2).tr i2
  exact tV.ret ⟨i1, w3, SI.give h i1 w3.2.2 i3 hs (y4.g i2.2.2) ((ht.dropa (Or.inr rfl) h0).g w3.2.2)⟩
/-- the three TERMS of a LET -/
theorem let_q {α : kS} {a : Int32} (h : tT K α) (ka : knd α 8 a) : qP α (f_Terms_left a α) ∧ qP α (f_Terms_left (f_Terms_right a α) α) ∧ qP α (f_Terms_right (f_Terms_right a α) α) := by
  obtain ⟨a1, -, a2⟩ := part_q h.1.1 h.2.1 (k := 8) (by decide) (by decide) (ka.kd h.1.1)
  obtain ⟨b1, b2, -⟩ := part_q h.1.1 h.2.1 (k := 9) (by decide) (by decide) ((a2 rfl).kd h.1.1)
  exact ⟨a1, b1, b2 (by decide)⟩
theorem letValue_ok (T : Top K c m yv z 20 α a b t dd fs ty r g) : tV (f_Typ_letValue N α) (TI K yv z α) (TX K α) := by
  obtain ⟨h, he, v, ⟨ka, hd, hh⟩, hl, hs, hr, hg, ht⟩ := T
  obtain ⟨q1, q2, q3⟩ := let_q h ka
  unfold f_Typ_letValue
  rw [top1 h v]
  exact checkW h h ch.rf v (n' := 21) q2 q1 hd hh (by decide) (by decide) (fun δ hg _ => ⟨ka.g hg, hd, hh⟩) hl (fun _ _ _ => hs) (ht.op (by decide) (by decide))
theorem letBody_ok (hN : 2 ^ 31 ≤ N) (T : Top K c m yv z 21 α a b t dd fs ty r g) : tV (f_Typ_letBody N α) (TI K yv z α) (TX K α) := by
  obtain ⟨h, he, v, ⟨ka, hd, hh⟩, hl, hs, hr, hg, ht⟩ := T
  have ht0 : tvp yv α fs ty := ht.pop (by decide)
  obtain ⟨q1, q2, q3⟩ := let_q h ka
  obtain ⟨β, e, hβ, wβ, vβ⟩ := set0 h v 0
  have sβ : sT α β := by rw [← e]; unfold f_Fra_set fR_put; split <;> exact ⟨rfl, rfl⟩
  unfold f_Typ_letBody
  rw [top1 h v, e, sβ.rt, sβ.lf]
  refine rw_q (m' := 0) (by omega) hβ (by decide) (q3.g wβ.2.2) (fun _ => q2.g wβ.2.2) vβ (fun x γ g1 g2 g3 g4 => ?_) (fun δ q1 q2 => ⟨q1, wβ.tr q2⟩)
  have w := wβ.tr g2
  refine inferW h g1 w g3 (n' := 0) g4 hd hh (by decide) (by decide) (fun δ hg _ => ?_) hl (fun δ _ _ => ?_) ((ht0.g w.2.2).push (by decide))
  · show fs.length < 302
    omega
  · show st α z fs (if _ then 2 else 1)
    split
    · exact st.up fs hs
    · exact hs
theorem askF {β : kS} {o a' b' t' x : Int32} (h : tT K α) (hβ : tT K β) (w : wk α β) (v : vw β ((o, a', b', t', nI dd) :: fs) ty r) (hx : qP β x) (hd : dd ≤ 150) (hh : fs.length < 2 * dd + 1) (hqa : qP β a') (har : arg β 1 t' a') (hl : lvs (lv 23) fs) (hs : st α z fs 1) (ht : tvp yv β fs ty) : tV (kBv (f_Typ_askFunction N x β) fun δ => some (some none, δ)) (TI K yv z α) (TX K α) := by
  obtain ⟨γ, e, g1, g2, g3⟩ := set0 hβ v 23
  obtain ⟨δ, e2, y1, y2, y3⟩ := fpush (N := N) g1 g3 (by show fs.length + 1 < 512; omega) 1 x 0 0
  have ee : f_Typ_askFunction N x β = some (some none, δ) := by
    unfold f_Typ_askFunction
    rw [e, e2]
    rfl
  rw [ee]
  have w1 := g2.tr y2
  have w2 := w.tr w1
  exact tV.ret ⟨y1, w2, SI.top2 (n := 23) (n1 := 1) (d1 := 0) h y1 w2.2.2 y3 (by decide) ⟨hx.g w1.2.2, by omega, by omega⟩ (by decide) (by decide) ⟨⟨hqa.g w1.2.2, har.g hβ.1.1 hβ.2.1 y1.1.1 w1.2.2 hqa⟩, hd, hh, one0⟩ hl hs (((ht.g w1.2.2).push (n' := 23) (by decide)).push (by decide))⟩
theorem appType_ok (T : Top K c m yv z 22 α a b t dd fs ty r g) : tV (f_Typ_appType N α) (TI K yv z α) (TX K α) := by
  obtain ⟨h, he, v, ⟨⟨hqa, hor⟩, hd, hh⟩, hl, hs, hr, hg, ht⟩ := T
  have ht0 : tvp yv α fs ty := ht.pop (by decide)
  rcases hor with ⟨-, y⟩ | ⟨hg1, har⟩
  · exact absurd y hg
  have hk : f_Terms_kind a α = 5 := by
    obtain ⟨k, k1, -, -, k2⟩ := har
    obtain ⟨k, rfl⟩ : ∃ k', k = k' + 1 := ⟨k - 1, by omega⟩
    exact k2.1
  have hs1 : st α z fs 1 := by
    have e : gv α 22 g a = 1 := if_neg (by rw [hk]; decide)
    rw [← e]
    exact hs
  unfold f_Typ_appType
  rw [show f_Fra_result α = r from v.2.2]
  exact askF h h ch.rf v (hr hg1) hd hh hqa har hl hs1 ht0
theorem next_ok {β : kS} {o a' b' t' : Int32} {f4 : Int32} (hN : 2 ^ 31 ≤ N) (hβ : tT K β) (v : vw β ((o, a', b', t', f4) :: fs) ty r) (hqa : qP β a') (har : arg β 1 t' a') : ∃ x k, f_Typ_nextArgument N β = some x ∧ qP β x ∧ t' = nI (k + 1) ∧ k ≤ 1499 ∧ aP β (k + 1) a' := by
  obtain ⟨k, k1, k2, rfl, k3⟩ := har
  obtain ⟨k, rfl⟩ : ∃ k', k = k' + 1 := ⟨k - 1, by omega⟩
  have hk : k ≤ 1499 := by
    obtain ⟨ja, rfl, hja⟩ := hqa
    have := aP_sz hβ.1.1 hβ.2.1 _ ja hja.1 k3
    have := (hβ.2.1 ja hja.1).2.1.2
    omega
  refine ⟨_, k, ?_, fromLast_vP hβ.1.1 hβ.2.1 hqa k3, rfl, hk, k3⟩
  unfold f_Typ_nextArgument
  rw [top1 hβ v, top3 hβ v, nI_pred, fromLast_ok (N := N) (by omega) (by omega)]
  rfl
theorem appArgument_ok (hN : 2 ^ 31 ≤ N) (T : Top K c m yv z 23 α a b t dd fs ty r g) : tV (f_Typ_appArgument N α) (TI K yv z α) (TX K α) := by
  obtain ⟨h, he, v, ⟨⟨hqa, har⟩, hd, hh, hg1⟩, hl, hs, hr, hg, ht⟩ := T
  have hqr := hr hg1
  have ht0 : tvp yv α fs ty := ht.pop (by decide)
  unfold f_Typ_appArgument
  rw [show f_Fra_result α = r from v.2.2]
  refine tV.ite (fun c6 => ?_) (fun _ => fail_x N 5 h ch.rf)
  have kr : knd α 6 r := knd.of h.1.1 (by decide) (by decide) c6
  unfold f_Typ_appArgument_j29
  obtain ⟨β, e, hβ, wβ, vβ⟩ := set2 h v r
  rw [e]
  have qa := hqa.g wβ.2.2
  have ar := har.g h.1.1 h.2.1 hβ.1.1 wβ.2.2 hqa
  have kr' := kr.g wβ.2.2
  obtain ⟨x, k, ex, qx, -⟩ := next_ok (N := N) hN hβ vβ qa ar
  rw [ex, obs]
  have ql := (part_q hβ.1.1 hβ.2.1 (k := 6) (by decide) (by decide) (kr'.kd hβ.1.1)).1
  exact checkW h hβ wβ vβ (n' := 24) qx ql hd hh (by decide) (by decide) (fun δ hg hδ => ⟨⟨qa.g hg, ar.g hβ.1.1 hβ.2.1 hδ.1.1 hg qa, kr'.g hg⟩, hd, hh⟩) hl (fun _ _ _ => hs) ((ht0.g wβ.2.2).push (by decide))
theorem appOpen_ok (hN : 2 ^ 31 ≤ N) (T : Top K c m yv z 24 α a b t dd fs ty r g) : tV (f_Typ_appOpen N α) (TI K yv z α) (TX K α) := by
  obtain ⟨h, he, v, ⟨⟨hqa, har, kb⟩, hd, hh⟩, hl, hs, hr, hg, ht⟩ := T
  have ht0 : tvp yv α fs ty := ht.pop (by decide)
  obtain ⟨x, k, ex, qx, et, hk, ak⟩ := next_ok (N := N) hN h v hqa har
  unfold f_Typ_appOpen
  rw [ex, obs]
  have qr := (part_q h.1.1 h.2.1 (k := 6) (by decide) (by decide) (kb.kd h.1.1)).2.1 (by decide)
  rw [top2 h v]
  refine rw_q (m' := 0) (by omega) h (by decide) qr (fun _ => qx) v (fun y γ g1 g2 g3 g4 => ?_) (fun δ q1 q2 => ⟨q1, q2⟩)
  rw [top3 g1 g3, et, nI_pred]
  refine tV.ite (fun _ => ?_) (fun cz => ?_)
  · obtain ⟨ε, e1, i1, i2, i3⟩ := fgive g1 g3 y
    rw [e1]
    have w3 := g2.tr i2
    exact tV.ret ⟨i1, w3, SI.give h i1 w3.2.2 i3 hs (g4.g i2.2.2) (ht0.g w3.2.2)⟩
  · have hk0 : k ≠ 0 := fun y => cz (by rw [y]; rfl)
    obtain ⟨ε, e1, i1, i2, i3⟩ := set3 g1 g3 (nI k)
    rw [e1]
    have w := g2.tr i2
    exact askF h i1 w i3 (g4.g i2.2.2) hd hh (hqa.g w.2.2) ⟨k, by omega, by omega, rfl, aP_g h.1.1 h.2.1 i1.1.1 w.2.2 k hqa (aP_le _ _ ak (by omega))⟩ hl hs (ht0.g w.2.2)
theorem sortType_ok (T : Top K c m yv z 25 α a b t dd fs ty r g) : tV (f_Typ_sortType N α) (TI K yv z α) (TX K α) := by
  obtain ⟨h, he, v, ⟨hh, hg1⟩, hl, hs, hr, hg, ht⟩ := T
  have ht0 : tvp yv α fs ty := ht.pop (by decide)
  obtain ⟨β, e, hβ, wβ, vβ⟩ := set0 h v 26
  unfold f_Typ_sortType
  rw [e, show f_Fra_result β = r from vβ.2.2]
  obtain ⟨δ, e2, y1, y2, y3⟩ := fpush (N := N) hβ vβ (by show fs.length + 1 < 512; omega) 1 r 0 0
  rw [e2]
  have w := wβ.tr y2
  exact tV.ret ⟨y1, w, SI.top2 (n := 26) (n1 := 1) (d1 := 0) h y1 w.2.2 y3 (by decide) ⟨(hr hg1).g w.2.2, by omega, by omega⟩ (by decide) (by decide) ⟨hh, one0⟩ hl hs (((ht0.g w.2.2).push (n' := 26) (by decide)).push (by decide))⟩
theorem sortEnd_ok (T : Top K c m yv z 26 α a b t dd fs ty r g) : tV (f_Typ_sortEnd N α) (TI K yv z α) (TX K α) := by
  obtain ⟨h, he, v, ⟨hh, hg1⟩, hl, hs, hr, hg, ht⟩ := T
  have ht0 : tvp yv α fs ty := ht.pop (by decide)
  unfold f_Typ_sortEnd
  refine tV.ite (fun _ => ?_) (fun _ => fail_x N 6 h ch.rf)
  unfold f_Typ_sortEnd_j27
  obtain ⟨β, e, hβ, wβ, vβ⟩ := fgive h v (f_Terms_left (f_Fra_result α) α)
  rw [e]
  exact tV.ret ⟨hβ, wβ, SI.none h hβ wβ.2.2 vβ hs (ht0.g wβ.2.2)⟩
theorem checkType_ok (T : Top K c m yv z 27 α a b t dd fs ty r g) : tV (f_Typ_checkType N α) (TI K yv z α) (TX K α) := by
  obtain ⟨h, he, v, ⟨hqa, hh, hg1⟩, hl, hs, hr, hg, ht⟩ := T
  have ht0 : tvp yv α fs ty := ht.pop (by decide)
  obtain ⟨β, e, hβ, wβ, vβ⟩ := set0 h v 0
  unfold f_Typ_checkType
  rw [top1 h v, e, show f_Fra_result β = r from vβ.2.2]
  obtain ⟨δ, e2, y1, y2, y3⟩ := fpush (N := N) hβ vβ (by show fs.length + 1 < 512; omega) 3 r a 1
  rw [e2]
  have w := wβ.tr y2
  exact tV.ret ⟨y1, w, SI.top2 (n := 0) (n1 := 3) (d1 := 1) h y1 w.2.2 y3 (by decide) ⟨⟨(hr hg1).g w.2.2, hqa.g w.2.2⟩, by omega, by omega⟩ (by decide) (by decide) hh hl hs (((ht0.g w.2.2).push (n' := 0) (by decide)).push (by decide))⟩
theorem declare_ok (T : Top K c m yv z 28 α a b t dd fs ty r g) : tV (f_Typ_declare N α) (TI K yv z α) (TX K α) := by
  obtain ⟨h, he, v, ⟨⟨hqa, hqb⟩, hh, rfl⟩, hl, hs, hr, hg, ht⟩ := T
  unfold f_Typ_declare
  rw [top1 h v]
  exact sortW h h ch.rf v (n' := 29) hqa (by omega) (by omega) (by decide) (by decide) (fun δ hg _ => ⟨⟨hqa.g hg, hqb.imp id (qP.g hg)⟩, hh, rfl⟩) hl (fun _ _ _ => hs) (ht.op (by decide) (by decide))
theorem declareValue_ok (T : Top K c m yv z 29 α a b t dd fs ty r g) : tV (f_Typ_declareValue N α) (TI K yv z α) (TX K α) := by
  obtain ⟨h, he, v, ⟨⟨hqa, hqb⟩, hh, rfl⟩, hl, hs, hr, hg, ht⟩ := T
  have ht0 : tvp yv α fs ty := ht.pop (by decide)
  unfold f_Typ_declareValue
  rw [top2 h v, top1 h v]
  refine tV.ite (fun _ => ?_) (fun cb => ?_)
  · obtain ⟨β, e, hβ, wβ, vβ⟩ := fpop h v
    rw [e]
    exact tV.ret ⟨hβ, wβ, SI.none h hβ wβ.2.2 vβ hs (ht0.g wβ.2.2)⟩
  · have qb := hqb.resolve_left cb
    exact checkW h h ch.rf v (n' := 0) qb hqa (by omega) (by omega) (by decide) (by decide) (fun δ hg _ => by show fs.length < 302; omega) (by
      cases fs with
      | nil => trivial
      | cons f fs => exact absurd hh (by show fs.length + 1 ≠ 0; omega)) (fun _ _ _ => hs) (ht.op (by decide) (by decide))
theorem eval_ok (T : Top K c m yv z 30 α a b t dd fs ty r g) : tV (f_Typ_eval N α) (TI K yv z α) (TX K α) := by
  obtain ⟨h, he, v, ⟨hqb, hh, rfl⟩, hl, hs, hr, hg, ht⟩ := T
  have ht0 : tvp yv α fs ty := ht.pop (by decide)
  obtain ⟨β, e, hβ, wβ, vβ⟩ := set0 h v 31
  unfold f_Typ_eval
  rw [e, top2 hβ vβ]
  have qb := hqb.g h.1.1 h.2.1 wβ.2.2
  exact inferW h hβ wβ vβ (n' := 31) qb.q (by omega) (by omega) (by decide) (by decide) (fun δ hg _ => ⟨qb.g hβ.1.1 hβ.2.1 hg, hh, rfl⟩) hl (fun _ _ _ => hs) ((ht0.g wβ.2.2).push (by decide))
theorem evalTyped_ok (T : Top K c m 0 1 31 α a b t dd fs ty r g) : tV (f_Typ_evalTyped N α) (TI2 True K 0 2 α) (TX K α) := by
  obtain ⟨h, he, v, ⟨hqb, hh, rfl⟩, hl, hs, hr, hg, ht⟩ := T
  have ht0 : tvp 0 α fs ty := ht.pop (by decide)
  obtain ⟨β, e, hβ, wβ, vβ⟩ := set0 h v 0
  unfold f_Typ_evalTyped
  rw [e, top2 hβ vβ]
  obtain ⟨δ, e2, y1, y2, y3⟩ := fpush (N := N) hβ vβ (by show fs.length + 1 < 512; omega) 9 b 0 1
  rw [e2]
  have w := wβ.tr y2
  have hfs : fs = [] := List.length_eq_zero_iff.mp hh
  subst hfs
  refine tV.ret ⟨y1, w, SI2.top2 (n := 0) (n1 := 9) (d1 := 1) h y1 w.2.2 y3 (by decide) ⟨hqb.q.g w.2.2, by omega, by decide⟩ (by decide) (by decide) ?_ trivial hs (((ht0.g w.2.2).push (n' := 0) (by decide)).push (by decide)) (fun _ => ?_)⟩
  · show 0 < 302
    decide
  · obtain ⟨j, e, hj, hF⟩ := hqb
    exact lev_c (n := 9) (by decide) (vc_p (n := 0) (by decide)).1 (show FP δ 0 b from ⟨j, e, (hj.g w.2.2).1, hF.g h.1.1 h.2.1 w.2.2 hj.1⟩) (lev_c (n := 0) (by decide) rfl trivial trivial)
theorem return_ok (T : Top K c m yv z 0 α a b t dd fs ty r g) : TI2 (LC m yv 0 g α a b fs r) K yv z α (f_Fra_pop α) := by
  obtain ⟨h, he, v, hh, hl, hs, hr, hg, ht⟩ := T
  have ht0 : tvp yv α fs ty := ht.pop (by decide)
  obtain ⟨β, e, hβ, wβ, vβ⟩ := fpop h v
  rw [e]
  exact ⟨hβ, wβ, _, _, _, g, vβ, st.w h hβ wβ.2.2 hs, fun y => (hr y).g wβ.2.2, hg, ht0.g wβ.2.2, fun l => ⟨lev.w h hβ wβ fs l.2.2.2.1, fun q => FP.g h.1.1 h.2.1 wβ.2.2 (l.2.2.2.2 q)⟩⟩
end TYPER
