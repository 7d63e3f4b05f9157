-- the reference's parser: TERMS
section TERMM
variable {N : Nat} {W : Nat → Prop} {s Lc : Nat} {Lr : Nat → Prop} {sz : Nat} {kk : (Int32 → mS → Option (kO × mS)) × (Int32 → mS → Option (kO × mS)) × (Int32 → mS → Option (kO × mS)) × (Int32 → Int32 → mS → Option (kO × mS)) × (Int32 → mS → Option (kO × mS)) × (Int32 → mS → Option (kO × mS))}
def TmS (W : Nat → Prop) (s Lc : Nat) (Lr : Nat → Prop) (sz e : Nat) (f : Int32 → mS → Option (kO × mS)) : Prop := ∀ (t p sc ph : Nat) (α : mS), PSm W s Lc Lr sz t p sc ph α → sc ≤ 3000 + (100 - e) → rI (f (nI (100 - e)) α) (TQr W s Lc Lr sz t p sc ph α) (XP W s t α)
def BgS (W : Nat → Prop) (s Lc : Nat) (Lr : Nat → Prop) (sz e : Nat) (f : Int32 → Int32 → mS → Option (kO × mS)) : Prop := ∀ (k t p sc ph : Nat) (α : mS), (k = 6 ∨ k = 7) → PSm W s Lc Lr sz t p sc ph α → sc ≤ 3000 + (100 - e) → rI (f (nI (100 - e)) (nI k) α) (TQr W s Lc Lr sz t p sc ph α) (XP W s t α)
/-- names were bound, with their types -/
def BQm (W : Nat → Prop) (s Lc : Nat) (Lr : Nat → Prop) (sz t p sc ph : Nat) (α : mS) (x : Int32) (β : mS) : Prop := ∃ n t1 p1, x = nI n ∧ QP W s Lc Lr sz t p sc ph α (sc + n) ph t1 p1 β ∧ sc + n ≤ 3000 ∧ ∀ i, i < n → ∃ v, β.2 27 (sc + i) = nI v ∧ vd W s t1 v ∧ fit β v ∧ PN β v
def BiS (W : Nat → Prop) (s Lc : Nat) (Lr : Nat → Prop) (sz e : Nat) (f : Int32 → mS → Option (kO × mS)) : Prop := ∀ (t p sc ph : Nat) (α : mS), PSm W s Lc Lr sz t p sc ph α → rI (f (nI (100 - e)) α) (BQm W s Lc Lr sz t p sc ph α) (XP W s t α)
section A1
variable {t p sc ph e : Nat} {α : mS}
theorem appl_6 (hN : 400000 < N) (hn : nrm W s) (hk : TmS W s Lc Lr sz e kk.2.1) : ∀ (d x nn t p sc ph : Nat) (α : mS), 3000 - uB α x < d → d ≤ nn → PSm W s Lc Lr sz t p sc ph α → sc ≤ 3000 + (100 - e) → vd W s t x → fit α x → PN α x → rI (f_Mod_applied_6 N kk nn (nI x) (nI (100 - e)) α) (TQr W s Lc Lr sz t p sc ph α) (XP W s t α)
  | 0, x, nn, t, p, sc, ph, α, hd, hnn, h, hsc, hx, fx, px => by omega
  | d + 1, x, nn, t, p, sc, ph, α, hd, hnn, h, hsc, hx, fx, px => by
    obtain ⟨nn, rfl⟩ : ∃ n', nn = n' + 1 := ⟨nn - 1, by omega⟩
    rw [f_Mod_applied_6]
    obtain ⟨v, β, q, e1, hq, hP, hc, -⟩ := atomHere_ok hN h.2.1
    rw [e1]
    have q1 := h.lx hq hP.1 hc
    have s1 := q1.2.2.2.2.1
    show rI (if v = 0 then _ else _) _ _
    refine rI.ite (fun _ => rI.ret ⟨x, t, q, rfl, q1, hx, fx.sn s1 hx, px.sn h.1.2.2.2 s1 hx⟩) fun _ => ?_
    refine (hk t q sc ph β q1.ps hsc).bi (fun v γ u => ?_) (fun γ u => q1.tx u)
    obtain ⟨y, t1, p1, rfl, u1, u2, u3, u4⟩ := u
    have q2 := q1.tr u1 (Nat.le_refl _) (Nat.le_refl _)
    have s2 := q2.2.2.2.2.1
    unfold f_Mod_apply
    refine rI.bi (Pi := fun v δ => ∃ r, v = nI r ∧ ∃ t2, QP W s Lc Lr sz t1 p1 sc ph γ sc ph t2 p1 δ ∧ vd W s t2 r ∧ (uK δ r = 8 ∧ uA δ r = x ∧ uC δ r = y)) (Px := XP W s t1 γ) ?_ (fun v δ z => ?_) (fun δ z => q2.tx z)
    · refine ((node_w (k := 8) u1.ps.1 hn.f (fun z => z) (by decide) (fun _ => ⟨x, y, rfl, rfl, ⟨hx.up q2.1, hn.lt u1.ps.1 (hx.up q2.1)⟩, ⟨u2, hn.lt u1.ps.1 u2⟩, fun z => absurd z (by decide)⟩) (fun z => absurd z (by decide)) (fun z => absurd z (by decide)) (fun z => absurd z (by decide))).mono (fun v δ z => ?_) (fun δ z => lx_x (z.mo (by decide) (fun _ z => z)))).end
      obtain ⟨rfl, z1, z2, z3, z4, z5, z6, z7, -⟩ := z
      have x4 := (u1.ps.1.nw (hx.up q2.1)).1
      have y4 := (u1.ps.1.nw u2).1
      exact ⟨t1, rfl, t1 + 1, u1.ps.nd (Nat.le_succ _) z2 z3 z4, Or.inr ⟨u1.ps.1.2.1, Nat.lt_succ_self _⟩, z5, by unfold uA; rw [z6, nI_clamp (by omega)], by unfold uC; rw [z7, nI_clamp (by omega)]⟩
    · obtain ⟨r, rfl, t2, z1, z2, z3, z4, z5⟩ := z
      have q3 := q2.tr z1 (Nat.le_refl _) (Nat.le_refl _)
      refine (fits_ok z1.ps.1 z2).bi (fun v ε g => ?_) (fun ε g => q3.tx (lx_x (g.mo (by decide) (fun _ z => z))))
      obtain ⟨rfl, rfl, g1⟩ := g
      have eb := big_eq z1.ps.1.2.2.2 z2 (by omega) (by have := g1.1; omega)
      have ux : uB ε x = uB α x := q3.2.2.2.2.1.b hx
      have uy := big_pos z1.ps.1.2.2.2 (z1.ps.1.2.2.2.p4 z2 (by omega)).2.2
      rw [z4, z5, if_neg (by omega), ux] at eb
      rw [z5] at uy
      refine (appl_6 hN hn hk d r nn t2 p1 sc ph ε (by have := g1.1; omega) (by omega) z1.ps hsc z2 g1 (PN.mk (by omega) ?_ ?_ (fun z => by omega))).mono (fun v ζ g => TQr.of q3 (Nat.le_refl _) (Nat.le_refl _) g rfl rfl) (fun ζ g => q3.tx g)
      · rw [z4]; exact px.sn h.1.2.2.2 q3.2.2.2.2.1 hx
      · rw [z5]; exact u4.sn u1.ps.1.2.2.2 z1.2.2.2.2.1 u2
theorem appl_ok (hN : 400000 < N) (hn : nrm W s) (hk : TmS W s Lc Lr sz e kk.2.1) : TmS W s Lc Lr sz e (f_Mod_applied N kk) := by
  intro t p sc ph α h hsc
  unfold f_Mod_applied
  refine (hk t p sc ph α h hsc).bi (fun v β u => ?_) (fun _ u => u)
  obtain ⟨x, t1, p1, rfl, u1, u2, u3, u4⟩ := u
  exact (appl_6 hN hn hk 3001 x N t1 p1 sc ph β (by omega) (by omega) u1.ps hsc u2 u3 u4).mono (fun v ζ g => TQr.of u1 (Nat.le_refl _) (Nat.le_refl _) g rfl rfl) (fun ζ g => u1.tx g)
theorem atom_169 (hN : 400000 < N) (hn : nrm W s) (h : PSm W s Lc Lr sz t p sc ph α) (h9 : α.1 9 ≠ 0) (hsc : sc ≤ 3400) : ∀ (m nn : Nat), m < nn → m ≤ sc → rI (f_Mod_atom_169 N kk nn (nI m + (-1)) α) (TQr W s Lc Lr sz t p sc ph α) (XP W s t α)
  | 0, nn, hm, _ => by
    obtain ⟨nn, rfl⟩ : ∃ n', nn = n' + 1 := ⟨nn - 1, by omega⟩
    rw [f_Mod_atom_169, if_pos (show nI 0 + (-1) < 0 by decide)]
    obtain ⟨v, ev, hv⟩ := const_ok_m hN ⟨h.2.1, h9⟩ h.2.2.1.1 (Nat.le_refl _)
    have ec : f_Mod_constant_0 N α = some v := by unfold f_Mod_constant_0; rw [h.2.2.1.2.1, ev]; rfl
    refine rI.ob ec (rI.ite (fun c0 => ?_) fun _ => rI.thr thr_p)
    obtain ⟨j, rfl, hj⟩ := hv.resolve_left fun z => absurd c0 (by rw [z]; decide)
    have hL := h.2.2.1.1.1
    obtain ⟨β, p1, e1, a1, a2, a3, -⟩ := take_m hN h.2.1
    rw [e1]
    have q1 := h.lx a1 a2 a3
    exact ((leaf_p (k := 1) hn q1.ps (by decide) (by decide) (fun _ => ⟨j, rfl, hj, by omega⟩) (fun z => absurd z (by decide)) (fun z => absurd z (by decide))).mono (fun v ζ g => TQr.of q1 (Nat.le_refl _) (Nat.le_refl _) g rfl rfl) (fun ζ g => q1.tx g)).end
  | m + 1, nn, hm, hms => by
    obtain ⟨nn, rfl⟩ : ∃ n', nn = n' + 1 := ⟨nn - 1, by omega⟩
    rw [f_Mod_atom_169, show nI (m + 1) + (-1) = nI m from nI_m1 m, if_neg (nI_pos (by omega))]
    have ix := mix (i := m) (n := 3400) (by omega) (by decide)
    obtain ⟨a, z, f1, f2, f3⟩ := h.2.2.2.1.2 m (by omega)
    refine rI.ix ix (rI.ix ix ?_)
    rw [nI_clamp (by omega), f1, f2]
    obtain ⟨v, ev⟩ := spelled_ok (r := 0) (b := a) (n := z) hN ⟨h.2.1, h9⟩ (by show a + z ≤ 65536; exact f3) (by show 65536 ≤ 65536; decide)
    refine rI.ob ev (rI.ite (fun _ => atom_169 hN hn h h9 hsc m nn (by omega) (by omega)) fun _ => ?_)
    obtain ⟨β, p1, e1, a1, a2, a3, -⟩ := take_m hN h.2.1
    rw [e1]
    have q1 := h.lx a1 a2 a3
    exact ((leaf_p (k := 5) hn q1.ps (by decide) (by decide) (fun z => absurd z (by decide)) (fun z => absurd z (by decide)) (fun _ => ⟨m, rfl, by omega⟩)).mono (fun v ζ g => TQr.of q1 (Nat.le_refl _) (Nat.le_refl _) g rfl rfl) (fun ζ g => q1.tx g)).end
theorem PSm.iq {f : Option (kO × mS)} {k : Int32 → mS → Option (kO × mS)} {P : Int32 → mS → Prop} {X : mS → Prop} (h : PSm W s Lc Lr sz t p sc ph α) (hi : IQm sz p α f) (hk : ∀ v β p1, f = some (some (some v), β) → QP W s Lc Lr sz t p sc ph α sc ph t p1 β → PK sz p1 β → (α.1 9 ≠ 0 → β = α) → rI (k v β) P X) : rI (mBi f k) P X := by
  obtain ⟨v, β, q, e1, hq, hP, hc, hs⟩ := hi
  have := hk v β q e1 (h.lx hq hP.1 hc) hP hs
  rw [e1]
  exact this
theorem atom_ok (hN : 400000 < N) (hn : nrm W s) (he : e ≤ 100) (hk : ∀ e', e = e' + 1 → TmS W s Lc Lr sz e' kk.2.2.2.2.2) : TmS W s Lc Lr sz e (f_Mod_atom N kk) := by
  intro t p sc ph α h hsc
  unfold f_Mod_atom
  refine h.iq (peek_q hN h.2.1) (fun v β p1 e1 q1 k1 _ => rI.ite (fun _ => ?_) fun _ => ?_)
  · -- brackets
    obtain ⟨γ, p2, e2, a1, a2, a3, -⟩ := take_m hN k1.1
    rw [e2]
    have q2 := q1.tr (q1.ps.lx a1 a2 a3) (Nat.le_refl _) (Nat.le_refl _)
    show rI (mBi (f_Mod_nest N (nI (100 - e)) γ) _) _ _
    refine (nest_ok hN (by omega) a2).bi (fun v δ u => ?_) (fun δ u => q2.tx (lx_x u))
    obtain ⟨rfl, rfl, u1⟩ := u
    obtain ⟨e', rfl⟩ : ∃ e', e = e' + 1 := ⟨e - 1, by omega⟩
    rw [show 100 - (e' + 1) + 1 = 100 - e' by omega]
    refine (hk e' rfl t p2 sc ph δ q2.ps (by omega)).bi (fun v ε u => ?_) (fun ε u => q2.tx u)
    obtain ⟨r, t3, p3, rfl, u2, u3, u4, u5⟩ := u
    have q3 := q2.tr u2 (Nat.le_refl _) (Nat.le_refl _)
    refine (must_ok hN u2.ps.2.1).bi (fun ζ g => ?_) (fun ζ g => q3.tx (lx_x g))
    obtain ⟨p4, g1, -, g2, g3⟩ := g
    have q4 := u2.ps.lx g1 g2 g3
    have s4 := q4.2.2.2.2.1
    exact rI.ret ⟨r, t3, p4, rfl, q3.tr q4 (Nat.le_refl _) (Nat.le_refl _), u3, u4.sn s4 u3, u5.sn u2.ps.1.2.2.2 s4 u3⟩
  · have up : ∀ {β : mS} {t1 p1 : Nat} {f : Option (kO × mS)}, QP W s Lc Lr sz t p sc ph α sc ph t1 p1 β → rI f (TQr W s Lc Lr sz t1 p1 sc ph β) (XP W s t1 β) → rI f (TQr W s Lc Lr sz t p sc ph α) (XP W s t α) := fun q g => g.mono (fun v ζ g => TQr.of q (Nat.le_refl _) (Nat.le_refl _) g rfl rfl) (fun ζ g => q.tx g)
    refine up q1 ?_
    have cant : ∀ {β : mS} {t p sc ph : Nat}, PSm W s Lc Lr sz t p sc ph β → rI ((f_Mod_cant N β).bind fun α7 => some (none, mTh α7 (α7.1 100) (α7.1 101))) (TQr W s Lc Lr sz t p sc ph β) (XP W s t β) := fun h => cant_r hN h.2.1 fun γ g => lx_x g
    have sortA : ∀ {β : mS} {t p sc ph : Nat}, PSm W s Lc Lr sz t p sc ph β → rI (mBi (f_Mod_sortHere N β) fun v11 α9 => (mBi (f_Mod_sort N v11 α9) fun v14 α12 => (some (some (some v14), α12)))) (TQr W s Lc Lr sz t p sc ph β) (XP W s t β) := fun {β t p sc ph} h => by
      refine (sortHere_ok hN h.2.1).bi (fun v γ u => ?_) (fun γ u => lx_x u)
      obtain ⟨p1, u1, u2, u3⟩ := u
      have q := h.lx u1 u2 u3
      unfold f_Mod_sort
      exact (((leaf_p (k := 0) hn q.ps (by decide) (by decide) (fun z => absurd z (by decide)) (fun z => absurd z (by decide)) (fun z => absurd z (by decide))).mono (fun v ζ g => TQr.of q (Nat.le_refl _) (Nat.le_refl _) g rfl rfl) (fun ζ g => q.tx g)).end).end
    have up2 : ∀ {β γ : mS} {t p t1 p1 : Nat} {f : Option (kO × mS)}, QP W s Lc Lr sz t p sc ph γ sc ph t1 p1 β → rI f (TQr W s Lc Lr sz t1 p1 sc ph β) (XP W s t1 β) → rI f (TQr W s Lc Lr sz t p sc ph γ) (XP W s t γ) := fun q g => g.mono (fun v ζ g => TQr.of q (Nat.le_refl _) (Nat.le_refl _) g rfl rfl) (fun ζ g => q.tx g)
    refine q1.ps.iq (is_ok hN (by decide) q1.ps.2.1) (fun v2 β2 p2 e2 q2 k2 _ => up2 q2 (rI.ite (fun _ => ?_) fun _ => sortA q2.ps))
    refine q2.ps.iq (is_ok hN (by decide) q2.ps.2.1) (fun v3 β3 p3 e3 q3 k3 _ => up2 q3 (rI.ite (fun _ => ?_) fun _ => sortA q3.ps))
    refine q3.ps.iq (is_ok hN (by decide) q3.ps.2.1) (fun v4 β4 p4 e4 q4 k4 _ => up2 q4 (rI.ite (fun _ => ?_) fun _ => ?_))
    · refine q4.ps.iq (peek_q hN q4.ps.2.1) (fun v5 β5 p5 e5 q5 k5 _ => up2 q5 (rI.ite (fun _ => ?_) fun _ => cant q5.ps))
      refine q5.ps.iq (reserved_ok hN q5.ps.2.1) (fun v6 β6 p6 e6 q6 k6 _ => up2 q6 (rI.ite (fun _ => ?_) fun _ => cant q6.ps))
      rw [q6.ps.2.2.2.1.1, Int32.sub_eq_add_neg]
      exact atom_169 hN hn q6.ps k6.2 (by omega) sc N (by omega) (Nat.le_refl _)
    · obtain ⟨β5, p5, e5, a1, a2, a3, -⟩ := take_m hN q4.ps.2.1
      rw [e5]
      have q5 := q4.ps.lx a1 a2 a3
      show rI (mBi (f_Mod_peek N β5) _) _ _
      refine up2 q5 (q5.ps.iq (peek_q hN q5.ps.2.1) (fun v6 β6 p6 e6 q6 k6 _ => up2 q6 (rI.ite (fun _ => ?_) fun _ => cant q6.ps)))
      refine q6.ps.iq (reserved_ok hN q6.ps.2.1) (fun v7 β7 p7 e7 q7 k7 _ => up2 q7 (rI.ite (fun _ => ?_) fun _ => cant q7.ps))
      obtain ⟨v, ev, hv⟩ := const_ok_m hN k7 q7.ps.2.2.1.1 (Nat.le_refl _)
      have ec : f_Mod_constant_0 N β7 = some v := by unfold f_Mod_constant_0; rw [q7.ps.2.2.1.2.1, ev]; rfl
      refine rI.ob ec (rI.ite (fun _ => rI.thr thr_p) fun c0 => ?_)
      obtain ⟨j, rfl, hj⟩ := hv.resolve_left fun z => c0 (by rw [z]; decide)
      have hL := q7.ps.2.2.1.1.1
      rw [nI_clamp (show j < 2 ^ 31 by omega)]
      refine rI.ix (mix' (n := 301) (by omega) (by decide)) (rI.ite (fun c3 => ?_) fun _ => rI.thr thr_p)
      have hjr := q7.ps.2.2.1.2.2 j hj c3
      obtain ⟨β8, p8, e8, b1, b2, b3, -⟩ := take_m hN q7.ps.2.1
      rw [e8]
      have q8 := q7.ps.lx b1 b2 b3
      show rI (mBi (f_Mod_sortHere N β8) _) _ _
      refine (sortHere_ok hN q8.ps.2.1).bi (fun v γ u => ?_) (fun γ u => q8.tx (lx_x u))
      obtain ⟨p9, u1, u2, u3⟩ := u
      have q9 := q8.tr (q8.ps.lx u1 u2 u3) (Nat.le_refl _) (Nat.le_refl _)
      exact ((leaf_p (k := 2) hn q9.ps (by decide) (by decide) (fun z => absurd z (by decide)) (fun _ => ⟨j, rfl, hjr, by omega⟩) (fun z => absurd z (by decide))).mono (fun v ζ g => TQr.of q9 (Nat.le_refl _) (Nat.le_refl _) g rfl rfl) (fun ζ g => q9.tx g)).end
end A1
/-- binders under way: m names are bound since α0 -/
def BT (W : Nat → Prop) (s Lc : Nat) (Lr : Nat → Prop) (sz t0 p0 sc ph : Nat) (α0 : mS) (m t p : Nat) (α : mS) : Prop := QP W s Lc Lr sz t0 p0 sc ph α0 (sc + m) ph t p α ∧ (m = 0 ∨ sc + m ≤ 3000) ∧ ∀ i, i < m → ∃ v, α.2 27 (sc + i) = nI v ∧ vd W s t v ∧ fit α v ∧ PN α v
section B1
variable {t0 p0 sc ph e : Nat} {α0 : mS}
theorem BT.tr {m t p t1 p1 : Nat} {α β : mS} (h : BT W s Lc Lr sz t0 p0 sc ph α0 m t p α) (q : QP W s Lc Lr sz t p (sc + m) ph α (sc + m) ph t1 p1 β) : BT W s Lc Lr sz t0 p0 sc ph α0 m t1 p1 β := by
  refine ⟨h.1.tr q (by omega) (Nat.le_refl _), h.2.1, fun i hi => ?_⟩
  obtain ⟨v, a, b, c, d⟩ := h.2.2 i hi
  have s1 := q.2.2.2.2.1
  exact ⟨v, by rw [(q.2.2.2.2.2.1 (sc + i) (by omega)).2.2]; exact a, b.up q.1, c.sn s1 b, d.sn h.1.ps.1.2.2.2 s1 b⟩
def KB (W : Nat → Prop) (s Lc : Nat) (Lr : Nat → Prop) (sz t0 p0 sc ph : Nat) (α0 : mS) (d : Int32) (pm : Nat) (k2 : Int32 → Int32 → mS → Option (kO × mS)) : Prop := ∀ (m t p : Nat) (α : mS), pm < p → BT W s Lc Lr sz t0 p0 sc ph α0 m t p α → rI (k2 (nI m) d α) (BQm W s Lc Lr sz t0 p0 sc ph α0) (XP W s t0 α0)
theorem bind_261 {d : Int32} {pm many ty m : Nat} {k2 : Int32 → Int32 → mS → Option (kO × mS)} {k39 : Int32 → Int32 → Int32 → Int32 → mS → Option (kO × mS)} {k142 : Int32 → Int32 → Int32 → Int32 → Int32 → mS → Option (kO × mS)} (hN : 400000 < N) (hk2 : KB W s Lc Lr sz t0 p0 sc ph α0 d pm k2) (hm : sc + m + many ≤ 3000) (hph : ph + many ≤ 3000) : ∀ (dd i nn t p : Nat) (α : mS), i + dd = many → dd < nn → pm < p → BT W s Lc Lr sz t0 p0 sc ph α0 (m + i) t p α → vd W s t ty → fit α ty → PN α ty → (∀ j, i ≤ j → j < many → hdf α (ph + j)) → rI (f_Mod_binders_261 N kk k2 k39 k142 nn (nI i) (nI ty) (nI ph) (nI many) (nI m) d α) (BQm W s Lc Lr sz t0 p0 sc ph α0) (XP W s t0 α0)
  | 0, i, nn, t, p, α, hi, hn, hp, h, vt, ft, pt, hh => by
    obtain ⟨nn, rfl⟩ : ∃ n', nn = n' + 1 := ⟨nn - 1, by omega⟩
    rw [f_Mod_binders_261, if_pos (nI_le (by omega) (by omega)), nI_add]
    have ei : i = many := by omega
    subst ei
    refine h.1.ps.iq (peek_q hN h.1.ps.2.1) (fun v β p1 e1 q1 k1 _ => ?_)
    have h1 := h.tr q1
    refine rI.ite (fun _ => hk2 (m + i) t p1 β (by have := q1.2.1; omega) h1) fun _ => rI.ret ⟨m + i, t, p1, rfl, h1.1, by omega, h1.2.2⟩
  | dd + 1, i, nn, t, p, α, hi, hn, hp, h, vt, ft, pt, hh => by
    obtain ⟨nn, rfl⟩ : ∃ n', nn = n' + 1 := ⟨nn - 1, by omega⟩
    have hsc := h.1.ps.2.2.2.1.1
    obtain ⟨a, z, f1, f2, f3⟩ := hh i (Nat.le_refl _) (by omega)
    have ix : ¬ (α.1 19 < 0 ∨ 3400 ≤ (α.1 19).toNatClampNeg) := by rw [hsc]; exact mix (by omega) (by decide)
    have ix2 := mix (i := ph + i) (n := 3400) (by omega) (by decide)
    rw [f_Mod_binders_261, if_neg (nI_ge (by omega) (by omega)), nI_add]
    refine rI.ix ix (rI.ix ix2 (rI.ix ix2 ?_))
    rw [show (α.1 19).toNatClampNeg = sc + (m + i) by rw [hsc, nI_clamp (by omega)], nI_clamp (show ph + i < 2 ^ 31 by omega)]
    obtain ⟨β, eβ⟩ : ∃ β, β = mSA α 27 (upd (α.2 27) (sc + (m + i)) (nI ty)) := ⟨_, rfl⟩
    rw [← eβ]
    have c1 : mch [] [27] α β := by rw [eβ]; exact mch.sA (by decide)
    have s1 : sN (vd W s t) α β := sN.ch c1 (fun r a b z => by have := List.mem_singleton.mp z; omega)
    have e27 : β.2 27 = upd (α.2 27) (sc + (m + i)) (nI ty) := by rw [eβ]; rfl
    have P1 : PSm W s Lc Lr sz t p (sc + (m + i)) ph β := by
      obtain ⟨h1, h2, ⟨h3, h4, h5⟩, ⟨h6, h7⟩, ⟨h8, h9, h10⟩, cp, h11, h12⟩ := h.1.ps
      refine ⟨h1.sn c1 (by decide) s1, h2.ch c1 (by decide), ⟨h3.ch c1 (by decide) (by decide), (c1.int (by decide)).trans h4, fun j hj => by rw [c1.arr (by decide)]; exact h5 j hj⟩, ⟨(c1.int (by decide)).trans h6, fun i hi => ?_⟩, ⟨(c1.int (by decide)).trans h8, h9, fun i hi => ?_⟩, cp, (c1.int (by decide)).trans h11, h12⟩
      · unfold scf; rw [c1.arr (by decide), c1.arr (by decide)]; exact h7 i hi
      · unfold hdf; rw [c1.arr (by decide), c1.arr (by decide)]; exact h10 i hi
    rw [c1.arr (k := 30) (by decide), c1.arr (k := 31) (by decide), f1, f2]
    obtain ⟨γ, e2, q2, g27⟩ := bind_ok (N := N) P1 (by omega) f3
    rw [e2]
    show rI (f_Mod_binders_261 N kk k2 k39 k142 nn (nI i + 1) (nI ty) (nI ph) (nI many) (nI m) d γ) _ _
    rw [nI_1]
    have s2 : sN (vd W s t) α γ := s1.tr q2.2.2.2.2.1
    refine bind_261 hN hk2 hm hph dd (i + 1) nn t p γ (by omega) (by omega) hp ⟨⟨h.1.1, h.1.2.1, ?_, ?_, ?_, fun j hj => ?_, fun j hj => ?_⟩, Or.inr (by omega), fun j hj => ?_⟩ vt (ft.sn s2 vt) (pt.sn h.1.ps.1.2.2.2 s2 vt) (fun j a b => ?_)
    · rw [show sc + (m + (i + 1)) = sc + (m + i) + 1 by omega]; exact q2.ps
    · exact h.1.2.2.2.1.tr ((c1.mo (fun _ z => by cases z) (by decide)).tr q2.2.2.2.1)
    · exact h.1.2.2.2.2.1.tr (s2.su fun _ z => z.up h.1.1)
    · obtain ⟨x1, x2, x3⟩ := h.1.2.2.2.2.2.1 j hj
      obtain ⟨y1, y2, y3⟩ := q2.2.2.2.2.2.1 j (by omega)
      refine ⟨y1.trans ((congrFun (c1.arr (by decide)) j).trans x1), y2.trans ((congrFun (c1.arr (by decide)) j).trans x2), y3.trans ?_⟩
      rw [e27, upd_ne (by omega)]
      exact x3
    · obtain ⟨x1, x2⟩ := h.1.2.2.2.2.2.2 j hj
      obtain ⟨y1, y2⟩ := q2.2.2.2.2.2.2 j hj
      exact ⟨y1.trans ((congrFun (c1.arr (by decide)) j).trans x1), y2.trans ((congrFun (c1.arr (by decide)) j).trans x2)⟩
    · rw [g27, e27]
      rcases Nat.lt_or_ge j (m + i) with y | y
      · rw [upd_ne (by omega)]
        obtain ⟨v, a, b, c, dd⟩ := h.2.2 j y
        exact ⟨v, a, b, c.sn s2 b, dd.sn h.1.ps.1.2.2.2 s2 b⟩
      · have : j = m + i := by omega
        rw [this, upd_at]
        exact ⟨ty, rfl, vt, ft.sn s2 vt, pt.sn h.1.ps.1.2.2.2 s2 vt⟩
    · obtain ⟨a', z', x1, x2, x3⟩ := hh j (by omega) b
      have e30 : γ.2 30 = α.2 30 := by
        have := q2.2.2.2.1
        exact (show γ.2 30 = β.2 30 from by
          unfold f_Mod_bindName at e2
          have ix : ¬ (β.1 19 < 0 ∨ 3400 ≤ (β.1 19).toNatClampNeg) := by rw [P1.2.2.2.1.1]; exact mix (by omega) (by decide)
          rw [if_neg ix, if_neg ix] at e2
          injection e2 with e2; injection e2 with _ e2
          rw [← e2]; rfl).trans (c1.arr (by decide))
      have e31 : γ.2 31 = α.2 31 := by
        exact (show γ.2 31 = β.2 31 from by
          unfold f_Mod_bindName at e2
          have ix : ¬ (β.1 19 < 0 ∨ 3400 ≤ (β.1 19).toNatClampNeg) := by rw [P1.2.2.2.1.1]; exact mix (by omega) (by decide)
          rw [if_neg ix, if_neg ix] at e2
          injection e2 with e2; injection e2 with _ e2
          rw [← e2]; rfl).trans (c1.arr (by decide))
      exact ⟨a', z', by rw [e30]; exact x1, by rw [e31]; exact x2, x3⟩
end B1
end TERMM
