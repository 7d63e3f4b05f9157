-- the reference's parser: the whole TERM
section TERMW
variable {N : Nat} {W : Nat → Prop} {s Lc : Nat} {Lr : Nat → Prop} {sz e : Nat} {kk : (Int32 → mS → Option (kO × mS)) × (Int32 → mS → Option (kO × mS)) × (Int32 → mS → Option (kO × mS)) × (Int32 → Int32 → mS → Option (kO × mS)) × (Int32 → mS → Option (kO × mS)) × (Int32 → mS → Option (kO × mS))}
/-- the types of names bound stand around a TERM -/
theorem bndg_51 {sc0 n k : Nat} (hn : nrm W s) (hk : k = 6 ∨ k = 7) : ∀ (m nn x t p sc ph : Nat) (α : mS), m < nn → m ≤ n → sc0 + n ≤ 3000 → sc = sc0 + n → PSm W s Lc Lr sz t p sc ph α → vd W s t x → fit α x → PN α x → (∀ i, i < n → ∃ v, α.2 27 (sc0 + i) = nI v ∧ vd W s t v ∧ fit α v ∧ PN α v) → rI (f_Mod_binding_51 N kk nn (nI m + (-1)) (nI x) (nI sc0) (nI k) α) (fun y β => ∃ r t1, y = nI r ∧ QP W s Lc Lr sz t p sc0 ph α sc0 ph t1 p β ∧ vd W s t1 r ∧ fit β r ∧ PN β r) (XP W s t α)
  | 0, nn, x, t, p, sc, ph, α, hm, hmn, hs3, hsc, h, vx, fx, px, hty => by
    obtain ⟨nn, rfl⟩ : ∃ n', nn = n' + 1 := ⟨nn - 1, by omega⟩
    rw [f_Mod_binding_51, if_pos (show nI 0 + (-1) < 0 by decide)]
    have q := h.cut (sc1 := sc0) (by omega)
    have s1 := q.2.2.2.2.1
    exact rI.ret ⟨x, t, rfl, q, vx, fx.sn s1 vx, px.sn h.1.2.2.2 s1 vx⟩
  | m + 1, nn, x, t, p, sc, ph, α, hm, hmn, hs3, hsc, h, vx, fx, px, hty => by
    obtain ⟨nn, rfl⟩ : ∃ n', nn = n' + 1 := ⟨nn - 1, by omega⟩
    obtain ⟨v, ev, vv, fv, pv⟩ := hty m (by omega)
    rw [f_Mod_binding_51, show nI (m + 1) + (-1) = nI m from nI_m1 m, if_neg (nI_pos (by omega)), nI_add]
    refine rI.ix (mix (by omega) (by decide)) ?_
    rw [nI_clamp (by omega), ev]
    refine node_k (k := k) hn h (by omega) vv vx pv px (fun z => by omega) (fun r t1 β q1 q2 q3 q4 _ => ?_) (fun _ q => q)
    have s1 := q1.2.2.2.2.1
    refine (bndg_51 hn hk m nn r t1 p sc ph β (by omega) (by omega) hs3 hsc q1.ps q2 q3 q4 (fun i hi => ?_)).mono (fun y γ u => ?_) (fun γ u => q1.tx u)
    · obtain ⟨v, a, b, c, d⟩ := hty i hi
      exact ⟨v, by rw [(q1.2.2.2.2.2.1 (sc0 + i) (by omega)).2.2]; exact a, b.up q1.1, c.sn s1 b, d.sn h.1.2.2.2 s1 b⟩
    · obtain ⟨r2, t2, e2, u1, u2⟩ := u
      refine ⟨r2, t2, e2, ⟨Nat.le_trans q1.1 u1.1, u1.2.1, u1.2.2.1, q1.2.2.2.1.tr u1.2.2.2.1, s1.tr (u1.2.2.2.2.1.su fun _ z => z.up q1.1), fun i hi => ?_, fun i hi => ?_⟩, u2⟩
      · obtain ⟨a1, a2, a3⟩ := u1.2.2.2.2.2.1 i hi
        obtain ⟨b1, b2, b3⟩ := q1.2.2.2.2.2.1 i (by omega)
        exact ⟨a1.trans b1, a2.trans b2, a3.trans b3⟩
      · obtain ⟨a1, a2⟩ := u1.2.2.2.2.2.2 i hi
        obtain ⟨b1, b2⟩ := q1.2.2.2.2.2.2 i hi
        exact ⟨a1.trans b1, a2.trans b2⟩
theorem binding_ok (hN : 400000 < N) (hn : nrm W s) (he : e ≤ 100) (hb : ∀ (t p sc ph : Nat) (α : mS), PSm W s Lc Lr sz t p sc ph α → sc ≤ 3100 → rI (kk.2.2.1 (nI (100 - e)) α) (BQm W s Lc Lr sz t p sc ph α) (XP W s t α)) (hk : ∀ e', e = e' + 1 → TmS W s Lc Lr sz e' kk.2.2.2.2.2) : BgS W s Lc Lr sz e (f_Mod_binding N kk) := by
  intro k t p sc ph α hk67 h hsc
  unfold f_Mod_binding
  obtain ⟨β, p1, e1, a1, a2, a3, -⟩ := take_m hN h.2.1
  rw [e1]
  have q1 := h.lx a1 a2 a3
  show rI (mBi (kk.2.2.1 (nI (100 - e)) β) _) _ _
  refine (hb t p1 sc ph β q1.ps (by omega)).bi (fun v γ u => ?_) (fun γ u => q1.tx u)
  obtain ⟨n, t2, p2, rfl, u1, u2, u3⟩ := u
  have c1 : ∀ δ, XP W s t2 γ δ → XP W s t α δ := fun δ g => q1.tx (u1.tx g)
  rw [q1.ps.2.2.2.1.1]
  have j31 : ∀ x : Int32, rI (f_Mod_binding_j31 N kk (nI n) (nI sc) (nI (100 - e)) (nI k) x γ) (TQr W s Lc Lr sz t p sc ph α) (XP W s t α) := fun x => by
    unfold f_Mod_binding_j31
    refine (must_ok hN u1.ps.2.1).bi (fun δ g => ?_) (fun δ g => c1 δ (lx_x g))
    obtain ⟨p3, g1, -, g2, g3⟩ := g
    have q3 := u1.tr (u1.ps.lx g1 g2 g3) (by omega) (Nat.le_refl _)
    have c3 : ∀ ε, XP W s t2 δ ε → XP W s t α ε := fun ε g => q1.tx (q3.tx g)
    refine (nest_ok hN (by omega) g2).bi (fun v ε g => ?_) (fun ε g => c3 ε (lx_x g))
    obtain ⟨rfl, rfl, g4⟩ := g
    obtain ⟨e', rfl⟩ : ∃ e', e = e' + 1 := ⟨e - 1, by omega⟩
    rw [show 100 - (e' + 1) + 1 = 100 - e' by omega]
    refine (hk e' rfl t2 p3 (sc + n) ph ε q3.ps (by omega)).bi (fun v ζ y => ?_) (fun ζ y => c3 ζ y)
    obtain ⟨x0, t4, p4, rfl, y1, y2, y3, y4⟩ := y
    have q4 := q3.tr y1 (by omega) (Nat.le_refl _)
    have s4 : sN (vd W s t2) γ ζ := (sN.ch g3 (fun r _ _ z => by cases z)).tr y1.2.2.2.2.1
    rw [show nI n - 1 = nI n + (-1) from Int32.sub_eq_add_neg _ _]
    refine (bndg_51 (n := n) (sc0 := sc) hn hk67 n N x0 t4 p4 (sc + n) ph ζ (by omega) (Nat.le_refl _) u2 rfl y1.ps y2 y3 y4 (fun i hi => ?_)).mono (fun v η z => ?_) (fun η z => q1.tx (q4.tx z))
    · obtain ⟨v, a, b, c, d⟩ := u3 i hi
      refine ⟨v, ?_, b.up y1.1, c.sn s4 b, d.sn u1.ps.1.2.2.2 s4 b⟩
      rw [(y1.2.2.2.2.2.1 (sc + i) (by omega)).2.2, g3.arr (fun z => by cases z)]
      exact a
    · obtain ⟨r, t5, e5, z1, z2, z3, z4⟩ := z
      refine ⟨r, t5, p4, e5, ?_, z2, z3, z4⟩
      have q5 : QP W s Lc Lr sz t p1 sc ph β sc ph t5 p4 η := by
        refine ⟨Nat.le_trans q4.1 z1.1, q4.2.1, z1.2.2.1, q4.2.2.2.1.tr z1.2.2.2.1, q4.2.2.2.2.1.tr (z1.2.2.2.2.1.su fun _ z => z.up q4.1), fun i hi => ?_, fun i hi => ?_⟩
        · obtain ⟨a1, a2, a3⟩ := z1.2.2.2.2.2.1 i hi
          obtain ⟨b1, b2, b3⟩ := q4.2.2.2.2.2.1 i hi
          exact ⟨a1.trans b1, a2.trans b2, a3.trans b3⟩
        · obtain ⟨a1, a2⟩ := z1.2.2.2.2.2.2 i hi
          obtain ⟨b1, b2⟩ := q4.2.2.2.2.2.2 i hi
          exact ⟨a1.trans b1, a2.trans b2⟩
      exact q1.tr q5 (Nat.le_refl _) (Nat.le_refl _)
  exact rI.ite (fun _ => j31 301) fun _ => j31 44
/-- after a name bound and a TERM read within, the name is forgotten -/
theorem QP.pop {t p sc ph t1 p1 t2 p2 : Nat} {α β γ : mS} (h : QP W s Lc Lr sz t p sc ph α (sc + 1) ph t1 p1 β) (h' : QP W s Lc Lr sz t1 p1 (sc + 1) ph β (sc + 1) ph t2 p2 γ) : QP W s Lc Lr sz t p sc ph α sc ph t2 p2 (mSi γ 19 (nI sc)) := by
  have q := h'.ps.cut (sc1 := sc) (by omega)
  have a := h.tr h' (by omega) (Nat.le_refl _)
  refine ⟨a.1, a.2.1, q.2.2.1, a.2.2.2.1.tr q.2.2.2.1, a.2.2.2.2.1.tr (q.2.2.2.2.1.su fun _ z => z.up a.1), fun i hi => ?_, fun i hi => ?_⟩
  · obtain ⟨b1, b2, b3⟩ := q.2.2.2.2.2.1 i hi
    obtain ⟨c1, c2, c3⟩ := a.2.2.2.2.2.1 i hi
    exact ⟨b1.trans c1, b2.trans c2, b3.trans c3⟩
  · obtain ⟨b1, b2⟩ := q.2.2.2.2.2.2 i hi
    obtain ⟨c1, c2⟩ := a.2.2.2.2.2.2 i hi
    exact ⟨b1.trans c1, b2.trans c2⟩
theorem nestT {t p sc ph e : Nat} {α : mS} {k : Int32 → mS → Option (kO × mS)} {P : Int32 → mS → Prop} {X : mS → Prop} (hN : 400000 < N) (he : e ≤ 100) (hk : ∀ e', e = e' + 1 → TmS W s Lc Lr sz e' kk.2.2.2.2.2) (h : PSm W s Lc Lr sz t p sc ph α) (hsc : sc ≤ 3000 + (100 - e) + 1) (hkk : ∀ r t1 p1 β, QP W s Lc Lr sz t p sc ph α sc ph t1 p1 β → vd W s t1 r → fit β r → PN β r → rI (k (nI r) β) P X) (hX : ∀ β, XP W s t α β → X β) : rI (mBi (f_Mod_nest N (nI (100 - e)) α) fun v19 α17 => (mBi (kk.2.2.2.2.2 v19 α17) fun v22 α20 => k v22 α20)) P X := by
  refine (nest_ok hN (by omega) h.2.1).bi (fun v ε g => ?_) (fun ε g => hX ε (lx_x g))
  obtain ⟨rfl, rfl, g4⟩ := g
  obtain ⟨e', rfl⟩ : ∃ e', e = e' + 1 := ⟨e - 1, by omega⟩
  rw [show 100 - (e' + 1) + 1 = 100 - e' by omega]
  refine (hk e' rfl t p sc ph ε h (by omega)).bi (fun v ζ y => ?_) hX
  obtain ⟨x0, t4, p4, rfl, y1, y2, y3, y4⟩ := y
  exact hkk x0 t4 p4 ζ y1 y2 y3 y4
theorem letting_ok (hN : 400000 < N) (hn : nrm W s) (he : e ≤ 100) (hk : ∀ e', e = e' + 1 → TmS W s Lc Lr sz e' kk.2.2.2.2.2) : TmS W s Lc Lr sz e (f_Mod_letting N kk) := by
  intro t p sc ph α h hsc
  unfold f_Mod_letting
  obtain ⟨β, p1, e1, a1, a2, a3, -⟩ := take_m hN h.2.1
  rw [e1]
  have q1 := h.lx a1 a2 a3
  show rI (mBi (f_Mod_peek N β) _) _ _
  refine q1.ps.iq (peek_q hN a2) (fun v γ p2 e2 q2 k2 _ => ?_)
  have q2 := q1.tr q2 (Nat.le_refl _) (Nat.le_refl _)
  refine rI.ite (fun _ => ?_) fun _ => cant_r hN k2.1 fun δ g => q2.tx (lx_x g)
  refine q2.ps.iq (reserved_ok hN k2.1) (fun v δ p3 e3 q3 k3 _ => ?_)
  have q3 := q2.tr q3 (Nat.le_refl _) (Nat.le_refl _)
  refine rI.ite (fun _ => ?_) fun _ => cant_r hN k3.1 fun δ g => q3.tx (lx_x g)
  obtain ⟨⟨k0, ksz, k5, kp, kk'⟩, k9⟩ := k3
  obtain ⟨a, ee, k7, k8, kae, kes, -⟩ := kk'.resolve_left k9
  rw [k7, k8, sub_nI kae]
  obtain ⟨ε, p4, e4, b1, b2, b3, -⟩ := take_m hN q3.ps.2.1
  rw [e4]
  have q4 := q3.tr (q3.ps.lx b1 b2 b3) (Nat.le_refl _) (Nat.le_refl _)
  show rI (mBv (f_Mod_must N 58 ε) _) _ _
  refine (must_ok hN b2).bi (fun ζ g => ?_) (fun ζ g => q4.tx (lx_x g))
  obtain ⟨p5, g1, -, g2, g3⟩ := g
  have q5 := q4.tr (q4.ps.lx g1 g2 g3) (Nat.le_refl _) (Nat.le_refl _)
  refine nestT hN he hk q5.ps (by omega) (fun x t6 p6 η u1 u2 u3 u4 => ?_) (fun β g => q5.tx g)
  have q6 := q5.tr u1 (Nat.le_refl _) (Nat.le_refl _)
  refine (must_ok hN u1.ps.2.1).bi (fun θ g => ?_) (fun ζ g => q6.tx (lx_x g))
  obtain ⟨p7, c1, -, c2, c3⟩ := g
  have q7' := u1.ps.lx c1 c2 c3
  have q7 := q6.tr q7' (Nat.le_refl _) (Nat.le_refl _)
  refine nestT hN he hk q7.ps (by omega) (fun y t8 p8 ι w1 w2 w3 w4 => ?_) (fun β g => q7.tx g)
  have q8 := q7.tr w1 (Nat.le_refl _) (Nat.le_refl _)
  refine (mustBe_ok hN (by decide) w1.ps.2.1).bi (fun κ g => ?_) (fun ζ g => q8.tx (lx_x g))
  obtain ⟨p9, d1, d2, d3⟩ := g
  have q9' := w1.ps.lx d1 d2 d3
  have q9 := q8.tr q9' (Nat.le_refl _) (Nat.le_refl _)
  obtain ⟨l, el, ql, -⟩ := bind_ok (N := N) q9.ps (by omega) (show a + (ee - a) ≤ 65536 by omega)
  rw [el]
  show rI (mBi (f_Mod_nest N (nI (100 - e)) l) _) _ _
  have ql0 : ∀ β, XP W s t8 l β → XP W s t α β := fun β g => q9.tx (ql.tx g)
  refine nestT hN he hk ql.ps (by omega) (fun z t10 p10 m z1 z2 z3 z4 => ?_) (fun β g => ql0 β g)
  have qm := ql.pop z1
  have eS : m.1 19 - 1 = nI sc := by rw [z1.ps.2.2.2.1.1]; exact nI_pred sc
  rw [eS]
  have q10 := q9.tr qm (Nat.le_refl _) (Nat.le_refl _)
  have sx : sN (vd W s t6) η (mSi m 19 (nI sc)) := q7'.2.2.2.2.1.tr ((w1.2.2.2.2.1.tr ((q9'.2.2.2.2.1.tr qm.2.2.2.2.1).su fun _ z => z.up w1.1)))
  have sy : sN (vd W s t8) ι (mSi m 19 (nI sc)) := q9'.2.2.2.2.1.tr qm.2.2.2.2.1
  have t6t8 : t6 ≤ t8 := w1.1
  have t8t10 : t8 ≤ t10 := qm.1
  refine node_k (k := 9) (c := nI z) hn qm.ps (by decide) (u2.up (Nat.le_trans t6t8 t8t10)) (w2.up t8t10) (u4.sn u1.ps.1.2.2.2 sx u2) (w4.sn w1.ps.1.2.2.2 sy w2) (fun _ => ⟨z, rfl, z2, z4.sn z1.ps.1.2.2.2 (sN.ch (I := [19]) (R := []) (mch.si (by decide)) (fun r _ _ z => by cases z)) z2⟩) (fun r t11 β y1 y2 y3 y4 _ => ?_) (fun β g => q10.tx g)
  exact rI.ret ⟨r, t11, p10, rfl, q10.tr y1 (Nat.le_refl _) (Nat.le_refl _), y2, y3, y4⟩
theorem term_ok (hN : 400000 < N) (hn : nrm W s) (he : e ≤ 100) (ha : TmS W s Lc Lr sz e kk.1) (hb : BgS W s Lc Lr sz e kk.2.2.2.1) (hl : TmS W s Lc Lr sz e kk.2.2.2.2.1) (hk : ∀ e', e = e' + 1 → TmS W s Lc Lr sz e' kk.2.2.2.2.2) : TmS W s Lc Lr sz e (f_Mod_term N kk) := by
  intro t p sc ph α h hsc
  have up : ∀ {β : mS} {t1 p1 : Nat} {f : Option (kO × mS)}, QP W s Lc Lr sz t p sc ph α sc ph t1 p1 β → rI f (TQr W s Lc Lr sz t1 p1 sc ph β) (XP W s t1 β) → rI f (TQr W s Lc Lr sz t p sc ph α) (XP W s t α) := fun q g => g.mono (fun v ζ g => TQr.of q (Nat.le_refl _) (Nat.le_refl _) g rfl rfl) (fun ζ g => q.tx g)
  have j20 : ∀ (β : mS) (p1 : Nat), QP W s Lc Lr sz t p sc ph α sc ph t p1 β → rI (f_Mod_term_j20 N kk (nI (100 - e)) β) (TQr W s Lc Lr sz t p sc ph α) (XP W s t α) := fun β p1 q => by
    unfold f_Mod_term_j20
    refine q.ps.iq (is_ok hN (by decide) q.ps.2.1) (fun v γ p2 e2 q2 k2 _ => ?_)
    have q2 := q.tr q2 (Nat.le_refl _) (Nat.le_refl _)
    exact rI.ite (fun _ => up q2 (hb 6 t p2 sc ph γ (Or.inl rfl) q2.ps hsc).end) fun _ => up q2 (hb 7 t p2 sc ph γ (Or.inr rfl) q2.ps hsc).end
  unfold f_Mod_term
  refine h.iq (is_ok hN (by decide) h.2.1) (fun v1 β1 p1 e1 q1 k1 _ => rI.ite (fun _ => ?_) fun _ => j20 β1 p1 q1)
  refine q1.ps.iq (is_ok hN (by decide) q1.ps.2.1) (fun v2 β2 p2 e2 q2 k2 _ => ?_)
  have q2 := q1.tr q2 (Nat.le_refl _) (Nat.le_refl _)
  refine rI.ite (fun _ => ?_) fun _ => j20 β2 p2 q2
  refine q2.ps.iq (is_ok hN (by decide) q2.ps.2.1) (fun v3 β3 p3 e3 q3 k3 _ => ?_)
  have q3 := q2.tr q3 (Nat.le_refl _) (Nat.le_refl _)
  refine rI.ite (fun _ => ?_) fun _ => up q3 (hl t p3 sc ph β3 q3.ps hsc).end
  refine (ha t p3 sc ph β3 q3.ps hsc).bi (fun v γ u => ?_) (fun γ u => q3.tx u)
  obtain ⟨x, t4, p4, rfl, u1, u2, u3, u4⟩ := u
  have q4 := q3.tr u1 (Nat.le_refl _) (Nat.le_refl _)
  refine u1.ps.iq (peek_q hN u1.ps.2.1) (fun v5 β5 p5 e5 q5' k5 _ => ?_)
  have q5 := q4.tr q5' (Nat.le_refl _) (Nat.le_refl _)
  have s5 := q5'.2.2.2.2.1
  refine rI.ite (fun _ => ?_) fun _ => rI.ret ⟨x, t4, p5, rfl, q5, u2, u3.sn s5 u2, u4.sn u1.ps.1.2.2.2 s5 u2⟩
  obtain ⟨β6, p6, e6, b1, b2, b3, -⟩ := take_m hN q5.ps.2.1
  rw [e6]
  have q6' := q5.ps.lx b1 b2 b3
  have q6 := q5.tr q6' (Nat.le_refl _) (Nat.le_refl _)
  show rI (mBv (f_Mod_bindName N 0 0 β6) _) _ _
  obtain ⟨l, el, ql, -⟩ := bind_ok (N := N) (a := 0) (z := 0) q6.ps (by omega) (by decide)
  have el : f_Mod_bindName N 0 0 β6 = some (some none, l) := el
  rw [el]
  show rI (mBi (f_Mod_nest N (nI (100 - e)) l) _) _ _
  refine nestT hN he hk ql.ps (by omega) (fun z t10 p10 m z1 z2 z3 z4 => ?_) (fun β g => q6.tx (ql.tx g))
  have qm := ql.pop z1
  have eS : m.1 19 - 1 = nI sc := by rw [z1.ps.2.2.2.1.1]; exact nI_pred sc
  rw [eS]
  have q10 := q6.tr qm (Nat.le_refl _) (Nat.le_refl _)
  have sx : sN (vd W s t4) γ (mSi m 19 (nI sc)) := s5.tr (q6'.2.2.2.2.1.tr qm.2.2.2.2.1)
  refine node_k (k := 6) hn qm.ps (by decide) (u2.up qm.1) z2 (u4.sn u1.ps.1.2.2.2 sx u2) (z4.sn z1.ps.1.2.2.2 (sN.ch (I := [19]) (R := []) (mch.si (by decide)) (fun r _ _ z => by cases z)) z2) (fun z => absurd z (by decide)) (fun r t11 β y1 y2 y3 y4 _ => ?_) (fun β g => q10.tx g)
  exact rI.ret ⟨r, t11, p10, rfl, q10.tr y1 (Nat.le_refl _) (Nat.le_refl _), y2, y3, y4⟩
/-- a TERM is read -/
theorem term_all (hN : 400000 < N) (hn : nrm W s) : ∀ (e L : Nat), e ≤ 100 → 3 * e + 3 ≤ L → TmS W s Lc Lr sz e (G_applied N L).2.2.2.2.2
  | e, L, he, hL => by
    obtain ⟨L, rfl⟩ : ∃ l, L = l + 3 := ⟨L - 3, by omega⟩
    have h0 : ∀ e', e = e' + 1 → TmS W s Lc Lr sz e' (G_applied N L).2.2.2.2.2 := fun e' ee => by subst ee; exact term_all hN hn e' L (by omega) (by omega)
    have h1 : ∀ e', e = e' + 1 → TmS W s Lc Lr sz e' (G_applied N (L + 1)).2.2.2.2.2 := fun e' ee => by subst ee; exact term_all hN hn e' (L + 1) (by omega) (by omega)
    have h2 : ∀ e', e = e' + 1 → TmS W s Lc Lr sz e' (G_applied N (L + 2)).2.2.2.2.2 := fun e' ee => by subst ee; exact term_all hN hn e' (L + 2) (by omega) (by omega)
    refine term_ok hN hn he ?_ ?_ ?_ h2
    · exact appl_ok hN hn (atom_ok hN hn he h0)
    · exact binding_ok hN hn he (fun t p sc ph α h hsc => binders_ok hN he h0 h hsc) h1
    · exact letting_ok hN hn he h1
theorem term_0 (hN : 400000 < N) (hn : nrm W s) {t p sc ph : Nat} {α : mS} (h : PSm W s Lc Lr sz t p sc ph α) (hsc : sc ≤ 3000) : rI ((G_applied N dp_applied).2.2.2.2.2 0 α) (TQr W s Lc Lr sz t p sc ph α) (XP W s t α) := term_all hN hn 100 dp_applied (by decide) (by decide) t p sc ph α h (by omega)
theorem binders_0 (hN : 400000 < N) (hn : nrm W s) {t p sc ph : Nat} {α : mS} (h : PSm W s Lc Lr sz t p sc ph α) (hsc : sc ≤ 3000) : rI ((G_applied N dp_applied).2.2.1 0 α) (BQm W s Lc Lr sz t p sc ph α) (XP W s t α) := binders_ok (e := 100) hN (by decide) (fun e' ee => by
    have : e' = 99 := by omega
    subst this
    exact term_all hN hn 99 339 (by decide) (by decide)) h (by omega)
end TERMW
