-- constructor, whole
/-- the text of a CONSTRUCTOR and the types of the parameters -/
def TXF (κ t : Nat) (α : mS) (np : Nat) (ts : Nat → Nat) (j tx : Nat) : Prop := (α.2 34 j = nI tx ∧ vd (· < κ) 32000 t tx ∧ fit α tx ∧ PN α tx) ∧ ∀ i, i < np → α.2 27 i = nI (ts i) ∧ vd (· < κ) 32000 t (ts i) ∧ PN α (ts i)
section CON2
variable {N : Nat} {κ k np : Nat} {Lr : Nat → Prop} {t0 t1 w w1 nv nv1 U : Nat} {P : Nat → Nat} {α β γ : mS} {j c f : Nat}
theorem TXF.gr {Lc tx : Nat} {ts : Nat → Nat} (h : TXF κ t0 α np ts j tx) (hP : PO (· < κ) 32000 Lc Lr t0 α) (g : GR (· < κ) 32000 t0 α nv (· < κ) t1 nv1 β) (e34 : β.2 34 = α.2 34) (e27 : β.2 27 = α.2 27) : TXF κ t1 β np ts j tx := by
  obtain ⟨⟨a, b, d, e⟩, h2⟩ := h
  refine ⟨⟨by rw [e34]; exact a, g.1 _ b, d.sn g.2.1 b, e.sn hP.2.2.2 g.2.1 b⟩, fun i hi => ?_⟩
  obtain ⟨a, b, d⟩ := h2 i hi
  exact ⟨by rw [e27]; exact a, g.1 _ b, d.sn hP.2.2.2 g.2.1 b⟩
theorem CI.gr {nq B i tm oc : Nat} {G z : Nat → Nat} (h : CI κ k np nq j c f B Lr t0 α w nv P G z i tm oc) (hI : IS (· < κ) 32000 (k + 1) Lr np t1 β w1 nv1) (g : GR (· < κ) 32000 t0 α nv (· < κ) t1 nv1 β) (hr : ∀ r, r ∈ [13, 33, 36, 38, 39, 43] → β.2 r = α.2 r) (h29 : β.1 29 = α.1 29) : CI κ k np nq j c f B Lr t1 β w1 nv1 P G z i tm oc := by
  obtain ⟨hb, ⟨a1, a2, a3⟩, ha, ⟨vt, ft, at'⟩, ⟨hB, hD⟩, h43, hoc⟩ := h
  have hP := hb.1.po
  exact ⟨hb.gr hI g (hr 13 (by decide)) (hr 33 (by decide)), ⟨h29.trans a1, by rw [hr 36 (by decide)]; exact a2, a3⟩, ha.gr hP g (fun l _ => ⟨by rw [hr 38 (by decide)], by rw [hr 39 (by decide)]⟩), ⟨g.1 _ vt, ft.sn g.2.1 vt, at'.sn hP.2.2.2 g.2.1 vt⟩, ⟨by rw [g.2.1.b vt]; exact hB, by rw [g.2.1.d vt]; exact hD⟩, by rw [hr 43 (by decide)]; exact h43, hoc⟩
theorem CP.tr {nq B i i' : Nat} {G z G' z' : Nat → Nat} (hi : i ≤ i') (hG : ∀ l, l < f + i → G' l = G l ∧ z' l = z l) (g : GR (· < κ) 32000 t0 α nv (· < κ) t1 nv1 β) (hc : CR j c f α β) {γ : mS} (y : CP κ k np nq j c f B Lr P G' z' i' t1 nv1 β γ) : CP κ k np nq j c f B Lr P G z i t0 nv α γ := by
  obtain ⟨t2, w2, nv2, m, e, wh, G2, z2, y1, y2, y3, y4, y5, y6, y7, y8, y9, y10⟩ := y
  exact ⟨t2, w2, nv2, m, e, wh, G2, z2, fun l hl => ⟨(y1 l (by omega)).1.trans (hG l hl).1, (y1 l (by omega)).2.trans (hG l hl).2⟩, y2, y3, y4, y5, y6, y7, y8, g.tr y9, hc.tr y10⟩
theorem GR.ch {I R : List Nat} {W : Nat → Prop} {s : Nat} (h : mch I R α β) (h2 : ∀ r, 2 ≤ r → r ≤ 7 → r ∉ R) (h32 : 32 ∉ R) : GR W s t0 α nv W t0 nv β := ⟨fun _ z => z, sN.ch h h2, Nat.le_refl _, fun l _ => by rw [h.arr h32]⟩
def cE (α : mS) (mk : Int32) (c j : Nat) (k np : Int32) : mS :=
  let a1 := mSi α 10 mk
  let a2 := mSA a1 12 (upd (a1.2 12) c 4)
  let a3 := mSA a2 23 (upd (a2.2 23) c k)
  let a4 := mSA a3 18 (upd (a3.2 18) c (α.1 29 - a3.2 36 j))
  let a5 := mSA a4 15 (upd (a4.2 15) c np)
  let a6 := mSA a5 16 (upd (a5.2 16) c 0)
  let a7 := mSA a6 17 (upd (a6.2 17) c 0)
  mSA a7 14 (upd (a7.2 14) c (-1))
theorem cE_is {mk kk nn : Int32} {c j : Nat} : (cE α mk c j kk nn).1 10 = mk ∧ mch [10] [12, 14, 15, 16, 17, 18, 23] α (cE α mk c j kk nn) ∧ (cE α mk c j kk nn).2 12 = upd (α.2 12) c 4 ∧ (cE α mk c j kk nn).2 23 = upd (α.2 23) c kk ∧ (cE α mk c j kk nn).2 18 = upd (α.2 18) c (α.1 29 - α.2 36 j) ∧ (cE α mk c j kk nn).2 15 = upd (α.2 15) c nn ∧ (cE α mk c j kk nn).2 16 = upd (α.2 16) c 0 ∧ (cE α mk c j kk nn).2 17 = upd (α.2 17) c 0 ∧ (cE α mk c j kk nn).2 14 = upd (α.2 14) c (-1) :=
  ⟨rfl, ((((((((mch.si (by decide)).tr (mch.sA (by decide))).tr (mch.sA (by decide))).tr (mch.sA (by decide))).tr (mch.sA (by decide))).tr (mch.sA (by decide))).tr (mch.sA (by decide))).tr (mch.sA (by decide))), rfl, rfl, rfl, rfl, rfl, rfl, rfl⟩
theorem con_44 {nq q B tx : Nat} {ts : Nat → Nat} {y4 : Int32} (hN : 400000 < N) (hκ : κ ≤ 32000) (hnq : np + q = nq) (hq9 : nq ≤ 199) (hcj : c = k + 1 + j) (hc3 : c < 301) (hLr : ∀ j, Lr j → j < k + 1) : ∀ (b nn t0 w nv i tm oc : Nat) (G z : Nat → Nat) (α : mS), uB α tm ≤ b → b < nn → CI κ k np nq j c f B Lr t0 α w nv P G z i tm oc → TXF κ t0 α np ts j tx → rV (f_Mod_constructor_44 N nn (nI tm) (nI k) (nI c) (nI j) y4 (nI np) (nI q) α) (CP κ k np nq j c f B Lr P G z i t0 nv α) (XD k κ α)
  | 0, nn, t0, w, nv, i, tm, oc, G, z, α, hb, hm, h, htx => by
    have := big_pos h.1.1.po.2.2.2 h.2.2.2.1.1
    omega
  | b + 1, nn, t0, w, nv, i, tm, oc, G, z, α, hb, hm, h, htx => by
    obtain ⟨nn, rfl⟩ : ∃ n', nn = n' + 1 := ⟨nn - 1, by omega⟩
    have hn := nrmk hκ
    obtain ⟨hB, ⟨h29, h36, hf3⟩, ha, ⟨vt, ft, at'⟩, ⟨hs, hd⟩, h43, hoc⟩ := id h
    have hI := hB.1
    have hP := hI.po
    have hW := hP.2.2.2
    have b1 := big_pos hW vt
    have d1 := (hW tm vt).2.2.2.1.2.1
    have vX : ∀ i, i < κ → vd (· < κ) 32000 t0 i := fun _ z => Or.inl z
    have hj : j < 301 := by omega
    rw [f_Mod_constructor_44, hW.cl vt, nI_clamp (show j < 2 ^ 31 by omega), nI_clamp (show c < 2 ^ 31 by omega)]
    refine rV.ix (hW.ix vt) (rV.ite (fun k6 => rV.ix (hW.ix vt) ?_) fun nk => ?_)
    · -- an argument more
      have k6 : uK α tm = 6 := (hW.is vt (m := 6) (by decide)).mp k6
      have p3 := hW.p3 vt (by omega)
      have p4 := hW.p4 vt (by omega)
      have fp := ft.p hW vt (by omega)
      have ap := at'.p (by omega)
      have dd := hW.dd vt (by omega)
      have d2 := (hW _ p4.2.2).2.2.2.1.2.1
      rw [p3.1]
      refine (sortOf_all hN hn (by omega) t0 (uA α tm) w nv α hI p3.2.2 fp.1 (hB.ax ha p3.2.2 ap.1)).bv (fun u δ g => ?_) (fun δ g => XD.in g vk)
      obtain ⟨t1, w1, nv1, g⟩ := g
      have hIδ := h.gr g.is g.gr (fun r hr => g.2.1.arr (by revert hr; revert r; decide)) (g.2.1.int (by decide))
      have kδ : CR j c f α δ := CR.ch g.2.1 (by decide) (by decide)
      have k6δ : uK δ tm = 6 := by rw [g.2.2.1.k vt]; exact k6
      have eA : uA δ tm = uA α tm := g.2.2.1.a vt
      have xg : XD k κ α δ := kδ.xd (by omega) g.2.2.1 vX
      have htδ := htx.gr hP g.gr (g.2.1.arr (by decide)) (g.2.1.arr (by decide))
      have Pδ := g.is.po
      have vtδ := g.v vt
      have ftδ := g.ft vt ft
      have fpδ := ftδ.p Pδ.2.2.2 vtδ (by omega)
      have p3δ := Pδ.2.2.2.p3 vtδ (by omega)
      -- from a state like δ
      have fin : ∀ (ε : mS) (y11 : Int32), mch [] [19] δ ε → (∀ l, l ≠ c → ε.2 19 l = δ.2 19 l) → (vp_nar .boolean y11 ≠ 0 → ∃ x, FEn δ nq x (uA δ tm)) → rV (f_Mod_constructor_j185 N (f_Mod_constructor_44 N nn) y11 u (nI (uA α tm)) (nI tm) (nI k) (nI c) (nI j) y4 (nI np) (nI q) ε) (CP κ k np nq j c f B Lr P G z i t0 nv α) (XD k κ α) := fun ε y11 ce h19 hr => by
        have gε : GR (· < κ) 32000 t1 δ nv1 (· < κ) t1 nv1 ε := GR.ch ce (fun r a b z => by have := List.mem_singleton.mp z; omega) (by decide)
        have hIε := hIδ.gr (g.is.ch ce (fun i _ z => by cases z) (by decide)) gε (fun r hr => ce.arr (by revert hr; revert r; decide)) (ce.int (fun z => by cases z))
        have kε : CR j c f δ ε := ⟨ce.mo (fun _ z => by cases z) (by decide), fun r hr l _ => by rw [ce.arr (by revert hr; revert r; decide)], fun r hr l _ => by rw [ce.arr (by revert hr; revert r; decide)], fun r hr l hl => by
          by_cases e : r = 19
          · rw [e]; exact h19 l hl
          · rw [ce.arr (fun z => e (List.mem_singleton.mp z))]⟩
        have kA := kδ.tr kε
        have sA : sN (vd (· < κ) 32000 t0) α ε := g.2.2.1.tr (gε.2.1.su fun _ z => z.up g.1)
        have eAε : uA ε tm = uA α tm := by rw [gε.2.1.a vtδ]; exact eA
        have xA : XD k κ α ε := kA.xd (by omega) sA vX
        have htε := htδ.gr Pδ gε (ce.arr (by decide)) (ce.arr (by decide))
        rw [← eAε]
        refine con_185 hN hκ (by omega) hj hIε (by rw [gε.2.1.k vtδ]; exact k6δ) (by omega) (fun y => ?_) (fun ζ y1 y2 => xA.tr (y1.xd (by omega) y2 vk)) (fun ζ y1 y2 => xA.tr (XD.in ⟨y1, y2⟩ vk)) (fun ζ η y1 y2 y3 => xA.tr ((y1.xd (by omega) y2 vk).tr (XD.in y3 vk))) (fun t2 ζ w2 r oc' G' z' y1 y2 y3 y4 y5 => ?_)
        · obtain ⟨x, hx⟩ := hr y
          rw [gε.2.1.a vtδ]
          exact ⟨x, hx.sn Pδ.2.2.2 gε.2.1 p3δ.2.2⟩
        · have bb : uB ε tm = uB α tm := by rw [gε.2.1.b vtδ]; exact g.2.2.1.b vt
          refine (con_44 hN hκ hnq hq9 hcj hc3 hLr b nn t2 w2 (nv1 + 1) (i + 1) r oc' G' z' ζ (by omega) (by omega) y2 (htε.gr (hIε.1.1.po) y4 (y5.1.arr (by decide)) (y5.1.arr (by decide)))).mono (fun η y => ?_) (fun η y => (xA.tr (y5.xd (by omega) y4.2.1 vk)).tr y)
          exact CP.tr (by omega) y1 ((g.gr.tr gε).tr y4) (kA.tr y5) y
      have go : rV (f_Mod_constructor_j92 N (f_Mod_constructor_44 N nn) u (nI (uA α tm)) (nI tm) (nI k) (nI c) (nI j) y4 (nI np) (nI q) δ) (CP κ k np nq j c f B Lr P G z i t0 nv α) (XD k κ α) := by
        unfold f_Mod_constructor_j92
        obtain ⟨x, ex⟩ := hasm_ok hN Pδ.2.2.2 dp_has (uA α tm) (nI k) (g.v p3.2.2) (Nat.le_trans (fp.1.sn g.2.2.1 p3.2.2).2 (by decide))
        refine rV.ob ex (rV.ite (fun x0 => ?_) fun _ => ?_)
        · refine fin δ x mch.rf (fun _ _ => rfl) (fun y => absurd ?_ y)
          rw [x0]; rfl
        · refine con_110 hN Pδ hnq (by omega) hc3 (fun a b => xg.tr (XD.of (mch.th (I := [100, 101]) (R := []) (by decide) (by decide)) (by decide) (fun r _ _ z => by cases z) (sN.ch (mch.th (I := [100, 101]) (R := []) (by decide) (by decide)) (fun r _ _ z => by cases z)))) (uB δ (uA α tm)) (uA α tm) N (Nat.le_refl _) (by have := (fp.1.sn g.2.2.1 p3.2.2).1; omega) (g.v p3.2.2) (fp.1.sn g.2.2.1 p3.2.2) (fun y hy => ?_)
          exact fin _ x (mch.sA (by decide)) (fun l hl => upd_ne hl) (fun _ => ⟨y, by rw [eA]; exact hy⟩)
      refine rV.ite (fun _ => go) fun _ => rV.ite (fun _ => go) fun _ => rV.thr (xg.tr (XD.of (mch.th (I := [100, 101]) (R := []) (by decide) (by decide)) (by decide) (fun r _ _ z => by cases z) (sN.ch (mch.th (I := [100, 101]) (R := []) (by decide) (by decide)) (fun r _ _ z => by cases z))))
    · -- the end
      obtain ⟨v, ev, hv⟩ := isf_ok (k := k) hN hP vt ft (show np + q ≤ 5000 by omega)
      rw [hnq] at hv
      refine rV.ob ev (rV.ite (fun _ => rV.thr (XD.of (mch.th (I := [100, 101]) (R := []) (by decide) (by decide)) (by decide) (fun r _ _ z => by cases z) (sN.ch (mch.th (I := [100, 101]) (R := []) (by decide) (by decide)) (fun r _ _ z => by cases z)))) fun ne => ?_)
      obtain ⟨fa, -⟩ := hv ne
      have ixj := mix' hj (show 301 ≤ 400000 by decide)
      have ixc := mix' hc3 (show 301 ≤ 400000 by decide)
      refine rV.ix ixj (rV.ix ixj ?_)
      obtain ⟨β, eβ⟩ : ∃ β, β = mSA α 37 (upd (α.2 37) j (nI tm)) := ⟨_, rfl⟩
      rw [← eβ]
      have c1 : mch [] [37] α β := by rw [eβ]; exact mch.sA (by decide)
      have g1 : GR (· < κ) 32000 t0 α nv (· < κ) t0 nv β := GR.ch c1 (fun r a b z => by have := List.mem_singleton.mp z; omega) (by decide)
      have k1 : CR j c f α β := by rw [eβ]; exact upd_CR (by decide) rfl
      have I1 := hI.ch c1 (fun i _ z => by cases z) (by decide)
      have ht1 := htx.gr hP g1 (c1.arr (by decide)) (c1.arr (by decide))
      have x1 : XD k κ α β := k1.xd (by omega) g1.2.1 vX
      obtain ⟨⟨t34, vtx, ftx, ptx⟩, tts⟩ := ht1
      rw [t34]
      refine (tele_ok (ts := ts) hN hn (show np ≤ 3000 by omega) I1.po tts vtx ftx ptx).bv (fun v γ g => ?_) (fun γ g => x1.tr (XD.in (g.xi (by decide)) vk))
      obtain ⟨r, t2, rfl, g2, g3, g4, -, -⟩ := g
      have q2 := I1.qn g2 (by decide)
      refine (whole_i (f := 0) hN hn q2.is (by decide) g2.2.2.2.2 g3 g4).bv (fun v δ u => ?_) (fun γ g => x1.tr (XD.in (q2.tx g) vk))
      obtain ⟨wh, t3, rfl, u1, u2, u3, -, -, u4⟩ := u
      have q3 := q2.tr u1
      have clw : clo δ wh := u4 _ (fun l hl => by omega)
      refine rV.ix ixj (rV.ix ixj ?_)
      obtain ⟨ε, eε⟩ : ∃ ε, ε = mSA δ 35 (upd (δ.2 35) j (nI wh)) := ⟨_, rfl⟩
      rw [← eε]
      have c2 : mch [] [35] δ ε := by rw [eε]; exact mch.sA (by decide)
      have g5 : GR (· < κ) 32000 t3 δ nv (· < κ) t3 nv ε := GR.ch c2 (fun r a b z => by have := List.mem_singleton.mp z; omega) (by decide)
      have k2 : CR j c f δ ε := by rw [eε]; exact upd_CR (by decide) rfl
      have I2 := u1.is.ch c2 (fun i _ z => by cases z) (by decide)
      have e35 : ε.2 35 j = nI wh := by rw [eε]; exact upd_at
      have kB : CR j c f α ε := (k1.tr (CR.ch q3.2.1 (by decide) (by decide))).tr k2
      have gB : GR (· < κ) 32000 t0 α nv (· < κ) t3 nv ε := (g1.tr q3.gr).tr g5
      have xB : XD k κ α ε := kB.xd (by omega) gB.2.1 vX
      have fwe : fit ε wh := u3.sn g5.2.1 u2
      have cwe : clo ε wh := clw.sn u1.is.po.2.2.2 g5.2.1 u2
      rw [e35]
      have hBε : HB κ k np Lr t3 ε w nv P := hB.gr I2 gB (kB.1.arr (by decide)) (kB.1.arr (by decide))
      refine (sortOf_all hN hn (by omega) t3 wh w nv ε I2 u2 fwe ⟨cwe.su fun _ z => z.elim, AC.all I2.po.2.2.2 hBε.2.1 u2⟩).bv (fun u ζ y => ?_) (fun ζ y => xB.tr (XD.in y vk))
      obtain ⟨t4, w4, nv4, y⟩ := y
      have e10 : δ.1 10 = nI t3 := u1.is.po.1
      refine rV.ix ixc (rV.ix ixc (rV.ix ixj (rV.ix ixc (rV.ix ixc (rV.ix ixc (rV.ix ixc (rV.ix ixc ?_)))))))
      rw [e10]
      show rV (some (some none, cE ζ (nI t3) c j (nI k) (nI np))) _ _
      obtain ⟨η, eη⟩ : ∃ η, η = cE ζ (nI t3) c j (nI k) (nI np) := ⟨_, rfl⟩
      have z' := cE_is (α := ζ) (mk := nI t3) (kk := nI k) (nn := nI np) (c := c) (j := j)
      rw [← eη] at z' ⊢
      obtain ⟨z10, z1, z12, z23, z18, z15, z16, z17, z14⟩ := z'
      have s6 : ∀ V : Nat → Prop, sN V ζ η := fun V => sN.ch z1 (fun r a b z => by simp at z; omega)
      have same : ∀ r, r ∈ [12, 14, 15, 16, 17, 18, 19, 23] → ∀ l, l ≠ c → η.2 r l = ζ.2 r l := fun r hr l hl => by
        have : r = 12 ∨ r = 14 ∨ r = 15 ∨ r = 16 ∨ r = 17 ∨ r = 18 ∨ r = 19 ∨ r = 23 := by simpa using hr
        rcases this with e | e | e | e | e | e | e | e <;> subst e
        · rw [z12, upd_ne hl]
        · rw [z14, upd_ne hl]
        · rw [z15, upd_ne hl]
        · rw [z16, upd_ne hl]
        · rw [z17, upd_ne hl]
        · rw [z18, upd_ne hl]
        · rw [z1.arr (by decide)]
        · rw [z23, upd_ne hl]
      have k3 : CR j c f ζ η := ⟨z1.mo (by decide) (by decide), fun r hr l _ => by rw [z1.arr (by revert hr; revert r; decide)], fun r hr l _ => by rw [z1.arr (by revert hr; revert r; decide)], same⟩
      have kA : CR j c f α η := kB.tr ((CR.ch y.2.1 (by decide) (by decide)).tr k3)
      have P6 : PO (· < κ) 32000 (k + 1) Lr t3 η := PO.cut hn y.is.po I2.po.2.1 y.1 z1 (fun r a b z => by simp at z; omega) z10
      have s7 : sN (vd (· < κ) 32000 t3) ε η := y.2.2.1.tr (s6 _)
      have gA : GR (· < κ) 32000 t0 α nv (· < κ) t3 nv4 η := gB.tr ⟨fun _ z => z, s7, y.2.2.2.2.2.1, fun l hl => by rw [z1.arr (by decide)]; exact y.2.2.2.2.2.2 l hl⟩
      have I6 : IS (· < κ) 32000 (k + 1) Lr np t3 η w4 nv4 := by
        have yi := y.is
        refine ⟨⟨P6, ?_, (z1.int (by decide)).trans yi.1.2.2.1, yi.1.2.2.2⟩, ⟨(z1.int (by decide)).trans yi.2.1.1, yi.2.1.2⟩, (z1.int (by decide)).trans yi.2.2⟩
        refine yi.1.2.1.xd (Lc := k + 1) (yi.po.kept (Nat.le_refl _) (fun _ z => z)) (fun r ra rb l hl => ?_) hLr (s6 _)
        by_cases e : r ∈ [12, 14, 15, 16, 17, 18, 19, 23]
        · exact same r e l (by omega)
        · rw [z1.arr (fun z => e (by simp at z ⊢; omega))]
      have b38 : ∀ l, l < i → η.2 38 (f + l) = α.2 38 (f + l) ∧ η.2 39 (f + l) = α.2 39 (f + l) := fun l hl => by
        have a1 : η.2 38 = α.2 38 := by rw [z1.arr (by decide), y.2.1.arr (by decide), c2.arr (by decide), q3.2.1.arr (by decide), c1.arr (by decide)]
        have a2 : η.2 39 = α.2 39 := by rw [z1.arr (by decide), y.2.1.arr (by decide), c2.arr (by decide), q3.2.1.arr (by decide), c1.arr (by decide)]
        exact ⟨by rw [a1], by rw [a2]⟩
      have a36 : ζ.2 36 j = nI f := by rw [y.2.1.arr (by decide), c2.arr (by decide), q3.2.1.arr (by decide), c1.arr (by decide)]; exact h36
      have a29 : ζ.1 29 = nI (f + i) := by rw [y.2.1.int (by decide), c2.int (fun z => by cases z), q3.2.1.int (by decide), c1.int (fun z => by cases z)]; exact h29
      have i9 : i ≤ 199 := by omega
      have bt := ft.1
      refine rV.ret ⟨t3, w4, nv4, i, tm, wh, G, z, fun l _ => ⟨rfl, rfl⟩, hB.gr I6 gA (kA.1.arr (by decide)) (kA.1.arr (by decide)), (z1.int (by decide)).trans a29, ⟨?_, ?_, i9, by omega, ⟨?_, ?_, ?_⟩, fun l hl => (ha.gr hP gA b38) l hl⟩, ⟨?_, u2, fwe.sn s7 u2, cwe.sn I2.po.2.2.2 s7 u2⟩, ⟨oc, ?_, by omega⟩, by omega, ⟨?_, ?_, ?_, ?_⟩, gA, kA⟩
      · rw [z1.arr (by decide)]; exact a36
      · rw [z18, ← hcj, upd_at, a29, a36, sub_nI (by omega), show f + i - f = i by omega]
      · rw [z1.arr (by decide), y.2.1.arr (by decide), c2.arr (by decide), q3.2.1.arr (by decide), eβ]; exact upd_at
      · exact (show TM (· < κ) 32000 t0 α 3000 200 (SA np P G f i) tm from ⟨vt, ft.2, SP_big hW vt bt (by decide), at'⟩).gr hP gA
      · exact apn_sn hW gA.2.1 vt fa
      · rw [z1.arr (by decide), y.2.1.arr (by decide)]; exact e35
      · rw [z1.arr (by decide), y.2.1.arr (by decide), c2.arr (by decide), q3.2.1.arr (by decide), c1.arr (by decide)]; exact h43
      · rw [z12, upd_at]
      · rw [z23, upd_at]
      · rw [z15, upd_at]
      · rw [z14, upd_at]
/-- a CONSTRUCTOR is checked -/
theorem con_m {nq q tx : Nat} {ts G z : Nat → Nat} {y4 : Int32} (hN : 400000 < N) (hκ : κ ≤ 32000) (hnq : np + q = nq) (hq9 : nq ≤ 199) (hcj : c = k + 1 + j) (hc3 : c < 301) (hLr : ∀ j, Lr j → j < k + 1) (hB : HB κ k np Lr t0 α w nv P) (h29 : α.1 29 = nI f) (hf : f ≤ 3300) (htx : TXF κ t0 α np ts j tx) : rV (f_Mod_constructor N (nI k) (nI c) (nI j) y4 (nI np) (nI q) α) (CP κ k np nq j c f (uB α tx) Lr P G z 0 t0 nv α) (XD k κ α) := by
  have hn := nrmk hκ
  have hI := hB.1
  have hP := hI.po
  obtain ⟨⟨t34, vtx, ftx, ptx⟩, -⟩ := id htx
  unfold f_Mod_constructor
  rw [nI_clamp (show j < 2 ^ 31 by omega), nI_clamp (show c < 2 ^ 31 by omega), t34]
  have ixj := mix' (show j < 301 by omega) (show 301 ≤ 400000 by decide)
  refine rV.ix ixj ((whole_i (f := np) hN hn hI (by omega) vtx ftx ptx).bv (fun v β g => ?_) (fun β g => XD.in g vk))
  obtain ⟨tm, t1, rfl, g1, g2, g3, -, ⟨g5, g6⟩, g4⟩ := g
  refine rV.ix ixj (rV.ix ixj (rV.ix (mix' hc3 (by decide)) ?_))
  rw [show β.1 29 = nI f from (g1.2.1.int (by decide)).trans h29]
  obtain ⟨γ, eγ⟩ : ∃ γ, γ = mSA (mSA (mSA β 36 (upd (β.2 36) j (nI f))) 43 (upd ((mSA β 36 (upd (β.2 36) j (nI f))).2 43) j 0)) 19 (upd ((mSA (mSA β 36 (upd (β.2 36) j (nI f))) 43 (upd ((mSA β 36 (upd (β.2 36) j (nI f))).2 43) j 0)).2 19) c 0) := ⟨_, rfl⟩
  rw [← eγ]
  have c1 : mch [] [19, 36, 43] β γ := by rw [eγ]; exact ((mch.sA (by decide)).tr (mch.sA (by decide))).tr (mch.sA (by decide))
  have e36 : γ.2 36 = upd (β.2 36) j (nI f) := by rw [eγ]; rfl
  have e43 : γ.2 43 = upd (β.2 43) j 0 := by rw [eγ]; rfl
  have e19 : γ.2 19 = upd (β.2 19) c 0 := by rw [eγ]; rfl
  have g7 : GR (· < κ) 32000 t1 β nv (· < κ) t1 nv γ := GR.ch c1 (fun r a b z => by simp at z; omega) (by decide)
  have kk : CR j c f β γ := by
    refine ⟨c1.mo (fun _ z => by cases z) (by decide), fun r hr l hl => ?_, fun r hr l _ => by rw [c1.arr (by revert hr; revert r; decide)], fun r hr l hl => ?_⟩
    · have : r = 35 ∨ r = 36 ∨ r = 37 ∨ r = 43 := by simpa using hr
      rcases this with e | e | e | e <;> subst e
      · rw [c1.arr (by decide)]
      · rw [e36, upd_ne hl]
      · rw [c1.arr (by decide)]
      · rw [e43, upd_ne hl]
    · by_cases e : r = 19
      · rw [e, e19, upd_ne hl]
      · rw [c1.arr (fun z => by simp at z hr; omega)]
  have gA : GR (· < κ) 32000 t0 α nv (· < κ) t1 nv γ := g1.gr.tr g7
  have kA : CR j c f α γ := (CR.ch g1.2.1 (by decide) (by decide)).tr kk
  have I2 := g1.is.ch c1 (fun i _ z => by cases z) (by decide)
  have bb : uB γ tm = uB α tx := by rw [g7.2.1.b g2]; exact g5
  have ddd : uD γ tm = uD α tx := by rw [g7.2.1.d g2]; exact g6
  have al : AL (SA np P G f 0) β tm := g4 _ (fun l hl => ⟨P l, (hB.2.2 l hl).1, (hB.2.2 l hl).2.1.2, Or.inl ⟨l, by omega, hl, rfl⟩⟩)
  have ci : CI κ k np nq j c f (uB α tx) Lr t1 γ w nv P G z 0 tm 0 := ⟨hB.gr I2 gA (kA.1.arr (by decide)) (kA.1.arr (by decide)), ⟨by rw [c1.int (fun z => by cases z), g1.2.1.int (by decide)]; exact h29, by rw [e36, upd_at], hf⟩, fun l hl => by omega, ⟨g2, g3.sn g7.2.1 g2, al.sn g1.is.po.2.2.2 g7.2.1 g2⟩, ⟨by rw [bb]; rfl, by rw [ddd]; exact ftx.2⟩, by rw [e43, upd_at]; rfl, Nat.le_refl _⟩
  have bt := ftx.1
  exact (con_44 hN hκ hnq hq9 hcj hc3 hLr (uB γ tm) N t1 w nv 0 tm 0 G z γ (Nat.le_refl _) (by omega) ci (htx.gr hP gA (kA.1.arr (by decide)) (kA.1.arr (by decide)))).mono (fun η y => CP.tr (Nat.le_refl _) (fun l _ => ⟨rfl, rfl⟩) gA kA y) (fun η y => (kA.xd (by omega) gA.2.1 vk).tr y)
end CON2
