-- inductive: the parameters, the type
section IND3
variable {N : Nat} {κ k np q nq many sz p : Nat} {Lr : Nat → Prop} {t0 t1 w w1 nv nv1 U : Nat} {P : Nat → Nat} {α β γ : mS}
theorem EN.ext {W : Nat → Prop} (h : EN W k Lr α) (hk : k < 301) (h1 : α.2 12 k ≠ 1) (h4 : α.2 12 k ≠ 4) : EN W (k + 1) Lr α := by
  refine ⟨⟨by omega, h.1.2⟩, fun j hj => ?_, h.2.2⟩
  rcases Nat.lt_or_ge j k with z | z
  · refine ⟨(h.2.1 j z).1, fun y => ?_⟩
    obtain ⟨f, a, b, c⟩ := (h.2.1 j z).2 y
    exact ⟨f, a, by omega, c⟩
  · have : j = k := by omega
    rw [this]
    exact ⟨fun y => absurd y h1, fun y => absurd y h4⟩
theorem MD.en (h : MD k κ Lr α) (hx : XD k κ α β) : EN (· < κ) k Lr β := by
  obtain ⟨a1, a2, a3, a4, a5, a6, a7, a8, a9⟩ := h
  exact a6.xd a5 hx.2.1 (fun j hj => ((a9 j).mp hj).1) hx.2.2
theorem GR.rf {W : Nat → Prop} {s : Nat} : GR W s t0 α nv W t0 nv α := ⟨fun _ z => z, sN.rf, Nat.le_refl _, fun _ _ => rfl⟩
/-- the VARIABLES of the parameters -/
theorem ind_333 {uT nv0 : Nat} {tb ts tx : Nat → Nat} {α0 : mS} (hN : 400000 < N) (hnq : np + q = nq) (hq9 : nq ≤ 199) (hkm : k + 1 + many ≤ 300) (h0 : MD k κ Lr α0) (h6 : uT + smf tb many ≤ 6000) (hT : 2 * nq + 1 ≤ uT) : ∀ (d i nn t0 tm x sn : Nat) (α : mS), i + d = np → d < nn → XD k κ α0 α → IS (· < κ) 32000 (k + 1) Lr i t0 α w (nv0 + i) → (∀ j, j < k + 1 → tcm (· < κ) 32000 t0 α j) → PF (· < κ) 32000 t0 α (nv0 + i) i (fun i => nv0 + i) → (∀ i, i < np → (α.2 27 i = nI (ts i) ∧ vd (· < κ) 32000 t0 (ts i) ∧ PN α (ts i)) ∧ fit α (ts i)) → (∀ l, l < many → (α.2 34 l = nI (tx l) ∧ vd (· < κ) 32000 t0 (tx l) ∧ fit α (tx l) ∧ PN α (tx l)) ∧ uB α (tx l) = tb l) → ID k κ many np q sz p α → (vd (· < κ) 32000 t0 tm ∧ fit α tm ∧ PN α tm ∧ PIc α q tm) → (vd (· < κ) 32000 t0 x ∧ fit α x ∧ clo α x) → vd (· < κ) 32000 t0 sn → rV (f_Mod_inductive_333 N nn (nI i) (nI x) (nI q) (nI sn) (nI many) (nI tm) (nI np) (nI k) α) (fun β => (∃ κ' Lr', MD (k + 1 + many) κ' Lr' β) ∧ LK sz p β ∧ XD k κ α0 β) (XD k κ α0)
  | 0, i, nn, t0, tm, x, sn, α, hd, hm, hx, hI, htc, hp, hts, htx, hi, ht, hxx, hs => by
    obtain ⟨nn, rfl⟩ : ∃ n', nn = n' + 1 := ⟨nn - 1, by omega⟩
    have ei : i = np := by omega
    subst ei
    rw [f_Mod_inductive_333, if_pos (nI_le (Nat.le_refl _) (by omega))]
    obtain ⟨γ, eγ⟩ : ∃ γ, γ = mSi α 29 0 := ⟨_, rfl⟩
    rw [← eγ]
    have c1 : mch [29] [] α γ := by rw [eγ]; exact mch.si (by decide)
    have g1 : GR (· < κ) 32000 t0 α (nv0 + i) (· < κ) t0 (nv0 + i) γ := GR.ch c1 (fun r a b z => by cases z) (fun z => by cases z)
    have aa : ∀ r, γ.2 r = α.2 r := fun r => c1.arr (fun z => by cases z)
    have hP := hI.po
    have hB : HB κ k i Lr t0 α w (nv0 + i) (fun i => nv0 + i) := ⟨hI, htc, hp⟩
    have x1 : XD k κ α γ := XD.of c1 (by decide) (fun r _ _ z => by cases z) (g1.2.1.su vk)
    show rV (f_Mod_inductive_384 N N (nI 0) (nI x) (nI q) (nI sn) (nI many) (nI tm) (nI i) (nI k) γ) _ _
    exact ind_384 (tb := tb) (ts := ts) (tx := tx) hN hnq hq9 hkm h0 h6 hT many 0 N t0 w (nv0 + i) tm x sn (fun _ => 0) (fun _ => 0) (fun _ => 0) (fun _ => 0) (fun _ => 0) γ (by omega) (by omega) (hx.tr x1) (hB.gr (hI.ch c1 (by decide) (fun r _ z => by cases z)) g1 (aa 13) (aa 33)) (by rw [eγ]; rfl) (fun l hl => by omega) (fun l hl => ⟨TXF.gr (nv := nv0 + i) (nv1 := nv0 + i) ⟨(htx l hl).1, fun i hi => (hts i hi).1⟩ hP g1 (aa 34) (aa 27), by rw [g1.2.1.b (htx l hl).1.2.1]; exact (htx l hl).2⟩) (hi.of c1 (by decide) (by decide) (fun r _ => by rw [aa])) (Nat.le_refl _) ⟨ht.1, ht.2.1.sn g1.2.1 ht.1, ht.2.2.1.sn hP.2.2.2 g1.2.1 ht.1, PIc.sn hP.2.2.2 g1.2.1 ht.1 ht.2.2.2⟩ ⟨hxx.1, hxx.2.1.sn g1.2.1 hxx.1, hxx.2.2.sn hP.2.2.2 g1.2.1 hxx.1⟩ hs
  | d + 1, i, nn, t0, tm, x, sn, α, hd, hm, hx, hI, htc, hp, hts, htx, hi, ht, hxx, hs => by
    obtain ⟨nn, rfl⟩ : ∃ n', nn = n' + 1 := ⟨nn - 1, by omega⟩
    have hκ := h0.k
    have hn := nrmk (show κ ≤ 32000 by omega)
    have hP := hI.po
    obtain ⟨⟨t27, vts, pts⟩, fts⟩ := hts i (by omega)
    rw [f_Mod_inductive_333, if_neg (nI_ge (by omega) (by omega)), nI_clamp (show i < 2 ^ 31 by omega), t27]
    refine rV.ix (mix' (show i < 3400 by omega) (by decide)) ((whole_i (f := i) hN hn hI (by omega) vts fts pts).bv (fun v β g => ?_) (fun β g => hx.tr (XD.in g vk)))
    obtain ⟨r, t1, rfl, g1, g2, g3, -, -, g4⟩ := g
    have al : AL (ml (fun i => nv0 + i) 0 i) β r := g4 _ (fun l hl => ⟨nv0 + l, (hp l hl).1, (hp l hl).2.1.2, l, by omega, hl, rfl⟩)
    refine (fresh_g hn g1.is (by omega)).bv (fun v γ u => ?_) (fun β g => hx.tr (XD.in (g1.tx g) vk))
    obtain ⟨v, t2, rfl, u1, u2, u3, ⟨u4, u5⟩, u6, u7⟩ := u
    have hW2 := u1.is.po.2.2.2
    rw [hW2.cl u2, u5, nI_1]
    refine rV.ix (hW2.ix u2) (rV.ix (mix' (show i < 5000 by omega) (by decide)) ?_)
    obtain ⟨δ, eδ⟩ : ∃ δ, δ = mSA γ 33 (upd (γ.2 33) i (nI (nv0 + i))) := ⟨_, rfl⟩
    rw [← eδ]
    have c2 : mch [] [33] γ δ := by rw [eδ]; exact mch.sA (by decide)
    have q2 := g1.tr u1
    have g5 : GR (· < κ) 32000 t2 γ (nv0 + i + 1) (· < κ) t2 (nv0 + i + 1) δ := GR.ch c2 (fun r a b z => by have := List.mem_singleton.mp z; omega) (by decide)
    have gA : GR (· < κ) 32000 t0 α (nv0 + i) (· < κ) t2 (nv0 + i + 1) δ := q2.gr.tr g5
    have cA : mch inI [2, 3, 4, 5, 6, 7, 8, 32, 33] α δ := (q2.2.1.mo (fun _ z => z) (by decide)).tr (c2.mo (fun _ z => by cases z) (by decide))
    have xA : XD k κ α δ := XD.of cA (by decide) (r1024 (by decide)) (gA.2.1.su vk)
    have e33 : δ.2 33 = upd (γ.2 33) i (nI (nv0 + i)) := by rw [eδ]; rfl
    refine ind_333 (tb := tb) (ts := ts) (tx := tx) hN hnq hq9 hkm h0 h6 hT d (i + 1) nn t2 tm x sn δ (by omega) (by omega) (hx.tr xA) (u1.is.ch c2 (fun i _ z => by cases z) (by decide)) (fun j hj => (htc j hj).gr gA (by rw [cA.arr (by decide)])) (fun l hl => ?_) (fun l hl => ?_) (fun l hl => ?_) (hi.of cA (by decide) (by decide) (fun r hr => by rw [cA.arr (by revert hr; revert r; decide)])) ⟨gA.1 _ ht.1, ht.2.1.sn gA.2.1 ht.1, ht.2.2.1.sn hP.2.2.2 gA.2.1 ht.1, PIc.sn hP.2.2.2 gA.2.1 ht.1 ht.2.2.2⟩ ⟨gA.1 _ hxx.1, hxx.2.1.sn gA.2.1 hxx.1, hxx.2.2.sn hP.2.2.2 gA.2.1 hxx.1⟩ (gA.1 _ hs)
    · rcases Nat.lt_or_ge l i with y | y
      · obtain ⟨y1, y2⟩ := hp l y
        exact ⟨by rw [e33, upd_ne (by omega), q2.2.1.arr (by decide)]; exact y1, y2.gr hP gA⟩
      · have el : l = i := by omega
        subst el
        have tr : TM (· < κ) 32000 t1 β 4000 200 (ml (fun i => nv0 + i) 0 l) r := ⟨g2, g3.2, SP_big g1.is.po.2.2.2 g2 (by have := g3.1; omega) (by decide), al⟩
        have gB : GR (· < κ) 32000 t1 β (nv0 + l) (· < κ) t2 (nv0 + l + 1) δ := u1.gr.tr g5
        exact ⟨by rw [e33, upd_at], ⟨Nat.lt_succ_self _, u6⟩, r, by rw [c2.arr (by decide)]; exact u7, tr.gr g1.is.po gB, by rw [gB.2.1.b g2]; exact g3.1⟩
    · obtain ⟨⟨y1, y2, y3⟩, y4⟩ := hts l hl
      exact ⟨⟨by rw [cA.arr (by decide)]; exact y1, gA.1 _ y2, y3.sn hP.2.2.2 gA.2.1 y2⟩, y4.sn gA.2.1 y2⟩
    · obtain ⟨⟨y1, y2, y3, y4⟩, y5⟩ := htx l hl
      exact ⟨⟨by rw [cA.arr (by decide)]; exact y1, gA.1 _ y2, y3.sn gA.2.1 y2, y4.sn hP.2.2.2 gA.2.1 y2⟩, by rw [gA.2.1.b y2]; exact y5⟩
def iE (α : mS) (c : Nat) (v np q many : Int32) : mS :=
  let a1 := mSA α 12 (upd (α.2 12) c 3)
  let a2 := mSA a1 13 (upd (a1.2 13) c v)
  let a3 := mSA a2 15 (upd (a2.2 15) c np)
  let a4 := mSA a3 16 (upd (a3.2 16) c q)
  let a5 := mSA a4 17 (upd (a4.2 17) c many)
  let a6 := mSA a5 18 (upd (a5.2 18) c 0)
  let a7 := mSA a6 19 (upd (a6.2 19) c 0)
  mSA a7 14 (upd (a7.2 14) c (-1))
theorem iE_is {c : Nat} {v n q m : Int32} : mch [] [12, 13, 14, 15, 16, 17, 18, 19] α (iE α c v n q m) ∧ (iE α c v n q m).2 12 = upd (α.2 12) c 3 ∧ (iE α c v n q m).2 13 = upd (α.2 13) c v ∧ (iE α c v n q m).2 15 = upd (α.2 15) c n ∧ (iE α c v n q m).2 16 = upd (α.2 16) c q ∧ (iE α c v n q m).2 17 = upd (α.2 17) c m ∧ (iE α c v n q m).2 18 = upd (α.2 18) c 0 ∧ (iE α c v n q m).2 19 = upd (α.2 19) c 0 ∧ (iE α c v n q m).2 14 = upd (α.2 14) c (-1) :=
  ⟨(((((((mch.sA (by decide)).tr (mch.sA (by decide))).tr (mch.sA (by decide))).tr (mch.sA (by decide))).tr (mch.sA (by decide))).tr (mch.sA (by decide))).tr (mch.sA (by decide))).tr (mch.sA (by decide)), rfl, rfl, rfl, rfl, rfl, rfl, rfl, rfl⟩
theorem AC.wh {V Q : Nat → Prop} {Lc f : Nat} {A : Nat → Int32} {t r : Nat} (hW : nWf V Lc Lr α) (ht : V t) (hr : V r) (h : Rs (RWh f A) α t r) (ha : AC Q α t) : AC Q α r :=
  AC.rs hW ht hr h (fun t r _ _ hk h1 h2 => by
    rcases h2 with ⟨rfl, -⟩ | h2 | ⟨-, -, h2, -⟩
    · exact h1
    · exact AC.lf (by omega) (fun z => by omega)
    · exact AC.lf (by omega) (fun z => by omega)) ha
/-- what stands when all is read -/
def IR (κ k np many sz p : Nat) (Lr : Nat → Prop) (t : Nat) (α0 α : mS) (ts tx tb : Nat → Nat) (tm told : Nat) : Prop := XD k κ α0 α ∧ IS (· < κ) 32000 (k + 1) Lr 0 t α 0 0 ∧ (∀ i, i < np → (α.2 27 i = nI (ts i) ∧ vd (· < κ) 32000 t (ts i) ∧ PN α (ts i)) ∧ fit α (ts i)) ∧ (∀ l, l < many → (α.2 34 l = nI (tx l) ∧ vd (· < κ) 32000 t (tx l) ∧ fit α (tx l) ∧ PN α (tx l)) ∧ uB α (tx l) = tb l) ∧ ((α.1 16 = nI (k + 1 + many) ∧ ∃ wu, α.1 15 = nI wu ∧ wu ≤ 31 * (k + 1 + many)) ∧ NMs (k + 1 + many) α ∧ LK sz p α ∧ α.1 17 = nI κ ∧ ∃ zz, α.1 18 = nI zz ∧ κ ≤ zz ∧ zz ≤ 30000) ∧ (vd (· < κ) 32000 t tm ∧ fit α tm ∧ PN α tm) ∧ (vd (· < κ) 32000 t told ∧ fit α told ∧ PN α told ∧ AC (· < k) α told) ∧ np + uD α tm ≤ uD α told ∧ 2 * np + uB α tm ≤ uB α told
theorem ind_210 {tb ts tx : Nat → Nat} {tm told : Nat} {α0 : mS} (hN : 400000 < N) (hkm : k + 1 + many ≤ 300) (h0 : MD k κ Lr α0) (h : IR κ k np many sz p Lr t0 α0 α ts tx tb tm told) (h6 : uB α told + smf tb many ≤ 6000) : ∀ (b q sn nn : Nat), uB α sn ≤ b → b < nn → vd (· < κ) 32000 t0 sn → fit α sn → q + uD α sn ≤ uD α tm → 2 * q + uB α sn ≤ uB α tm → (∀ m, PIc α m sn → PIc α (q + m) tm) → rV (f_Mod_inductive_210 N nn (nI q) (nI sn) (nI many) (nI told) (nI tm) (nI np) (nI k) α) (fun β => (∃ κ' Lr', MD (k + 1 + many) κ' Lr' β) ∧ LK sz p β ∧ XD k κ α0 β) (XD k κ α0)
  | 0, q, sn, nn, hb, hm, vs, fs, hq, hqb, hpi => by
    have := big_pos h.2.1.po.2.2.2 vs
    omega
  | b + 1, q, sn, nn, hb, hm, vs, fs, hq, hqb, hpi => by
    obtain ⟨nn, rfl⟩ : ∃ n', nn = n' + 1 := ⟨nn - 1, by omega⟩
    have h' := h
    obtain ⟨hx, hI, hts, htx, ⟨hid, hnm, hlk, h17, h18⟩, ⟨vt, ft, pt⟩, ⟨vd', fd, pd, ac⟩, hdt, hbt⟩ := h'
    have hκ := h0.k
    have hn := nrmk (show κ ≤ 32000 by omega)
    have hP := hI.po
    have hW := hP.2.2.2
    have xth : ∀ x y, XD k κ α (mTh α x y) := fun x y => XD.of (mch.th (I := [100, 101]) (R := []) (by decide) (by decide)) (by decide) (fun r _ _ z => by cases z) (sN.ch (mch.th (I := [100, 101]) (R := []) (by decide) (by decide)) (fun r _ _ z => by cases z))
    rw [f_Mod_inductive_210, hW.cl vs, nI_clamp (show k < 2 ^ 31 by omega)]
    refine rV.ix (hW.ix vs) (rV.ite (fun k6 => rV.ix (hW.ix vs) ?_) fun _ => rV.ix (hW.ix vs) (rV.ite (fun k0 => ?_) fun _ => rV.thr (hx.tr (xth _ _))))
    · have k6 : uK α sn = 6 := (hW.is vs (m := 6) (by decide)).mp k6
      have p3 := hW.p3 vs (by omega)
      have p4 := hW.p4 vs (by omega)
      have fp := fs.p hW vs (by omega)
      have be := big_eq hW vs (by omega) (by have := fs.1; omega)
      have dd := hW.dd vs (by omega)
      have ba := big_pos hW p3.2.2
      rw [if_neg (by omega)] at be
      rw [p4.1, nI_1]
      exact ind_210 hN hkm h0 h h6 b (q + 1) (uC α sn) nn (by omega) (by omega) p4.2.2 fp.2.1 (by omega) (by omega) (fun m hm' => by rw [show q + 1 + m = q + (m + 1) by omega]; exact hpi (m + 1) ⟨k6, hm'⟩)
    · have k0 : uK α sn = 0 := (hW.is vs (m := 0) (by decide)).mp k0
      have ds := (hW sn vs).2.2.2.1.2.1
      have bs := big_pos hW vs
      have hd9 := fd.2
      refine (whole_i (f := 0) hN hn hI (by decide) vd' fd pd).bv (fun v β g => ?_) (fun β g => hx.tr (XD.in g vk))
      obtain ⟨x, t1, rfl, g1, g2, g3, g5, -, g4⟩ := g
      have cx : clo β x := g4 _ (fun l hl => by omega)
      have W1 := g1.is.po.2.2.2
      have ax : AX (· < κ) 32000 t1 β 0 x := ⟨cx.su fun _ z => z.elim, (AC.wh W1 (g1.v vd') g2 g5 (ac.sn hW g1.2.2.1 vd')).su fun j hj => h0.tc (hx.qi g1) hj⟩
      refine (sortOf_all hN hn (by decide) t1 x 0 0 β g1.is g2 g3 ax).bv (fun u γ y => ?_) (fun β g => hx.tr (XD.in (g1.tx g) vk))
      obtain ⟨t2, w2, nv2, y⟩ := y
      have q2 := g1.tr y
      have ixk := mix' (show k < 301 by omega) (show 301 ≤ 400000 by decide)
      refine rV.ix ixk (rV.ix ixk (rV.ix ixk (rV.ix ixk (rV.ix ixk (rV.ix ixk (rV.ix ixk (rV.ix ixk ?_)))))))
      show rV (f_Mod_inductive_333 N N (nI 0) (nI x) (nI q) (nI sn) (nI many) (nI tm) (nI np) (nI k) (iE γ k (nI x) (nI np) (nI q) (nI many))) _ _
      have zz := iE_is (α := γ) (c := k) (v := nI x) (n := nI np) (q := nI q) (m := nI many)
      obtain ⟨δ, eδ⟩ : ∃ δ, δ = iE γ k (nI x) (nI np) (nI q) (nI many) := ⟨_, rfl⟩
      rw [← eδ] at zz ⊢
      obtain ⟨z1, z12, z13, z15, z16, z17, z18, z19, z14⟩ := zz
      have s3 : ∀ V : Nat → Prop, sN V γ δ := fun V => sN.ch z1 (fun r a b z => by simp at z; omega)
      have cA : mch inI [2, 3, 4, 5, 6, 7, 8, 32, 12, 13, 14, 15, 16, 17, 18, 19] α δ := (q2.2.1.mo (fun _ z => z) (by decide)).tr (z1.mo (fun _ z => by cases z) (by decide))
      have gA : GR (· < κ) 32000 t0 α 0 (· < κ) t2 nv2 δ := q2.gr.tr (GR.ch z1 (fun r a b z => by simp at z; omega) (by decide))
      have gB : GR (· < κ) 32000 t1 β 0 (· < κ) t2 nv2 δ := y.gr.tr (GR.ch z1 (fun r a b z => by simp at z; omega) (by decide))
      have xz : XD k κ γ δ := ⟨fun i _ => z1.int (fun z => by cases z), fun r ra rb l hl => by
        by_cases e : r ∈ [12, 13, 14, 15, 16, 17, 18, 19]
        · have : r = 12 ∨ r = 13 ∨ r = 14 ∨ r = 15 ∨ r = 16 ∨ r = 17 ∨ r = 18 ∨ r = 19 := by simpa using e
          rcases this with e | e | e | e | e | e | e | e <;> subst e
          · rw [z12, upd_ne (by omega)]
          · rw [z13, upd_ne (by omega)]
          · rw [z14, upd_ne (by omega)]
          · rw [z15, upd_ne (by omega)]
          · rw [z16, upd_ne (by omega)]
          · rw [z17, upd_ne (by omega)]
          · rw [z18, upd_ne (by omega)]
          · rw [z19, upd_ne (by omega)]
        · rw [z1.arr e], s3 _⟩
      have xA : XD k κ α0 δ := ((hx.qi q2).tr xz)
      have d12 : δ.2 12 k = 3 := by rw [z12, upd_at]
      have I3 : IS (· < κ) 32000 (k + 1) Lr 0 t2 δ w2 nv2 := by
        have yi := y.is
        exact ⟨⟨yi.po.sn z1 (fun z => by cases z) (s3 _), (h0.en xA).ext (by omega) (by rw [d12]; decide) (by rw [d12]; decide), (z1.int (fun z => by cases z)).trans yi.1.2.2.1, yi.1.2.2.2⟩, ⟨(z1.int (fun z => by cases z)).trans yi.2.1.1, yi.2.1.2⟩, (z1.int (fun z => by cases z)).trans yi.2.2⟩
      have fxδ : fit δ x := g3.sn gB.2.1 g2
      refine ind_333 (tb := tb) (ts := ts) (tx := tx) (nv0 := nv2) (nq := np + q) hN rfl (by omega) hkm h0 h6 (by omega) np 0 N t2 tm x sn δ (by omega) (by omega) xA I3 (fun j hj => ?_) (fun i hi => by omega) (fun l hl => ?_) (fun l hl => ?_) ?_ ⟨gA.1 _ vt, ft.sn gA.2.1 vt, pt.sn hW gA.2.1 vt, PIc.sn hW gA.2.1 vt (hpi 0 trivial)⟩ ⟨gB.1 _ g2, fxδ, cx.sn W1 gB.2.1 g2⟩ (gA.1 _ vs)
      · rcases Nat.lt_or_ge j k with o | o
        · exact h0.tc xA o
        · have ej : j = k := by omega
          rw [ej]
          exact ⟨x, by rw [z13, upd_at], gB.1 _ g2, fxδ⟩
      · obtain ⟨⟨y1, y2, y3⟩, y4⟩ := hts l hl
        exact ⟨⟨by rw [cA.arr (by decide)]; exact y1, gA.1 _ y2, y3.sn hW gA.2.1 y2⟩, y4.sn gA.2.1 y2⟩
      · obtain ⟨⟨y1, y2, y3, y4⟩, y5⟩ := htx l hl
        exact ⟨⟨by rw [cA.arr (by decide)]; exact y1, gA.1 _ y2, y3.sn gA.2.1 y2, y4.sn hW gA.2.1 y2⟩, by rw [gA.2.1.b y2]; exact y5⟩
      · obtain ⟨a1, wu, a2, a3⟩ := hid
        obtain ⟨zz, e1, e2⟩ := h18
        exact ⟨⟨(cA.int (by decide)).trans a1, wu, (cA.int (by decide)).trans a2, a3⟩, hnm.ch cA (by decide) (by decide), hlk.ch cA (by decide), ⟨(cA.int (by decide)).trans h17, zz, (cA.int (by decide)).trans e1, e2⟩, d12, by rw [z15, upd_at], by rw [z16, upd_at], by rw [z17, upd_at], by rw [z14, upd_at]⟩
/-- the sizes together -/
theorem ind_168 {tb ts tx : Nat → Nat} {tm told : Nat} {α0 : mS} (hN : 400000 < N) (hkm : k + 1 + many ≤ 300) (h0 : MD k κ Lr α0) (h : IR κ k np many sz p Lr t0 α0 α ts tx tb tm told) : ∀ (d j nn : Nat), j + d = many → d < nn → smf tb j ≤ 3000 * j → rV (f_Mod_inductive_168 N nn (nI j) (nI (uB α told + smf tb j)) (nI many) (nI told) (nI tm) (nI np) (nI k) α) (fun β => (∃ κ' Lr', MD (k + 1 + many) κ' Lr' β) ∧ LK sz p β ∧ XD k κ α0 β) (XD k κ α0)
  | 0, j, nn, hd, hm, hs => by
    obtain ⟨nn, rfl⟩ : ∃ n', nn = n' + 1 := ⟨nn - 1, by omega⟩
    have ej : j = many := by omega
    subst ej
    have bt := h.2.2.2.2.2.2.1.2.1.1
    have ft := h.2.2.2.2.2.1.2.1
    have bt2 := ft.1
    rw [f_Mod_inductive_168, if_pos (nI_le (Nat.le_refl _) (by omega))]
    refine (together_ok (by omega)).bv (fun η g => ?_) (fun η g => h.1.tr (XD.of g (by decide) (fun r _ _ z => by cases z) (sN.ch g (fun r _ _ z => by cases z))))
    obtain ⟨rfl, g⟩ := g
    show rV (f_Mod_inductive_210 N N (nI 0) (nI tm) (nI j) (nI told) (nI tm) (nI np) (nI k) η) _ _
    exact ind_210 hN hkm h0 h g (uB η tm) 0 tm N (Nat.le_refl _) (by omega) h.2.2.2.2.2.1.1 ft (by omega) (by omega) (fun m hm' => by rw [Nat.zero_add]; exact hm')
  | d + 1, j, nn, hd, hm, hs => by
    obtain ⟨nn, rfl⟩ : ∃ n', nn = n' + 1 := ⟨nn - 1, by omega⟩
    obtain ⟨⟨y1, y2, y3, y4⟩, y5⟩ := h.2.2.2.1 j (by omega)
    have hW := h.2.1.po.2.2.2
    obtain ⟨-, -, ⟨b1, b2, b3⟩, -⟩ := hW _ y2
    have b3 := y3.1
    rw [f_Mod_inductive_168, if_neg (nI_ge (by omega) (by omega)), nI_clamp (show j < 2 ^ 31 by omega), y1, hW.cl y2, b1, nI_add, nI_1, y5]
    refine rV.ix (mix' (show j < 301 by omega) (by decide)) (rV.ix (hW.ix y2) ?_)
    have st : smf tb (j + 1) = smf tb j + tb j := rfl
    rw [Nat.add_assoc, ← st]
    exact ind_168 hN hkm h0 h d (j + 1) nn (by omega) (by omega) (by omega)
end IND3
