-- made: the recursor, its rules, all that is kept of a family
/-- VARIABLES and nodes have only grown -/
def GR (W : Nat → Prop) (s t0 : Nat) (α : mS) (nv : Nat) (W' : Nat → Prop) (t1 nv1 : Nat) (β : mS) : Prop := (∀ i, vd W s t0 i → vd W' s t1 i) ∧ sN (vd W s t0) α β ∧ nv ≤ nv1 ∧ ∀ i, i < nv → β.2 32 i = α.2 32 i
/-- what is known of a family -/
def FM (W : Nat → Prop) (s t : Nat) (α : mS) (nv np nq k many cv c : Nat) (P G M z f m e : Nat → Nat) : Prop := (∀ j, j < many → CF W s t α nv np nq k P G z j (f j) (m j) (e j)) ∧ PF W s t α nv nq P ∧ MF W s t α nv cv np many P M ∧ (TM W s t α 0 1 (fun v => v = cv) c ∧ α.2 3 c = nI cv) ∧ VT W s t α nv 1000000 797 (ml P 0 np) cv
section MADE
variable {N : Nat} {W W' W2 : Nat → Prop} {s Lc : Nat} {Lr : Nat → Prop} {w t0 t1 t2 nv nv1 nv2 U U1 nq q D B : Nat} {S S' : Nat → Prop} {α β γ : mS}
theorem QW.gr (g : QW W s Lc Lr w t0 α nv U t1 nv1 β) : GR W s t0 α nv W t1 nv1 β := ⟨fun _ z => z.up g.1, g.2.2.1, g.2.2.2.2.1, g.2.2.2.2.2⟩
theorem GR.tr (g : GR W s t0 α nv W' t1 nv1 β) (g' : GR W' s t1 β nv1 W2 t2 nv2 γ) : GR W s t0 α nv W2 t2 nv2 γ := ⟨fun i z => g'.1 i (g.1 i z), g.2.1.tr (g'.2.1.su g.1), Nat.le_trans g.2.2.1 g'.2.2.1, fun i hi => (g'.2.2.2 i (Nat.lt_of_lt_of_le hi g.2.2.1)).trans (g.2.2.2 i hi)⟩
theorem TM.gr {x : Nat} (h : TM W s t0 α q D S x) (hP : PO W s Lc Lr t0 α) (g : GR W s t0 α nv W' t1 nv1 β) : TM W' s t1 β q D S x :=
  ⟨g.1 _ h.1, by rw [g.2.1.d h.1]; exact h.2.1, h.2.2.1.sn hP.2.2.2 g.2.1 h.1, h.2.2.2.sn hP.2.2.2 g.2.1 h.1⟩
theorem VT.gr {v : Nat} (h : VT W s t0 α nv B D S v) (hP : PO W s Lc Lr t0 α) (g : GR W s t0 α nv W' t1 nv1 β) : VT W' s t1 β nv1 B D S v := by
  obtain ⟨⟨a, a'⟩, ty, b, c, d⟩ := h
  exact ⟨⟨Nat.lt_of_lt_of_le a g.2.2.1, a'⟩, ty, (g.2.2.2 v a).trans b, c.gr hP g, by rw [g.2.1.b c.1]; exact d⟩
theorem AT.gr {r : Int32} {v : Nat} (h : AT W s t0 α nv nq B S r v) (hP : PO W s Lc Lr t0 α) (g : GR W s t0 α nv W' t1 nv1 β) : AT W' s t1 β nv1 nq B S r v := by
  obtain ⟨⟨a, a'⟩, ty, b, c, d, e⟩ := h
  refine ⟨⟨Nat.lt_of_lt_of_le a g.2.2.1, a'⟩, ty, (g.2.2.2 v a).trans b, c.gr hP g, by rw [g.2.1.b c.1]; exact d, fun z => ?_⟩
  obtain ⟨x, e⟩ := e z
  exact ⟨x, e.sn hP.2.2.2 g.2.1 c.1⟩
theorem CF.gr {np k j f m e : Nat} {P G z : Nat → Nat} (h : CF W s t0 α nv np nq k P G z j f m e) (hP : PO W s Lc Lr t0 α) (g : GR W s t0 α nv W' t1 nv1 β) (hr : ∀ r, r ∈ [18, 36, 37, 38, 39] → β.2 r = α.2 r) : CF W' s t1 β nv1 np nq k P G z j f m e := by
  obtain ⟨a, b, c, d, ⟨e1, e2, e3⟩, i⟩ := h
  refine ⟨by rw [hr 36 (by decide)]; exact a, by rw [hr 18 (by decide)]; exact b, c, d, ⟨by rw [hr 37 (by decide)]; exact e1, e2.gr hP g, apn_sn hP.2.2.2 g.2.1 e2.1 e3⟩, fun l hl => ?_⟩
  obtain ⟨i1, i2, i3⟩ := i l hl
  exact ⟨by rw [hr 38 (by decide)]; exact i1, by rw [hr 39 (by decide)]; exact i2.gr hP g, i3⟩
theorem FM.gr {np k many cv c : Nat} {P G M z f m e : Nat → Nat} (h : FM W s t0 α nv np nq k many cv c P G M z f m e) (hP : PO W s Lc Lr t0 α) (g : GR W s t0 α nv W' t1 nv1 β) (hr : ∀ r, r ∈ [18, 33, 36, 37, 38, 39, 42] → β.2 r = α.2 r) : FM W' s t1 β nv1 np nq k many cv c P G M z f m e := by
  obtain ⟨h1, h2, h3, ⟨h4, h4'⟩, h5⟩ := h
  refine ⟨fun j hj => (h1 j hj).gr hP g (fun r z => hr r (by revert z; revert r; decide)), fun i hi => ?_, fun j hj => ?_, ⟨h4.gr hP g, by rw [g.2.1 c h4.1 3 (by decide) (by decide)]; exact h4'⟩, h5.gr hP g⟩
  · obtain ⟨a, b⟩ := h2 i hi
    exact ⟨by rw [hr 33 (by decide)]; exact a, b.gr hP g⟩
  · obtain ⟨a, b⟩ := h3 j hj
    exact ⟨by rw [hr 42 (by decide)]; exact a, b.gr hP g⟩
/-- the nodes from t on are dropped -/
theorem PO.cut {t : Nat} {I R : List Nat} (hn : nrm W s) (h : PO W s Lc Lr t1 α) (hs : s ≤ t) (ht : t ≤ t1) (hc : mch I R α β) (hR : ∀ r, 2 ≤ r → r ≤ 7 → r ∉ R) (h10 : β.1 10 = nI t) : PO W s Lc Lr t β := by
  have s1 : sN (vd W s t1) α β := sN.ch hc hR
  have w := h.2.2.2.sn s1
  refine ⟨h10, hs, by have := h.2.2.1; omega, fun i hi => (w i (hi.up ht)).up2 (fun j hj hv => ?_) (Nat.le_refl _) (fun _ z => z)⟩
  rcases hv with z | z
  · exact Or.inl z
  · rcases hi with y | y
    · have := hn i y; omega
    · exact Or.inr ⟨z.1, by omega⟩
/-- a TERM kept -/
def KP (κ : Nat) (α : mS) (x : Int32) : Prop := ∃ r, x = nI r ∧ r < κ ∧ fit α r ∧ clo α r
theorem KP.sn {κ κ' : Nat} {x : Int32} (h : KP κ α x) (hW : nWf (· < κ) Lc Lr α) (hs : sN (· < κ) α β) (hκ : κ ≤ κ') : KP κ' β x := by
  obtain ⟨r, a, b, c, d⟩ := h
  exact ⟨r, a, by omega, c.sn hs b, d.sn hW hs b⟩
theorem XD.qw {c κ κ' t : Nat} (g : QW (· < κ') 32000 Lc Lr w t α nv U t1 nv1 β) (hκ : κ ≤ κ') : XD c κ α β := XD.of g.2.1 (by decide) (r1024 (by decide)) (g.2.2.1.su fun i (hi : i < κ) => Or.inl (show i < κ' by omega))
theorem XD.xv {c κ κ' t : Nat} (g : XV (· < κ') 32000 t α β) (hκ : κ ≤ κ') : XD c κ α β := XD.of g.1 (by decide) (r1024 (by decide)) (g.2.su fun i (hi : i < κ) => Or.inl (show i < κ' by omega))
abbrev zI : List Nat := [10, 11, 12, 13, 14, 17, 18, 22, 23, 30, 31]
abbrev zR : List Nat := [2, 3, 4, 5, 6, 7, 8, 13, 21, 22, 32, 33, 41, 42]
/-- the rules -/
theorem ma_459 {κ0 np q' k many cv c mark U0 : Nat} {P G M z f m e : Nat → Nat} (hN : 400000 < N) (hnq : np + q' = nq) (hq9 : nq ≤ 199) (hkm : k + 1 + many ≤ 300) (hkr : Lr k) (hU6 : U0 + smf (fun j => smf (fun i => hzf (z (f j + i))) (m j)) many ≤ 6000) : ∀ (d j nn κ zz nv : Nat) (α : mS), j + d = many → d < nn → κ0 ≤ κ → κ ≤ zz → zz ≤ 30000 → MV (· < κ) 32000 Lc Lr (U0 + smf (fun j => smf (fun i => hzf (z (f j + i))) (m j)) j) mark α w nv → α.1 17 = nI κ → α.1 18 = nI zz → FM (· < κ) 32000 mark α nv np nq k many cv c P G M z f m e → (∀ i, i < j → KP κ α (α.2 22 (k + 1 + i))) → rV (f_Mod_made_459 N nn (nI j) (nI mark) (nI c) (nI k) (nI np) (nI q') (nI many) α) (fun β => ∃ κ' zz', κ ≤ κ' ∧ κ' ≤ zz' ∧ zz' ≤ 30000 ∧ β.1 17 = nI κ' ∧ β.1 18 = nI zz' ∧ PO (· < κ') 32000 Lc Lr mark β ∧ (∀ i, i < many → KP κ' β (β.2 22 (k + 1 + i))) ∧ sN (· < κ) α β ∧ mch [10, 11, 12, 13, 14, 17, 18, 22, 23, 30, 31] [2, 3, 4, 5, 6, 7, 8, 22, 32, 41] α β ∧ XD k κ0 α β) (XD k κ0 α)
  | 0, j, nn, κ, zz, nv, α, hd, hm, hκ, hz, hz3, h, h17, h18, hf, hr => by
    obtain ⟨nn, rfl⟩ : ∃ n', nn = n' + 1 := ⟨nn - 1, by omega⟩
    have ej : j = many := by omega
    subst ej
    rw [f_Mod_made_459, if_pos (nI_le (Nat.le_refl _) (by omega))]
    exact rV.ret ⟨κ, zz, Nat.le_refl _, hz, hz3, h17, h18, h.1, hr, sN.rf, mch.rf, XD.rf⟩
  | d + 1, j, nn, κ, zz, nv, α, hd, hm, hκ, hz, hz3, h, h17, h18, hf, hr => by
    obtain ⟨nn, rfl⟩ : ∃ n', nn = n' + 1 := ⟨nn - 1, by omega⟩
    have hn := nrmk (show κ ≤ 32000 by omega)
    have sstep : smf (fun j => smf (fun i => hzf (z (f j + i))) (m j)) (j + 1) = smf (fun j => smf (fun i => hzf (z (f j + i))) (m j)) j + smf (fun i => hzf (z (f j + i))) (m j) := rfl
    have smono : smf (fun j => smf (fun i => hzf (z (f j + i))) (m j)) (j + 1) ≤ smf (fun j => smf (fun i => hzf (z (f j + i))) (m j)) many := smf_le (by omega)
    rw [f_Mod_made_459, if_neg (nI_ge (by omega) (by omega))]
    refine (rule_m hN hn hnq hq9 (by omega) (show j < many by omega) (by omega) hkr (by omega) h (hf.1 j (by omega)) hf.2.1 hf.2.2.1 hf.2.2.2.1.1 hf.2.2.2.1.2 hf.2.2.2.2).bv (fun v β g => ?_) (fun β g => XD.xv g hκ)
    obtain ⟨r, t1, nv1, rfl, g1, g2⟩ := g
    have xg : XD k κ0 α β := XD.qw g1 hκ
    refine (fits_ok g1.mv.1 g2.1).bv (fun v γ u => ?_) (fun γ u => xg.tr (XD.of u (by decide) (fun r _ _ z => by cases z) (sN.ch u (fun r _ _ z => by cases z))))
    obtain ⟨rfl, rfl, u1⟩ := u
    have hW := g1.mv.1.2.2.2
    obtain ⟨-, -, ⟨b1, b2, b3⟩, -⟩ := hW r g2.1
    rw [hW.cl g2.1, b1]
    have g17 : γ.1 17 = nI κ := (g1.2.1.int (by decide)).trans h17
    have g18 : γ.1 18 = nI zz := (g1.2.1.int (by decide)).trans h18
    refine rV.ix (hW.ix g2.1) ((room_ok g18 hz3 (by omega)).bv (fun δ o => ?_) (fun γ u => xg.tr (XD.of u (by decide) (fun r _ _ z => by cases z) (sN.ch u (fun r _ _ z => by cases z)))))
    obtain ⟨eδ, o2⟩ := o
    have c1 : mch [18] [] γ δ := by rw [eδ]; exact mch.si (by decide)
    have s1 : ∀ V : Nat → Prop, sN V γ δ := fun V => sN.ch c1 (fun r _ _ z => by cases z)
    have Pδ : PO (· < κ) 32000 Lc Lr t1 δ := g1.mv.1.sn c1 (by decide) (s1 _)
    have bδ : uB δ r = uB γ r := (s1 (fun _ => True)).b trivial
    have fδ : fit δ r := u1.sn (s1 (fun _ => True)) trivial
    have x1 : XD k κ0 γ δ := XD.of c1 (by decide) (fun r _ _ z => by cases z) (s1 _)
    refine (keep_m hN Pδ ((c1.int (by decide)).trans g17) g2.1 fδ (by rw [bδ]; omega)).bv (fun v ε y => ?_) (fun ε y => (xg.tr x1).tr (XD.of y.1 (by decide) (r1024 (by decide)) (y.2.su fun i (hi : i < κ0) => Or.inl (show i < κ by omega))))
    obtain ⟨r1, κ1, rfl, a1, a2, a3, a4, a5, a6, a6', a7, a8, a9, a10⟩ := y
    rw [bδ] at a2 a9
    rw [nI_1, nI_add, nI_clamp (show k + 1 + j < 2 ^ 31 by omega)]
    refine rV.ix (mix' (show k + 1 + j < 301 by omega) (by decide)) ?_
    obtain ⟨ζ, eζ⟩ : ∃ ζ, ζ = mSi (mSA ε 22 (upd (ε.2 22) (k + 1 + j) (nI r1))) 10 (nI mark) := ⟨_, rfl⟩
    rw [← eζ, nI_1]
    have c2 : mch [10] [22] ε ζ := by rw [eζ]; exact (mch.sA (by decide)).tr (mch.si (by decide))
    have s2 : ∀ V : Nat → Prop, sN V ε ζ := fun V => sN.ch c2 (fun r a b z => by have := List.mem_singleton.mp z; omega)
    have z22 : ζ.2 22 = upd (ε.2 22) (k + 1 + j) (nI r1) := by rw [eζ]; rfl
    have sA : sN (vd (· < κ) 32000 mark) α ζ := g1.2.2.1.tr (((s1 _).tr (a7.su fun i hi => hi.up g1.1)).tr (s2 _))
    have gg : GR (· < κ) 32000 mark α nv (· < κ1) mark nv1 ζ := ⟨fun i hi => hi.imp (fun (y : i < κ) => (show i < κ1 by omega)) id, sA, g1.2.2.2.2.1, fun i hi => by
      rw [c2.arr (by decide), a6.arr (by decide), c1.arr (fun z => by cases z)]; exact g1.2.2.2.2.2 i hi⟩
    have cA : mch [10, 11, 12, 13, 14, 17, 18, 22, 23, 30, 31] [2, 3, 4, 5, 6, 7, 8, 22, 32, 41] α ζ := (g1.2.1.mo (by decide) (by decide)).tr ((c1.mo (by decide) (fun r z => by cases z)).tr ((a6.mo (by decide) (by decide)).tr (c2.mo (by decide) (by decide))))
    have P2 : PO (· < κ1) 32000 Lc Lr mark ζ := PO.cut (nrmk (by omega)) a4 h.1.2.1 g1.1 c2 (fun r a b z => by have := List.mem_singleton.mp z; omega) (by rw [eζ]; rfl)
    have xz : XD k κ0 α ζ := (xg.tr x1).tr ((XD.of a6 (by decide) (r1024 (by decide)) (a7.su fun i (hi : i < κ0) => Or.inl (show i < κ by omega))).tr ⟨fun i hi => c2.int (by revert hi; revert i; decide), fun r ra rb i hi => by
      by_cases e : r = 22
      · rw [e, z22, upd_ne (by omega)]
      · rw [c2.arr (fun z => e (List.mem_singleton.mp z))], s2 _⟩)
    have M2 : MV (· < κ1) 32000 Lc Lr (U0 + smf (fun j => smf (fun i => hzf (z (f j + i))) (m j)) (j + 1)) mark ζ w nv1 := by
      have g' := g1.mv.2
      refine ⟨P2, ⟨?_, g'.1.2⟩, ?_, by rw [sstep]; have := g'.2.2; omega⟩
      · rw [c2.int (by decide), a6.int (by decide), c1.int (by decide)]; exact g'.1.1
      · rw [c2.int (by decide), a6.int (by decide), c1.int (by decide)]; exact g'.2.1
    have sk : sN (· < κ) α ζ := sA.su fun i hi => Or.inl hi
    have wk : nWf (· < κ) Lc Lr α := h.1.kept (Nat.le_refl _) (fun _ z => z)
    refine (ma_459 hN hnq hq9 hkm hkr hU6 d (j + 1) nn κ1 (zz + uB γ r) nv1 ζ (by omega) (by omega) (by omega) (by omega) o2 M2 (by rw [c2.int (by decide)]; exact a5) (by rw [c2.int (by decide), a6.int (by decide), eδ]; rfl) (hf.gr h.1 gg (fun r hr => cA.arr (by revert hr; revert r; decide))) (fun i hi => ?_)).mono (fun η y => ?_) (fun η y => xz.tr y)
    · rcases Nat.lt_or_ge i j with y | y
      · have := (hr i y).sn wk sk a1
        rw [z22, upd_ne (by omega), a6.arr (by decide), c1.arr (fun z => by cases z), g1.2.1.arr (by decide)]
        exact this
      · have ei : i = j := by omega
        rw [ei, z22, upd_at]
        exact ⟨r1, rfl, a3, a8.sn (s2 (fun _ => True)) trivial, (a10 _ (g2.2.2.2.sn hW (s1 _) g2.1)).sn a4.2.2.2 (s2 _) (Or.inl a3)⟩
    · obtain ⟨κ', zz', y1, y2, y3, y4, y5, y6, y7, y8, y9, y10⟩ := y
      exact ⟨κ', zz', by omega, y2, y3, y4, y5, y6, y7, sk.tr (y8.su fun i (hi : i < κ) => (show i < κ1 by omega)), cA.tr y9, xz.tr y10⟩
/-- a TERM is kept, and entered -/
theorem keep_s {κ0 κ t x k : Nat} (hN : 400000 < N) (hP : PO (· < κ) 32000 Lc Lr t α) (hκ : κ0 ≤ κ) (h17 : α.1 17 = nI κ) (hx : vd (· < κ) 32000 t x) (hf : fit α x) (hc : clo α x) (hκx : κ + uB α x ≤ 32000) : rI (f_Mod_keep N (nI x) α) (fun v β => ∃ κ1, κ ≤ κ1 ∧ κ1 ≤ κ + uB α x ∧ ∀ R i γ, R = 13 ∨ R = 21 → k ≤ i → γ = mSA β R (upd (β.2 R) i v) → PO (· < κ1) 32000 Lc Lr t γ ∧ γ.1 17 = nI κ1 ∧ KP κ1 γ (γ.2 R i) ∧ mch [10, 11, 12, 13, 14, 17] [2, 3, 4, 5, 6, 7, 8, R] α γ ∧ γ.1 10 = α.1 10 ∧ sN (vd (· < κ) 32000 t) α γ ∧ (∀ l, l ≠ i → γ.2 R l = α.2 R l) ∧ XD k κ0 α γ) (XD k κ0 α) := by
  refine (keep_m hN hP h17 hx hf hκx).mono (fun v β y => ?_) (fun β y => XD.of y.1 (by decide) (r1024 (by decide)) (y.2.su fun i (hi : i < κ0) => Or.inl (show i < κ by omega)))
  obtain ⟨r1, κ1, rfl, a1, a2, a3, a4, a5, a6, a6', a7, a8, a9, a10⟩ := y
  refine ⟨κ1, a1, a2, fun R i γ hR hi eγ => ?_⟩
  have R7 : ∀ r, 2 ≤ r → r ≤ 8 → r ∉ [R] := fun r a b z => by have := List.mem_singleton.mp z; omega
  have c2 : mch [] [R] β γ := by rw [eγ]; exact mch.sA (List.mem_singleton.mpr rfl)
  have s2 : ∀ V : Nat → Prop, sN V β γ := fun V => sN.ch c2 (fun r a b => R7 r a (by omega))
  have eR : γ.2 R = upd (β.2 R) i (nI r1) := by
    rw [eγ]
    rcases hR with rfl | rfl <;> rfl
  have bR : β.2 R = α.2 R := a6.arr (by rcases hR with rfl | rfl <;> decide)
  have cA : mch [10, 11, 12, 13, 14, 17] [2, 3, 4, 5, 6, 7, 8, R] α γ := (a6.mo (by decide) (by intro r z; simp at z ⊢; omega)).tr (c2.mo (fun _ z => by cases z) (by intro r z; simp at z ⊢; omega))
  refine ⟨a4.sn c2 (fun z => by cases z) (s2 _), (c2.int (fun z => by cases z)).trans a5, ?_, cA, (c2.int (fun z => by cases z)).trans a6', a7.tr (s2 _), fun l hl => by rw [eR, upd_ne hl, bR], ⟨fun i hi => cA.int (by revert hi; revert i; decide), fun r ra rb l hl => ?_, (a7.tr (s2 _)).su fun i (hi : i < κ0) => Or.inl (show i < κ by omega)⟩⟩
  · rw [eR, upd_at]
    exact ⟨r1, rfl, a3, a8.sn (s2 (fun _ => True)) trivial, (a10 _ hc).sn a4.2.2.2 (s2 _) (Or.inl a3)⟩
  · by_cases e : r = R
    · rw [e, eR, upd_ne (by omega), bR]
    · rw [cA.arr (fun z => by simp at z; omega)]
/-- the types of the CONSTRUCTORS -/
def WF (κ t : Nat) (α : mS) (many : Nat) (wh wb : Nat → Nat) : Prop := ∀ j, j < many → α.2 35 j = nI (wh j) ∧ vd (· < κ) 32000 t (wh j) ∧ fit α (wh j) ∧ clo α (wh j) ∧ uB α (wh j) = wb j
theorem WF.sn {κ κ' t t' many : Nat} {wh wb : Nat → Nat} (h : WF κ t α many wh wb) (hP : PO (· < κ) 32000 Lc Lr t α) (hv : ∀ i, vd (· < κ) 32000 t i → vd (· < κ') 32000 t' i) (hs : sN (vd (· < κ) 32000 t) α β) (hr : β.2 35 = α.2 35) : WF κ' t' β many wh wb := fun j hj => by
  obtain ⟨a, b, c, d, e⟩ := h j hj
  exact ⟨by rw [hr]; exact a, hv _ b, c.sn hs b, d.sn hP.2.2.2 hs b, by rw [hs.b b]; exact e⟩
/-- all that is kept of a family -/
def MP (κ0 Lc : Nat) (Lr : Nat → Prop) (k many : Nat) (α β : mS) : Prop := ∃ κ' zz' t, κ0 ≤ κ' ∧ κ' ≤ zz' ∧ zz' ≤ 30000 ∧ β.1 17 = nI κ' ∧ β.1 18 = nI zz' ∧ PO (· < κ') 32000 Lc Lr t β ∧ (∀ i, i < many → KP κ' β (β.2 22 (k + 1 + i)) ∧ KP κ' β (β.2 13 (k + 1 + i))) ∧ KP κ' β (β.2 13 k) ∧ KP κ' β (β.2 21 k) ∧ mch zI zR α β ∧ XD k κ0 α β
theorem ma_415 {κ0 np q' k many cv c mark U0 zz : Nat} {P G M z f m e wh wb : Nat → Nat} (hN : 400000 < N) (hnq : np + q' = nq) (hq9 : nq ≤ 199) (hkm : k + 1 + many ≤ 300) (hkr : Lr k) (hU6 : U0 + smf (fun j => smf (fun i => hzf (z (f j + i))) (m j)) many ≤ 6000) (hz3 : zz ≤ 30000) : ∀ (d j nn κ : Nat) (α : mS), j + d = many → d < nn → κ0 ≤ κ → κ + (smf wb many - smf wb j) ≤ zz → MV (· < κ) 32000 Lc Lr U0 mark α w nv → α.1 17 = nI κ → α.1 18 = nI zz → FM (· < κ) 32000 mark α nv np nq k many cv c P G M z f m e → WF κ mark α many wh wb → (∀ i, i < j → KP κ α (α.2 13 (k + 1 + i))) → KP κ α (α.2 13 k) → KP κ α (α.2 21 k) → rV (f_Mod_made_415 N nn (nI j) (nI c) (nI k) (nI np) (nI q') (nI many) α) (MP κ0 Lc Lr k many α) (XD k κ0 α)
  | 0, j, nn, κ, α, hd, hm, hκ, hz, h, h17, h18, hf, hw, hr, hk1, hk2 => by
    obtain ⟨nn, rfl⟩ : ∃ n', nn = n' + 1 := ⟨nn - 1, by omega⟩
    have ej : j = many := by omega
    subst ej
    rw [f_Mod_made_415, if_pos (nI_le (Nat.le_refl _) (by omega)), h.1.1]
    refine (ma_459 (κ0 := κ0) hN hnq hq9 hkm hkr hU6 j 0 N κ zz nv α (by omega) (by omega) hκ (by omega) hz3 h h17 h18 hf (fun i hi => by omega)).mono (fun β y => ?_) (fun β y => y)
    obtain ⟨κ', zz', y1, y2, y3, y4, y5, y6, y7, y8, y9, y10⟩ := y
    have wk : nWf (· < κ) Lc Lr α := h.1.kept (Nat.le_refl _) (fun _ z => z)
    have e13 : β.2 13 = α.2 13 := y9.arr (by decide)
    have e21 : β.2 21 = α.2 21 := y9.arr (by decide)
    exact ⟨κ', zz', mark, by omega, y2, y3, y4, y5, y6, fun i hi => ⟨y7 i hi, by rw [e13]; exact (hr i hi).sn wk y8 y1⟩, by rw [e13]; exact hk1.sn wk y8 y1, by rw [e21]; exact hk2.sn wk y8 y1, y9.mo (by decide) (by decide), y10⟩
  | d + 1, j, nn, κ, α, hd, hm, hκ, hz, h, h17, h18, hf, hw, hr, hk1, hk2 => by
    obtain ⟨nn, rfl⟩ : ∃ n', nn = n' + 1 := ⟨nn - 1, by omega⟩
    obtain ⟨w1, w2, w3, w4, w5⟩ := hw j (by omega)
    have sstep : smf wb (j + 1) = smf wb j + wb j := rfl
    have smono : smf wb (j + 1) ≤ smf wb many := smf_le (by omega)
    rw [f_Mod_made_415, if_neg (nI_ge (by omega) (by omega)), nI_clamp (show j < 2 ^ 31 by omega), w1]
    refine rV.ix (mix' (show j < 301 by omega) (by decide)) ((keep_s (k := k) hN h.1 hκ h17 w2 w3 w4 (by omega)).bv (fun v β y => ?_) (fun β y => y))
    obtain ⟨κ1, a1, a2, a3⟩ := y
    rw [nI_1, nI_add, nI_clamp (show k + 1 + j < 2 ^ 31 by omega)]
    refine rV.ix (mix' (show k + 1 + j < 301 by omega) (by decide)) ?_
    obtain ⟨γ, eγ⟩ : ∃ γ, γ = mSA β 13 (upd (β.2 13) (k + 1 + j) v) := ⟨_, rfl⟩
    rw [← eγ, nI_1]
    obtain ⟨b1, b2, b3, b4, b5, b6, b7, b8⟩ := a3 13 (k + 1 + j) γ (Or.inl rfl) (by omega) eγ
    have wk : nWf (· < κ) Lc Lr α := h.1.kept (Nat.le_refl _) (fun _ z => z)
    have sk : sN (· < κ) α γ := b6.su fun i hi => Or.inl hi
    have up : ∀ i, vd (· < κ) 32000 mark i → vd (· < κ1) 32000 mark i := fun i hi => hi.imp (fun (y : i < κ) => (show i < κ1 by omega)) id
    have gg : GR (· < κ) 32000 mark α nv (· < κ1) mark nv γ := ⟨up, b6, Nat.le_refl _, fun i _ => by rw [b4.arr (by decide)]⟩
    refine (ma_415 hN hnq hq9 hkm hkr hU6 hz3 d (j + 1) nn κ1 γ (by omega) (by omega) (by omega) (by omega) ⟨b1, ⟨(b4.int (by decide)).trans h.2.1.1, h.2.1.2⟩, (b4.int (by decide)).trans h.2.2.1, h.2.2.2⟩ b2 ((b4.int (by decide)).trans h18) (hf.gr h.1 gg (fun r hr => b4.arr (by revert hr; revert r; decide))) (hw.sn h.1 up b6 (b4.arr (by decide))) (fun i hi => ?_) ?_ ?_).mono (fun β y => ?_) (fun β y => b8.tr y)
    · rcases Nat.lt_or_ge i j with y | y
      · rw [b7 _ (by omega)]; exact (hr i y).sn wk sk a1
      · have ei : i = j := by omega
        rw [ei]; exact b3
    · rw [b7 _ (by omega)]; exact hk1.sn wk sk a1
    · rw [b4.arr (by decide)]; exact hk2.sn wk sk a1
    · obtain ⟨κ', zz', t, y1, y2, y3, y4, y5, y6, y7, y8, y9, y10, y11⟩ := y
      exact ⟨κ', zz', t, y1, y2, y3, y4, y5, y6, y7, y8, y9, (b4.mo (by decide) (by decide)).tr y10, b8.tr y11⟩
/-- room, and all TERMS but the rules -/
theorem ma_346 {κ κ0 np q' k many cv c mark U0 zz x r : Nat} {P G M z f m e wh wb : Nat → Nat} (hN : 400000 < N) (hnq : np + q' = nq) (hq9 : nq ≤ 199) (hkm : k + 1 + many ≤ 300) (hkr : Lr k) (hU6 : U0 + smf (fun j => smf (fun i => hzf (z (f j + i))) (m j)) many ≤ 6000) (hκ : κ0 ≤ κ) (hz : κ ≤ zz) (hz3 : zz ≤ 30000) (h : MV (· < κ) 32000 Lc Lr U0 mark α w nv) (h17 : α.1 17 = nI κ) (h18 : α.1 18 = nI zz) (hf : FM (· < κ) 32000 mark α nv np nq k many cv c P G M z f m e) (hw : WF κ mark α many wh wb) (hx : vd (· < κ) 32000 mark x ∧ fit α x ∧ clo α x) (hr : vd (· < κ) 32000 mark r ∧ fit α r ∧ clo α r) : ∀ (d j nn : Nat), j + d = many → d < nn → smf wb j ≤ 3000 * j → rV (f_Mod_made_346 N nn (nI j) (nI (uB α x + uB α r + smf wb j)) (nI r) (nI c) (nI k) (nI np) (nI q') (nI many) (nI x) α) (MP κ0 Lc Lr k many α) (XD k κ0 α)
  | 0, j, nn, hd, hm, hb => by
    obtain ⟨nn, rfl⟩ : ∃ n', nn = n' + 1 := ⟨nn - 1, by omega⟩
    have ej : j = many := by omega
    subst ej
    have bx := hx.2.1.1
    have br := hr.2.1.1
    rw [f_Mod_made_346, if_pos (nI_le (Nat.le_refl _) (by omega))]
    refine (room_ok h18 hz3 (by omega)).bv (fun δ o => ?_) (fun γ u => XD.of u (by decide) (fun r _ _ z => by cases z) (sN.ch u (fun r _ _ z => by cases z)))
    obtain ⟨eδ, o2⟩ := o
    have c1 : mch [18] [] α δ := by rw [eδ]; exact mch.si (by decide)
    have s1 : ∀ V : Nat → Prop, sN V α δ := fun V => sN.ch c1 (fun r _ _ z => by cases z)
    have Pδ : PO (· < κ) 32000 Lc Lr mark δ := h.1.sn c1 (by decide) (s1 _)
    have x1 : XD k κ0 α δ := XD.of c1 (by decide) (fun r _ _ z => by cases z) (s1 _)
    have bbx : uB δ x = uB α x := (s1 (fun _ => True)).b trivial
    have bbr : uB δ r = uB α r := (s1 (fun _ => True)).b trivial
    refine (keep_s (k := k) hN Pδ hκ ((c1.int (by decide)).trans h17) hx.1 (hx.2.1.sn (s1 (fun _ => True)) trivial) (hx.2.2.sn h.1.2.2.2 (s1 _) hx.1) (by omega)).bv (fun v β y => ?_) (fun β y => x1.tr y)
    obtain ⟨κ1, a1, a2, a3⟩ := y
    refine rV.ix (mix (show k < 301 by omega) (by decide)) ?_
    rw [nI_clamp (show k < 2 ^ 31 by omega)]
    obtain ⟨γ, eγ⟩ : ∃ γ, γ = mSA β 13 (upd (β.2 13) k v) := ⟨_, rfl⟩
    rw [← eγ]
    obtain ⟨b1, b2, b3, b4, b5, b6, b7, b8⟩ := a3 13 k γ (Or.inl rfl) (Nat.le_refl _) eγ
    have up1 : ∀ i, vd (· < κ) 32000 mark i → vd (· < κ1) 32000 mark i := fun i hi => hi.imp (fun (y : i < κ) => (show i < κ1 by omega)) id
    have s2 : sN (vd (· < κ) 32000 mark) α γ := (s1 _).tr b6
    refine (keep_s (k := k) hN b1 (show κ0 ≤ κ1 by omega) b2 (up1 _ hr.1) (hr.2.1.sn s2 hr.1) (hr.2.2.sn h.1.2.2.2 s2 hr.1) (by rw [s2.b hr.1]; omega)).bv (fun v ε y => ?_) (fun β y => (x1.tr b8).tr y)
    obtain ⟨κ2, d1, d2, d3⟩ := y
    rw [s2.b hr.1] at d2
    refine rV.ix (mix' (show k < 301 by omega) (by decide)) ?_
    obtain ⟨ζ, eζ⟩ : ∃ ζ, ζ = mSA ε 21 (upd (ε.2 21) k v) := ⟨_, rfl⟩
    rw [← eζ]
    obtain ⟨e1, e2, e3, e4, e5, e6, e7, e8⟩ := d3 21 k ζ (Or.inr rfl) (Nat.le_refl _) eζ
    have up2 : ∀ i, vd (· < κ) 32000 mark i → vd (· < κ2) 32000 mark i := fun i hi => (up1 i hi).imp (fun (y : i < κ1) => (show i < κ2 by omega)) id
    have s3 : sN (vd (· < κ) 32000 mark) α ζ := s2.tr (e6.su up1)
    have cA : mch [10, 11, 12, 13, 14, 17, 18] [2, 3, 4, 5, 6, 7, 8, 13, 21] α ζ := (c1.mo (by decide) (fun r z => by cases z)).tr ((b4.mo (by decide) (by decide)).tr (e4.mo (by decide) (by decide)))
    have gg : GR (· < κ) 32000 mark α nv (· < κ2) mark nv ζ := ⟨up2, s3, Nat.le_refl _, fun i _ => by rw [cA.arr (by decide)]⟩
    have wk1 : nWf (· < κ1) Lc Lr γ := b1.kept (Nat.le_refl _) (fun _ z => z)
    have k13 : KP κ2 ζ (ζ.2 13 k) := by rw [e4.arr (by decide)]; exact b3.sn wk1 (e6.su fun i hi => Or.inl hi) d1
    refine (ma_415 (κ0 := κ0) (zz := zz + (uB α x + uB α r + smf wb j)) hN hnq hq9 hkm hkr hU6 o2 j 0 N κ2 ζ (by omega) (by omega) (by omega) (by show κ2 + (_ - 0) ≤ _; omega) ⟨e1, ⟨(cA.int (by decide)).trans h.2.1.1, h.2.1.2⟩, (cA.int (by decide)).trans h.2.2.1, h.2.2.2⟩ e2 (by rw [e4.int (by decide), b4.int (by decide), eδ]; rfl) (hf.gr h.1 gg (fun r hr => cA.arr (by revert hr; revert r; decide))) (hw.sn h.1 up2 s3 (cA.arr (by decide))) (fun i hi => by omega) k13 e3).mono (fun β y => ?_) (fun β y => ((x1.tr b8).tr e8).tr y)
    obtain ⟨κ', zz', t, y1, y2, y3, y4, y5, y6, y7, y8, y9, y10, y11⟩ := y
    exact ⟨κ', zz', t, y1, y2, y3, y4, y5, y6, y7, y8, y9, (cA.mo (by decide) (by decide)).tr y10, ((x1.tr b8).tr e8).tr y11⟩
  | d + 1, j, nn, hd, hm, hb => by
    obtain ⟨nn, rfl⟩ : ∃ n', nn = n' + 1 := ⟨nn - 1, by omega⟩
    obtain ⟨w1, w2, w3, w4, w5⟩ := hw j (by omega)
    have bx := hx.2.1.1
    have br := hr.2.1.1
    have bw := w3.1
    have hW := h.1.2.2.2
    obtain ⟨-, -, ⟨b1, b2, b3⟩, -⟩ := hW _ w2
    rw [f_Mod_made_346, if_neg (nI_ge (by omega) (by omega)), nI_clamp (show j < 2 ^ 31 by omega), w1, hW.cl w2, b1, nI_add]
    refine rV.ix (mix' (show j < 301 by omega) (by decide)) (rV.ix (hW.ix w2) ?_)
    rw [show ((1000000 : Int32)) = nI 1000000 from rfl, if_pos (nI_lt (by omega) (by decide)), nI_1, w5]
    have sstep : smf wb (j + 1) = smf wb j + wb j := rfl
    rw [Nat.add_assoc (uB α x + uB α r), ← sstep]
    exact ma_346 hN hnq hq9 hkm hkr hU6 hκ hz hz3 h h17 h18 hf hw hx hr d (j + 1) nn (by omega) (by omega) (by omega)
end MADE
