-- inductive: its CONSTRUCTORS
section ACC
variable {m z tb : Nat → Nat}
theorem smf_mono {g g' : Nat → Nat} : ∀ {n : Nat}, (∀ l, l < n → g l ≤ g' l) → smf g n ≤ smf g' n
  | 0, _ => Nat.le_refl _
  | n + 1, h => by
    show smf g n + g n ≤ smf g' n + g' n
    have := smf_mono (n := n) (fun l hl => h l (by omega))
    have := h n (by omega)
    omega
theorem smf_add {g g' : Nat → Nat} : ∀ {n : Nat}, smf (fun l => g l + g' l) n = smf g n + smf g' n
  | 0 => rfl
  | n + 1 => by
    show smf (fun l => g l + g' l) n + (g n + g' n) = smf g n + g n + (smf g' n + g' n)
    rw [smf_add (n := n)]
    omega
theorem smf_one : ∀ {n : Nat}, smf (fun _ => 1) n = n
  | 0 => rfl
  | n + 1 => by
    show smf (fun _ => 1) n + 1 = n + 1
    rw [smf_one]
theorem smf_z {g : Nat → Nat} {n : Nat} (h : ∀ l, l < n → 1 ≤ g l) : n ≤ smf g n := by
  have := smf_mono (g := fun _ => 1) (g' := g) (n := n) h
  rw [smf_one] at this
  exact this
theorem smf_0 {g : Nat → Nat} {n : Nat} (h : smf g n = 0) : ∀ l, l < n → g l = 0 := fun l hl => by
  have := smf_le (g := g) (a := l + 1) (b := n) hl
  have e : smf g (l + 1) = smf g l + g l := rfl
  omega
/-- the VARIABLES of the recursor are within bounds -/
theorem acc_m {j : Nat} (hz : ∀ l, l < j → ∀ i, i < m l → 1 ≤ z (smf m l + i)) (h : smf (fun l => 1 + m l + smf (fun i => z (smf m l + i)) (m l)) j ≤ smf tb j) : 2 * smf m j ≤ smf tb j := by
  have a := smf_mono (g := fun l => m l + m l) (g' := fun l => 1 + m l + smf (fun i => z (smf m l + i)) (m l)) (n := j) (fun l hl => by
    have := smf_z (hz l hl)
    show m l + m l ≤ _
    omega)
  rw [smf_add] at a
  omega
theorem acc_u {many np q nq uT : Nat} (hz : ∀ l, l < many → ∀ i, i < m l → 1 ≤ z (smf m l + i)) (h : smf (fun l => 1 + m l + smf (fun i => z (smf m l + i)) (m l)) many ≤ smf tb many) (h6 : uT + smf tb many ≤ 6000) (hT : 2 * nq + 1 ≤ uT) (hnq : np + q = nq) (hq : nq ≤ 199) (hm : many ≤ 300) : np + q + 1 + smf (fun j => smf (fun i => hzf (z (smf m j + i)) + 1) (m j) + 1) many + 1 + smf (fun j => smf (fun i => hzf (z (smf m j + i))) (m j)) many ≤ 6000 := by
  have a : smf (fun j => (smf (fun i => hzf (z (smf m j + i)) + 1) (m j) + 1) + smf (fun i => hzf (z (smf m j + i))) (m j)) many ≤ smf (fun l => 1 + smf (fun i => z (smf m l + i)) (m l)) many := smf_mono fun l hl => by
    have b : smf (fun i => (hzf (z (smf m l + i)) + 1) + hzf (z (smf m l + i))) (m l) ≤ smf (fun i => z (smf m l + i)) (m l) := smf_mono fun i hi => by
      have := hz l hl i hi
      show (z (smf m l + i) - 1) / 2 + 1 + (z (smf m l + i) - 1) / 2 ≤ z (smf m l + i)
      omega
    rw [smf_add] at b
    show smf (fun i => hzf (z (smf m l + i)) + 1) (m l) + 1 + smf (fun i => hzf (z (smf m l + i))) (m l) ≤ 1 + smf (fun i => z (smf m l + i)) (m l)
    omega
  rw [smf_add] at a
  have c : smf (fun l => (1 + smf (fun i => z (smf m l + i)) (m l)) + m l) many ≤ smf tb many := Nat.le_trans (smf_mono fun l hl => by
    show 1 + smf (fun i => z (smf m l + i)) (m l) + m l ≤ 1 + m l + smf (fun i => z (smf m l + i)) (m l)
    omega) h
  rw [smf_add] at c
  rcases Nat.eq_zero_or_pos (smf m many) with e | e
  · have d : smf (fun l => 1 + smf (fun i => z (smf m l + i)) (m l)) many ≤ smf (fun _ => 1) many := smf_mono fun l hl => by
      show 1 + smf (fun i => z (smf m l + i)) (m l) ≤ 1
      rw [smf_0 e l hl]
      exact Nat.le_refl _
    rw [smf_one] at d
    omega
  · omega
end ACC
/-- what stands from the names read to the end -/
def ID (k κ many np q sz p : Nat) (α : mS) : Prop := (α.1 16 = nI (k + 1 + many) ∧ ∃ wu, α.1 15 = nI wu ∧ wu ≤ 31 * (k + 1 + many)) ∧ NMs (k + 1 + many) α ∧ LK sz p α ∧ (α.1 17 = nI κ ∧ ∃ zz, α.1 18 = nI zz ∧ κ ≤ zz ∧ zz ≤ 30000) ∧ (α.2 12 k = 3 ∧ α.2 15 k = nI np ∧ α.2 16 k = nI q ∧ α.2 17 k = nI many ∧ α.2 14 k = -1)
/-- what stands of the CONSTRUCTORS checked -/
def IC (κ t : Nat) (α : mS) (nv np nq k j : Nat) (P G z m e wh : Nat → Nat) : Prop := ∀ l, l < j → CF (· < κ) 32000 t α nv np nq k P G z l (smf m l) (m l) (e l) ∧ (α.2 35 l = nI (wh l) ∧ vd (· < κ) 32000 t (wh l) ∧ fit α (wh l) ∧ clo α (wh l)) ∧ (∃ oc, α.2 43 l = nI oc ∧ oc ≤ 1000000) ∧ (α.2 12 (k + 1 + l) = 4 ∧ α.2 23 (k + 1 + l) = nI k ∧ α.2 15 (k + 1 + l) = nI np ∧ α.2 14 (k + 1 + l) = -1)
section IND2
variable {N : Nat} {κ k np q nq many sz p : Nat} {Lr : Nat → Prop} {t0 t1 w w1 nv nv1 U : Nat} {P : Nat → Nat} {α β γ : mS}
theorem PO.mono {W : Nat → Prop} {s Lc Mc t : Nat} {Mr : Nat → Prop} (h : PO W s Lc Lr t α) (h1 : Lc ≤ Mc) (h2 : ∀ j, Lr j → Mr j) : PO W s Mc Mr t α := ⟨h.1, h.2.1, h.2.2.1, fun i hi => (h.2.2.2 i hi).up2 (fun _ _ z => z) h1 h2⟩
theorem IC.z1 {G z m e wh : Nat → Nat} {j : Nat} (h : IC κ t0 α nv np nq k j P G z m e wh) {Lc : Nat} (hP : PO (· < κ) 32000 Lc Lr t0 α) : ∀ l, l < j → ∀ i, i < m l → 1 ≤ z (smf m l + i) := fun l hl i hi => by
  obtain ⟨-, -, -, -, -, c⟩ := (h l hl).1
  obtain ⟨-, ⟨-, ty, -, b, d, -⟩, -⟩ := c i hi
  have := big_pos hP.2.2.2 b.1
  omega
theorem ml_cg {P P' : Nat → Nat} {a b : Nat} (h : ∀ l, l < b → P' l = P l) : ml P' a b = ml P a b := by
  funext v
  apply propext
  constructor
  · rintro ⟨l, x, y, d⟩
    exact ⟨l, x, y, by rw [← h l y]; exact d⟩
  · rintro ⟨l, x, y, d⟩
    exact ⟨l, x, y, by rw [h l y]; exact d⟩
theorem CF.cp {W : Nat → Prop} {s j f m e : Nat} {G z P' : Nat → Nat} (h : CF W s t0 α nv np nq k P G z j f m e) (hP : ∀ l, l < np → P' l = P l) : CF W s t0 α nv np nq k P' G z j f m e := by
  have e1 : SA np P' G = SA np P G := by
    funext f i v
    unfold SA
    rw [ml_cg hP]
  obtain ⟨a, b, d, d', ⟨x1, x2, x3⟩, i⟩ := h
  refine ⟨a, b, d, d', ⟨x1, by rw [e1]; exact x2, x3⟩, fun l hl => ?_⟩
  rw [e1]
  exact i l hl
theorem ID.of {I R : List Nat} (h : ID k κ many np q sz p α) (hc : mch I R α β) (hI : ∀ i, i ∈ [0, 5, 6, 7, 8, 9, 15, 16, 17, 18] → i ∉ I) (hR : 10 ∉ R ∧ 11 ∉ R) (hk : ∀ r, r ∈ [12, 14, 15, 16, 17] → β.2 r k = α.2 r k) : ID k κ many np q sz p β := by
  obtain ⟨⟨a1, wu, a2, a3⟩, b, c, ⟨d1, zz, d2, d3⟩, e1, e2, e3, e4, e5⟩ := h
  exact ⟨⟨(hc.int (hI 16 (by decide))).trans a1, wu, (hc.int (hI 15 (by decide))).trans a2, a3⟩, b.ch hc hR.1 hR.2, c.ch hc (fun i hi => hI i (by revert hi; revert i; decide)), ⟨(hc.int (hI 17 (by decide))).trans d1, zz, (hc.int (hI 18 (by decide))).trans d2, d3⟩, by rw [hk 12 (by decide)]; exact e1, by rw [hk 15 (by decide)]; exact e2, by rw [hk 16 (by decide)]; exact e3, by rw [hk 17 (by decide)]; exact e4, by rw [hk 14 (by decide)]; exact e5⟩
/-- the end of inductive: all CONSTRUCTORS are checked -/
theorem ind_463 {tm x uT : Nat} {G z m e wh tb : Nat → Nat} {α0 : mS} (hN : 400000 < N) (hnq : np + q = nq) (hq9 : nq ≤ 199) (hkm : k + 1 + many ≤ 300) (h0 : MD k κ Lr α0) (hx : XD k κ α0 α) (hB : HB κ k np Lr t0 α w nv P) (hc : IC κ t0 α nv np nq k many P G z m e wh) (hd : ID k κ many np q sz p α) (hac : smf (fun l => 1 + m l + smf (fun i => z (smf m l + i)) (m l)) many ≤ smf tb many) (h6 : uT + smf tb many ≤ 6000) (hT : 2 * nq + 1 ≤ uT) (ht : vd (· < κ) 32000 t0 tm ∧ fit α tm ∧ PN α tm ∧ PIc α q tm) (hxx : vd (· < κ) 32000 t0 x ∧ fit α x ∧ clo α x) (b : Int32) : rV (f_Mod_inductive_j463 N (nI x) (nI q) (nI many) (nI tm) (nI np) (nI k) b (nI k) α) (fun β => (∃ κ' Lr', MD (k + 1 + many) κ' Lr' β) ∧ LK sz p β ∧ XD k κ α0 β) (XD k κ α0) := by
  have hκ := h0.k
  have hI := hB.1
  have hP := hI.po
  unfold f_Mod_inductive_j463
  refine rV.ix (mix (show k < 301 by omega) (by decide)) ?_
  rw [nI_clamp (show k < 2 ^ 31 by omega)]
  obtain ⟨γ, eγ⟩ : ∃ γ, γ = mSA α 24 (upd (α.2 24) k (vp_nar .boolean b)) := ⟨_, rfl⟩
  rw [← eγ]
  have c1 : mch [] [24] α γ := by rw [eγ]; exact mch.sA (by decide)
  have g1 : GR (· < κ) 32000 t0 α nv (· < κ) t0 nv γ := GR.ch c1 (fun r a b z => by have := List.mem_singleton.mp z; omega) (by decide)
  have e24 : γ.2 24 = upd (α.2 24) k (vp_nar .boolean b) := by rw [eγ]; rfl
  have x1 : XD k κ α γ := ⟨fun i _ => c1.int (fun z => by cases z), fun r ra rb l hl => by
    by_cases e : r = 24
    · rw [e, e24, upd_ne (by omega)]
    · rw [c1.arr (fun z => e (List.mem_singleton.mp z))], g1.2.1.su vk⟩
  have I1 := hI.ch c1 (fun i _ z => by cases z) (by decide)
  have Pγ : PO (· < κ) 32000 (k + 1 + many) (fun j => Lr j ∨ j = k) t0 γ := I1.po.mono (by omega) (fun _ z => Or.inl z)
  have aa : ∀ r, r ≠ 24 → γ.2 r = α.2 r := fun r hr => c1.arr (fun z => hr (List.mem_singleton.mp z))
  have hMV : MV (· < κ) 32000 (k + 1 + many) (fun j => Lr j ∨ j = k) np t0 γ w nv := ⟨Pγ, ⟨I1.1.2.2.1, I1.1.2.2.2⟩, I1.2.1.1, I1.2.1.2.1⟩
  have hP2 : ∀ l, l < np → (fun i => if i < np then P i else nv + (i - np)) l = P l := fun l hl => if_pos hl
  obtain ⟨d1, d2, d3, ⟨d4, zz, d5, d6, d7⟩, d8⟩ := hd.of c1 (fun i _ z => by cases z) (by decide) (fun r hr => by rw [c1.arr (by revert hr; revert r; decide)])
  have hbk : BK κ t0 γ nv np nq k many (fun i => if i < np then P i else nv + (i - np)) G z (smf m) m e wh (fun l => uB γ (wh l)) x zz := by
    refine ⟨fun l hl => ((hc l hl).1.cp hP2).gr hP g1 (fun r hr => aa r (by revert hr; revert r; decide)), fun l hl => ?_, ⟨hxx.1, hxx.2.1.sn g1.2.1 hxx.1, hxx.2.2.sn hP.2.2.2 g1.2.1 hxx.1⟩, ⟨d4, d5⟩, fun l hl => by rw [aa 43 (by decide)]; exact (hc l hl).2.2.1⟩
    obtain ⟨-, ⟨y1, y2, y3, y4⟩, -⟩ := hc l hl
    exact ⟨by rw [aa 35 (by decide)]; exact y1, y2, y3.sn g1.2.1 y2, y4.sn hP.2.2.2 g1.2.1 y2, rfl⟩
  have hpf : PF (· < κ) 32000 t0 γ nv np (fun i => if i < np then P i else nv + (i - np)) := fun i hi => by
    obtain ⟨y1, y2⟩ := hB.2.2 i hi
    rw [ml_cg (P := P) (fun l hl => hP2 l (by omega))]
    show _ ∧ VT (· < κ) 32000 t0 γ nv 3000 200 _ (if i < np then P i else nv + (i - np))
    refine ⟨?_, ?_⟩
    · show γ.2 33 i = nI (if i < np then P i else nv + (i - np))
      rw [if_pos hi, aa 33 (by decide)]; exact y1
    · rw [if_pos hi]; exact y2.gr hP g1
  refine ((made_m (κ0 := κ) (Lr := fun j => Lr j ∨ j = k) hN hnq hq9 hkm rfl (Or.inr rfl) (acc_u (tb := tb) (hc.z1 hP) hac h6 hT hnq hq9 (by omega)) (Nat.le_refl _) d6 d7 (fun i _ => ?_) hMV hbk hpf ht.1 (ht.2.1.sn g1.2.1 ht.1) (ht.2.2.1.sn hP.2.2.2 g1.2.1 ht.1) (PIc.sn hP.2.2.2 g1.2.1 ht.1 ht.2.2.2)).mono (fun β y => ?_) (fun β y => (hx.tr x1).tr y)).end
  · show (if np + i < np then P (np + i) else nv + (np + i - np)) = nv + i
    rw [if_neg (by omega), show np + i - np = i by omega]
  · obtain ⟨κ', zz', t, y1, y2, y3, y4, y5, y6, y7, y8, y9, y10, y11⟩ := y
    have xA : XD k κ α0 β := (hx.tr x1).tr y11
    obtain ⟨⟨f1, wu, f2, f3⟩, f4, f5, -, f6, f7, f8, f9, f10⟩ : ID k κ many np q sz p γ := ⟨d1, d2, d3, ⟨d4, zz, d5, d6, d7⟩, d8⟩
    refine ⟨⟨κ', _, ind_fin (np := np) (q := q) h0 xA hkm y1 y2 y3 y4 y5 ((y10.int (by decide)).trans f1) ((y10.int (by decide)).trans f2) f3 (f4.ch y10 (by decide) (by decide)) y6 (by omega) (by rw [y10.arr (by decide)]; exact f6) (by rw [y10.arr (by decide)]; exact f7) (by rw [y10.arr (by decide)]; exact f8) (by rw [y10.arr (by decide)]; exact f9) (by rw [y10.arr (by decide)]; exact f10) y8 y9 (fun i hi => ?_)⟩, f5.ch y10 (by decide), xA⟩
    obtain ⟨⟨-, w1, w2, -⟩, -, -, w3, w4, -, w6⟩ := hc i hi
    refine ⟨?_, ?_, ⟨m i, ?_, by omega⟩, (y7 i hi).1, (y7 i hi).2, ?_⟩
    · rw [y10.arr (by decide), aa 12 (by decide)]; exact w3
    · rw [y10.arr (by decide), aa 23 (by decide)]; exact w4
    · rw [y10.arr (by decide), aa 18 (by decide)]; exact w1
    · rw [y10.arr (by decide), aa 14 (by decide)]; exact w6
theorem ind_384 {uT : Nat} {tb ts tx : Nat → Nat} {α0 : mS} (hN : 400000 < N) (hnq : np + q = nq) (hq9 : nq ≤ 199) (hkm : k + 1 + many ≤ 300) (h0 : MD k κ Lr α0) (h6 : uT + smf tb many ≤ 6000) (hT : 2 * nq + 1 ≤ uT) : ∀ (d j nn t0 w nv tm x sn : Nat) (G z m e wh : Nat → Nat) (α : mS), j + d = many → d < nn → XD k κ α0 α → HB κ k np Lr t0 α w nv P → α.1 29 = nI (smf m j) → IC κ t0 α nv np nq k j P G z m e wh → (∀ l, l < many → TXF κ t0 α np ts l (tx l) ∧ uB α (tx l) = tb l) → ID k κ many np q sz p α → smf (fun l => 1 + m l + smf (fun i => z (smf m l + i)) (m l)) j ≤ smf tb j → (vd (· < κ) 32000 t0 tm ∧ fit α tm ∧ PN α tm ∧ PIc α q tm) → (vd (· < κ) 32000 t0 x ∧ fit α x ∧ clo α x) → vd (· < κ) 32000 t0 sn → rV (f_Mod_inductive_384 N nn (nI j) (nI x) (nI q) (nI sn) (nI many) (nI tm) (nI np) (nI k) α) (fun β => (∃ κ' Lr', MD (k + 1 + many) κ' Lr' β) ∧ LK sz p β ∧ XD k κ α0 β) (XD k κ α0)
  | 0, j, nn, t0, w, nv, tm, x, sn, G, z, m, e, wh, α, hd, hm, hx, hB, h29, hc, htx, hi, hac, ht, hxx, hs => by
    obtain ⟨nn, rfl⟩ : ∃ n', nn = n' + 1 := ⟨nn - 1, by omega⟩
    have ej : j = many := by omega
    subst ej
    have hW := hB.1.po.2.2.2
    rw [f_Mod_inductive_384, if_pos (nI_le (Nat.le_refl _) (by omega)), hW.cl hs]
    have go : ∀ b, rV (f_Mod_inductive_j463 N (nI x) (nI q) (nI j) (nI tm) (nI np) (nI k) b (nI k) α) (fun β => (∃ κ' Lr', MD (k + 1 + j) κ' Lr' β) ∧ LK sz p β ∧ XD k κ α0 β) (XD k κ α0) := ind_463 hN hnq hq9 hkm h0 hx hB hc hi hac h6 hT ht hxx
    refine rV.ix (hW.ix hs) (rV.ite (fun _ => rV.ite (fun _ => go 1) fun _ => rV.ite (fun j1 => ?_) fun _ => go 0) fun _ => go 1)
    have e1 : j = 1 := by
      rcases Nat.decEq j 1 with z | z
      · exact absurd j1 (nI_ne (by omega) (by decide) z)
      · exact z
    obtain ⟨⟨c1, c2, c3, c4, ⟨c5, c6, c7⟩, -⟩, -, -, -, -, c8, -⟩ := hc 0 (by omega)
    obtain ⟨v, ev⟩ := small_m (c := k + 1) (np := np) (q := q) (e := e 0) (m := m 0) hN hB.1.po (by omega) c2 (by omega) c8 (fun _ => ⟨c6.1, c5, by rw [hnq]; exact c7⟩) (by omega)
    rw [nI_1]
    exact rV.ob ev (rV.ite (fun _ => go 0) fun _ => go 1)
  | d + 1, j, nn, t0, w, nv, tm, x, sn, G, z, m, e, wh, α, hd, hm, hx, hB, h29, hc, htx, hi, hac, ht, hxx, hs => by
    obtain ⟨nn, rfl⟩ : ∃ n', nn = n' + 1 := ⟨nn - 1, by omega⟩
    have hP := hB.1.po
    have hW := hP.2.2.2
    have hκ := h0.k
    have a2 := acc_m (hc.z1 hP) hac
    have tbj := smf_le (g := tb) (a := j) (b := many) (by omega)
    rw [f_Mod_inductive_384, if_neg (nI_ge (by omega) (by omega)), hW.cl hs, nI_1, nI_add]
    refine rV.ix (hW.ix hs) ((con_m (c := k + 1 + j) (f := smf m j) (tx := tx j) (ts := ts) (G := G) (z := z) hN (by omega) hnq hq9 rfl (by omega) (fun l hl => ?_) hB h29 (by omega) (htx j (by omega)).1).bv (fun β y => ?_) (fun β y => hx.tr y))
    · obtain ⟨-, -, -, -, -, -, -, -, a9⟩ := h0
      have := ((a9 l).mp hl).1
      omega
    obtain ⟨t1, w1, nv1, mj, ej, whj, G', z', y1, y2, y3, y4, y5, y6, y7, y8, y9, y10⟩ := y
    have hm' : ∀ l, l < j → (fun l => if l = j then mj else m l) l = m l := fun l hl => if_neg (by omega)
    have sm' : ∀ l, l ≤ j → smf (fun l => if l = j then mj else m l) l = smf m l := fun l hl => smf_cg (fun i hi => hm' i (by omega))
    have smj : smf (fun l => if l = j then mj else m l) (j + 1) = smf m j + mj := by
      show smf _ j + (if j = j then mj else m j) = _
      rw [if_pos rfl, sm' j (Nat.le_refl _)]
    rw [nI_1]
    have xβ : XD k κ α β := y10.xd (by omega) y9.2.1 vk
    have ic : IC κ t1 β nv1 np nq k (j + 1) P G' z' (fun l => if l = j then mj else m l) (fun l => if l = j then ej else e l) (fun l => if l = j then whj else wh l) := fun l hl => by
      rcases Nat.lt_or_ge l j with o | o
      · obtain ⟨o1, ⟨o2, o3, o4, o5⟩, o6, o7⟩ := hc l o
        have e0 : l ≠ j := by omega
        rw [sm' l (by omega)]
        show CF (· < κ) 32000 t1 β nv1 np nq k P G' z' l (smf m l) (if l = j then mj else m l) (if l = j then ej else e l) ∧ (β.2 35 l = nI (if l = j then whj else wh l) ∧ vd (· < κ) 32000 t1 (if l = j then whj else wh l) ∧ fit β (if l = j then whj else wh l) ∧ clo β (if l = j then whj else wh l)) ∧ _
        rw [if_neg e0, if_neg e0, if_neg e0]
        have sl : smf m l + m l ≤ smf m j := smf_le (g := m) (a := l + 1) (b := j) o
        refine ⟨?_, ⟨by rw [y10.2.1 35 (by decide) l e0]; exact o2, y9.1 _ o3, o4.sn y9.2.1 o3, o5.sn hW y9.2.1 o3⟩, by rw [y10.2.1 43 (by decide) l e0]; exact o6, ?_⟩
        · have cf := o1.cg (G' := G') (z' := z') (fun l' hl' => y1 l' (by omega))
          obtain ⟨p1, p2, p3, p4, ⟨p5, p6, p7⟩, p8⟩ := cf
          refine ⟨by rw [y10.2.1 36 (by decide) l e0]; exact p1, by rw [y10.2.2.2 18 (by decide) _ (by omega)]; exact p2, p3, p4, ⟨by rw [y10.2.1 37 (by decide) l e0]; exact p5, p6.gr hP y9, apn_sn hW y9.2.1 p6.1 p7⟩, fun i hi' => ?_⟩
          obtain ⟨r1, r2, r3⟩ := p8 i hi'
          exact ⟨by rw [y10.2.2.1 38 (by decide) _ (by omega)]; exact r1, by rw [y10.2.2.1 39 (by decide) _ (by omega)]; exact r2.gr hP y9, r3⟩
        · rw [y10.2.2.2 12 (by decide) _ (by omega), y10.2.2.2 23 (by decide) _ (by omega), y10.2.2.2 15 (by decide) _ (by omega), y10.2.2.2 14 (by decide) _ (by omega)]
          exact o7
      · have el : l = j := by omega
        subst el
        rw [sm' l (Nat.le_refl _)]
        show CF (· < κ) 32000 t1 β nv1 np nq k P G' z' l (smf m l) (if l = l then mj else m l) (if l = l then ej else e l) ∧ (β.2 35 l = nI (if l = l then whj else wh l) ∧ vd (· < κ) 32000 t1 (if l = l then whj else wh l) ∧ fit β (if l = l then whj else wh l) ∧ clo β (if l = l then whj else wh l)) ∧ _
        rw [if_pos rfl, if_pos rfl, if_pos rfl]
        exact ⟨y4, y5, y6, y8⟩
    have eac : smf (fun l => 1 + (fun l => if l = j then mj else m l) l + smf (fun i => z' (smf (fun l => if l = j then mj else m l) l + i)) ((fun l => if l = j then mj else m l) l)) (j + 1) = smf (fun l => 1 + m l + smf (fun i => z (smf m l + i)) (m l)) j + (1 + mj + smf (fun i => z' (smf m j + i)) mj) := by
      have a1 : smf (fun l => 1 + (fun l => if l = j then mj else m l) l + smf (fun i => z' (smf (fun l => if l = j then mj else m l) l + i)) ((fun l => if l = j then mj else m l) l)) j = smf (fun l => 1 + m l + smf (fun i => z (smf m l + i)) (m l)) j := smf_cg fun l hl => by
        have sl : smf m l + m l ≤ smf m j := smf_le (g := m) (a := l + 1) (b := j) hl
        show 1 + (if l = j then mj else m l) + smf (fun i => z' (smf (fun l => if l = j then mj else m l) l + i)) (if l = j then mj else m l) = _
        rw [if_neg (by omega), sm' l (by omega), smf_cg (g := fun i => z (smf m l + i)) (fun i hi' => (y1 _ (by omega)).2)]
      show smf _ j + (1 + (if j = j then mj else m j) + smf (fun i => z' (smf (fun l => if l = j then mj else m l) j + i)) (if j = j then mj else m j)) = _
      rw [a1, if_pos rfl, sm' j (Nat.le_refl _)]
    refine ind_384 (ts := ts) (tx := tx) hN hnq hq9 hkm h0 h6 hT d (j + 1) nn t1 w1 nv1 tm x sn G' z' (fun l => if l = j then mj else m l) (fun l => if l = j then ej else e l) (fun l => if l = j then whj else wh l) β (by omega) (by omega) (hx.tr xβ) y2 (by rw [smj]; exact y3) ic (fun l hl => ?_) (hi.of y10.1 (by decide) (by decide) (fun r hr => ?_)) ?_ ⟨y9.1 _ ht.1, ht.2.1.sn y9.2.1 ht.1, ht.2.2.1.sn hW y9.2.1 ht.1, PIc.sn hW y9.2.1 ht.1 ht.2.2.2⟩ ⟨y9.1 _ hxx.1, hxx.2.1.sn y9.2.1 hxx.1, hxx.2.2.sn hW y9.2.1 hxx.1⟩ (y9.1 _ hs)
    · obtain ⟨o1, o2⟩ := htx l hl
      exact ⟨o1.gr hP y9 (y10.1.arr (by decide)) (y10.1.arr (by decide)), by rw [y9.2.1.b o1.1.2.1]; exact o2⟩
    · exact y10.2.2.2 r (by revert hr; revert r; decide) k (by omega)
    · rw [eac]
      have := (htx j (by omega)).2
      show _ ≤ smf tb j + tb j
      omega
end IND2
