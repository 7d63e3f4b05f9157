-- inductive: what is read
def IA (κ k np many sz p : Nat) (Lr : Nat → Prop) (t : Nat) (α0 α : mS) (ts tx : Nat → Nat) (tm told : Nat) : Prop := XD k κ α0 α ∧ PSm (· < κ) 32000 (k + 1) Lr sz t p np 0 α ∧ (α.1 22 = nI 0 ∧ α.1 23 = nI 0 ∧ α.1 24 = nI 0 ∧ α.1 17 = nI κ ∧ α.1 18 = α0.1 18 ∧ α.1 16 = nI (k + 1 + many) ∧ ∃ wu, α.1 15 = nI wu ∧ wu ≤ 31 * (k + 1 + many)) ∧ NMs (k + 1 + many) α ∧ α.2 12 k = -1 ∧ (∀ i, i < np → (α.2 27 i = nI (ts i) ∧ vd (· < κ) 32000 t (ts i) ∧ PN α (ts i)) ∧ fit α (ts i)) ∧ (∀ l, l < many → α.2 34 l = nI (tx l) ∧ vd (· < κ) 32000 t (tx l) ∧ fit α (tx l) ∧ PN α (tx l)) ∧ (vd (· < κ) 32000 t tm ∧ fit α tm ∧ PN α tm) ∧ (vd (· < κ) 32000 t told ∧ fit α told ∧ PN α told ∧ AC (· < k) α told) ∧ np + uD α tm ≤ uD α told ∧ 2 * np + uB α tm ≤ uB α told
section IND4
variable {N : Nat} {κ k np many sz p p1 : Nat} {Lr : Nat → Prop} {t t1 : Nat} {α0 α β : mS} {ts tx : Nat → Nat} {tm told : Nat}
theorem PSm.ch {W : Nat → Prop} {s Lc sc ph : Nat} {I R : List Nat} (h : PSm W s Lc Lr sz t p sc ph α) (hc : mch I R α β) (hI : ∀ i, i ∈ [0, 5, 6, 7, 8, 9, 10, 19, 20, 21, 28] → i ∉ I) (hR : ∀ r, r ∈ [2, 3, 4, 5, 6, 7, 10, 11, 12, 25, 26, 30, 31] → r ∉ R) : PSm W s Lc Lr sz t p sc ph β := by
  obtain ⟨h1, h2, ⟨h3, h4, h5⟩, ⟨h6', h7⟩, ⟨h8, h9, h10⟩, cp, h11, h12⟩ := h
  have hs : sN (vd W s t) α β := sN.ch hc fun r a b => hR r (by
    have : r = 2 ∨ r = 3 ∨ r = 4 ∨ r = 5 ∨ r = 6 ∨ r = 7 := by omega
    rcases this with e | e | e | e | e | e <;> subst e <;> decide)
  refine ⟨h1.sn hc (hI 10 (by decide)) hs, h2.ch hc (fun i hi => hI i (by revert hi; revert i; decide)), ⟨h3.ch hc (hR 10 (by decide)) (hR 11 (by decide)), (hc.int (hI 28 (by decide))).trans h4, fun j hj => by rw [hc.arr (hR 12 (by decide))]; exact h5 j hj⟩, ⟨(hc.int (hI 19 (by decide))).trans h6', fun i hi => ?_⟩, ⟨(hc.int (hI 20 (by decide))).trans h8, h9, fun i hi => ?_⟩, cp, (hc.int (hI 21 (by decide))).trans h11, h12⟩
  · unfold scf; rw [hc.arr (hR 25 (by decide)), hc.arr (hR 26 (by decide))]; exact h7 i hi
  · unfold hdf; rw [hc.arr (hR 30 (by decide)), hc.arr (hR 31 (by decide))]; exact h10 i hi
theorem IA.gen (h : IA κ k np many sz p Lr t α0 α ts tx tm told) (hx : XD k κ α β) (hp : PSm (· < κ) 32000 (k + 1) Lr sz t1 p1 np 0 β) (ht : t ≤ t1) (hs : sN (vd (· < κ) 32000 t) α β) (hi : ∀ i, i ∈ [15, 16, 17, 18, 22, 23, 24] → β.1 i = α.1 i) (hnm : NMs (k + 1 + many) β) (h12 : β.2 12 k = α.2 12 k) (h27 : ∀ i, i < np → β.2 27 i = α.2 27 i) (h34 : ∀ l, l < many → β.2 34 l = α.2 34 l) : IA κ k np many sz p1 Lr t1 α0 β ts tx tm told := by
  obtain ⟨a1, a2, ⟨b1, b2, b3, b4, b5, b6, wu, b7, b8⟩, a4, a5, a6, a7, ⟨c1, c2, c3⟩, ⟨d1, d2, d3, d4⟩, e1, e2⟩ := h
  have hW := a2.1.2.2.2
  refine ⟨a1.tr hx, hp, ⟨(hi 22 (by decide)).trans b1, (hi 23 (by decide)).trans b2, (hi 24 (by decide)).trans b3, (hi 17 (by decide)).trans b4, (hi 18 (by decide)).trans b5, (hi 16 (by decide)).trans b6, wu, (hi 15 (by decide)).trans b7, b8⟩, hnm, h12.trans a5, fun i hi' => ?_, fun l hl => ?_, ⟨c1.up ht, c2.sn hs c1, c3.sn hW hs c1⟩, ⟨d1.up ht, d2.sn hs d1, d3.sn hW hs d1, d4.sn hW hs d1⟩, by rw [hs.d c1, hs.d d1]; exact e1, by rw [hs.b c1, hs.b d1]; exact e2⟩
  · obtain ⟨⟨y1, y2, y3⟩, y4⟩ := a6 i hi'
    exact ⟨⟨(h27 i hi').trans y1, y2.up ht, y3.sn hW hs y2⟩, y4.sn hs y2⟩
  · obtain ⟨y1, y2, y3, y4⟩ := a7 l hl
    exact ⟨(h34 l hl).trans y1, y2.up ht, y3.sn hs y2, y4.sn hW hs y2⟩
theorem IA.qp (h : IA κ k np many sz p Lr t α0 α ts tx tm told) (q : QP (· < κ) 32000 (k + 1) Lr sz t p np 0 α np 0 t1 p1 β) : IA κ k np many sz p1 Lr t1 α0 β ts tx tm told := by
  have hc := q.2.2.2.1
  exact h.gen (XD.of hc (by decide) (r1024 (by decide)) (q.2.2.2.2.1.su vk)) q.ps q.1 q.2.2.2.2.1 (fun i hi => hc.int (by revert hi; revert i; decide)) (h.2.2.2.1.ch hc (by decide) (by decide)) (by rw [hc.arr (by decide)]) (fun i hi => (q.2.2.2.2.2.1 i hi).2.2) (fun l _ => by rw [hc.arr (by decide)])
theorem IA.ir (h0 : MD k κ Lr α0) (h : IA κ k np many sz p Lr t α0 α ts tx tm told) (hkm : k < 300) : IR κ k np many sz p Lr t α0 α ts tx (fun l => uB α (tx l)) tm told := by
  obtain ⟨a1, a2, ⟨b1, b2, b3, b4, b5, b6, wu, b7, b8⟩, a4, a5, a6, a7, c, d, e1, e2⟩ := h
  obtain ⟨-, ⟨-, zz, z1, z2, z3⟩, -⟩ := id h0
  exact ⟨a1, ⟨⟨a2.1, (h0.en a1).ext (by omega) (by rw [a5]; decide) (by rw [a5]; decide), b1, by decide⟩, ⟨b2, by omega, by omega⟩, b3⟩, a6, fun l hl => ⟨a7 l hl, rfl⟩, ⟨⟨b6, wu, b7, b8⟩, a4, a2.2.1, b4, zz, b5.trans z1, z2, z3⟩, c, d, e1, e2⟩
theorem ind_93 (hN : 400000 < N) (h0 : MD k κ Lr α0) (hnp : np ≤ 3000) : ∀ (d many nn t p : Nat) (tx : Nat → Nat) (α : mS), k + 1 + many + d = 300 → d < nn → IA κ k np many sz p Lr t α0 α ts tx tm told → rV (f_Mod_inductive_93 N nn (nI many) (nI told) (nI tm) (nI np) (nI k) α) (fun β => ∃ p1, p ≤ p1 ∧ (∃ c' κ' Lr', k ≤ c' ∧ MD c' κ' Lr' β) ∧ LK sz p1 β ∧ XD k κ α0 β) (XD k κ α0)
  | d, many, nn, t, p, tx, α, hd, hm, h => by
    obtain ⟨nn, rfl⟩ : ∃ n', nn = n' + 1 := ⟨nn - 1, by omega⟩
    have hκ := h0.k
    have hn := nrmk (show κ ≤ 32000 by omega)
    rw [f_Mod_inductive_93]
    obtain ⟨v, β, p1, e1, hq, hP, h6, hc⟩ := peek_ok hN h.2.1.2.1
    rw [e1]
    have q1 := h.2.1.lx hq hP.1 hc
    have h1 := h.qp q1
    show rV (if v = 124 then _ else _) _ _
    refine rV.ite (fun _ => ?_) fun _ => ?_
    · obtain ⟨γ, p2, e2, a1, a2, a3, -⟩ := take_m hN hP.1
      rw [e2]
      have q2 := h1.2.1.lx a1 a2 a3
      have h2 := h1.qp q2
      show rV (mBv (f_Mod_newName N γ) _) _ _
      obtain ⟨x1, x2, ⟨y1, y2, y3, y4, y5, y6, wu, y7, y8⟩, x4, x5, x6, x7, x8, x9, x10⟩ := id h2
      refine (newName_ok hN x2 y6 (by omega) x4 y7 y8 (by omega)).bv (fun δ u => ?_) (fun δ u => x1.tr (mch_d u (by decide)))
      obtain ⟨p3, wu', c3, b1, b2, b3, b4, b5, b6, b7⟩ := u
      have d16 : δ.1 16 = nI (k + 1 + many) := (b3.int (by decide)).trans y6
      rw [d16, nI_1]
      obtain ⟨ε, eε⟩ : ∃ ε, ε = mSi δ 16 (nI (k + 1 + many + 1)) := ⟨_, rfl⟩
      rw [← eε]
      have ce : mch [16] [] δ ε := by rw [eε]; exact mch.si (by decide)
      have se : ∀ V : Nat → Prop, sN V δ ε := fun V => sN.ch ce (fun r _ _ z => by cases z)
      have s3 : ∀ V : Nat → Prop, sN V γ δ := fun V => sN.ch b3 (fun r a b z => by simp at z; omega)
      have P3 : PSm (· < κ) 32000 (k + 1) Lr sz t p3 np 0 ε := b2.ch ce (by decide) (fun r _ z => by cases z)
      have xg : XD k κ γ ε := ⟨fun i hi => by rw [ce.int (by revert hi; revert i; decide), b3.int (by revert hi; revert i; decide)], fun r ra rb j hj => by
        rw [ce.arr (fun z => by cases z)]
        by_cases e10 : r = 10
        · rw [e10]; exact (b7 j (by omega)).1
        by_cases e11 : r = 11
        · rw [e11]; exact (b7 j (by omega)).2
        rw [b3.arr (fun z => by simp at z; omega)], (s3 _).tr (se _)⟩
      -- the name is read: many + 1 of them, so far many texts
      have cA : mch [5, 6, 7, 8, 9, 15, 16] [9, 10, 11] γ ε := (b3.mo (by decide) (fun _ z => z)).tr (ce.mo (by decide) (fun r z => by cases z))
      refine (must_ok hN P3.2.1).bv (fun ζ g => ?_) (fun ζ g => (x1.tr xg).tr (mch_d g (by decide)))
      obtain ⟨p4, g1, -, g2, g3⟩ := g
      have q4 := P3.lx g1 g2 g3
      refine (term_0 hN hn q4.ps (by omega)).bv (fun v η u => ?_) (fun η u => ((x1.tr xg).tr (XD.of q4.2.2.2.1 (by decide) (r1024 (by decide)) (q4.2.2.2.2.1.su vk))).tr (XD.pa u vk))
      obtain ⟨x, t5, p5, rfl, u1, u2, u3, u4⟩ := u
      have q5 := q4.tr u1 (Nat.le_refl _) (Nat.le_refl _)
      have c5 := q5.2.2.2.1
      refine rV.ix (mix (show many < 301 by omega) (by decide)) ?_
      rw [nI_clamp (show many < 2 ^ 31 by omega), nI_1]
      obtain ⟨θ, eθ⟩ : ∃ θ, θ = mSA η 34 (upd (η.2 34) many (nI x)) := ⟨_, rfl⟩
      rw [← eθ]
      have ct : mch [] [34] η θ := by rw [eθ]; exact mch.sA (by decide)
      have st : ∀ V : Nat → Prop, sN V η θ := fun V => sN.ch ct (fun r a b z => by have := List.mem_singleton.mp z; omega)
      have t34 : θ.2 34 = upd (η.2 34) many (nI x) := by rw [eθ]; rfl
      have sA : sN (vd (· < κ) 32000 t) γ θ := (s3 _).tr ((se _).tr (q5.2.2.2.2.1.tr (st _)))
      have cB : mch [5, 6, 7, 8, 9, 10, 15, 16, 19, 20, 21] [2, 3, 4, 5, 6, 7, 9, 10, 11, 25, 26, 27, 28, 29, 30, 31, 34] γ θ := (cA.mo (by decide) (by decide)).tr ((c5.mo (by decide) (by decide)).tr (ct.mo (fun _ z => by cases z) (by decide)))
      have xB : XD k κ γ θ := xg.tr ((XD.of c5 (by decide) (r1024 (by decide)) (q5.2.2.2.2.1.su vk)).tr (XD.of ct (fun i _ z => by cases z) (r1024 (by decide)) (st _)))
      have P5 : PSm (· < κ) 32000 (k + 1) Lr sz t5 p5 np 0 θ := q5.ps.ch ct (fun i _ z => by cases z) (by decide)
      have nmθ : NMs (k + 1 + (many + 1)) θ := ((b4.ch ce (fun z => by cases z) (fun z => by cases z)).ch c5 (by decide) (by decide)).ch ct (by decide) (by decide)
      have nmk : NMs (k + 1 + many) θ := ⟨by omega, fun j hj => nmθ.2 j (by omega)⟩
      have t27 : ∀ i, i < np → θ.2 27 i = γ.2 27 i := fun i hi => by
        rw [ct.arr (by decide), (q5.2.2.2.2.2.1 i hi).2.2, ce.arr (fun z => by cases z), b3.arr (by decide)]
      have o34 : ∀ l, l < many → θ.2 34 l = γ.2 34 l := fun l hl => by
        rw [t34, upd_ne (by omega), c5.arr (by decide), ce.arr (fun z => by cases z), b3.arr (by decide)]
      have hW2 := x2.1.2.2.2
      have h5 : IA κ k np (many + 1) sz p5 Lr t5 α0 θ ts (fun l => if l = many then x else tx l) tm told := by
        obtain ⟨c1, c2, c3'⟩ := x8
        obtain ⟨d1, d2, d3, d4⟩ := x9
        refine ⟨x1.tr xB, P5, ⟨(cB.int (by decide)).trans y1, (cB.int (by decide)).trans y2, (cB.int (by decide)).trans y3, (cB.int (by decide)).trans y4, (cB.int (by decide)).trans y5, ?_, wu', ?_, by omega⟩, nmθ, (by rw [cB.arr (by decide)]; exact x5), fun i hi' => ?_, fun l hl => ?_, ⟨c1.up q5.1, c2.sn sA c1, c3'.sn hW2 sA c1⟩, ⟨d1.up q5.1, d2.sn sA d1, d3.sn hW2 sA d1, d4.sn hW2 sA d1⟩, by rw [sA.d c1, sA.d d1]; exact x10.1, by rw [sA.b c1, sA.b d1]; exact x10.2⟩
        · rw [ct.int (fun z => by cases z), c5.int (by decide), eε]; rfl
        · rw [ct.int (fun z => by cases z), c5.int (by decide), ce.int (by decide)]; exact b5
        · obtain ⟨⟨w1, w2, w3⟩, w4⟩ := x6 i hi'
          exact ⟨⟨(t27 i hi').trans w1, w2.up q5.1, w3.sn hW2 sA w2⟩, w4.sn sA w2⟩
        · rcases Nat.lt_or_ge l many with o | o
          · show θ.2 34 l = nI (if l = many then x else tx l) ∧ vd (· < κ) 32000 t5 (if l = many then x else tx l) ∧ fit θ (if l = many then x else tx l) ∧ PN θ (if l = many then x else tx l)
            rw [if_neg (by omega)]
            obtain ⟨w1, w2, w3, w4⟩ := x7 l o
            exact ⟨(o34 l o).trans w1, w2.up q5.1, w3.sn sA w2, w4.sn hW2 sA w2⟩
          · have el : l = many := by omega
            show θ.2 34 l = nI (if l = many then x else tx l) ∧ vd (· < κ) 32000 t5 (if l = many then x else tx l) ∧ fit θ (if l = many then x else tx l) ∧ PN θ (if l = many then x else tx l)
            rw [if_pos el, el, t34, upd_at]
            exact ⟨rfl, u2, u3.sn (st (fun _ => True)) trivial, u4.sn q5.ps.1.2.2.2 (st _) u2⟩
      obtain ⟨d, rfl⟩ : ∃ d', d = d' + 1 := ⟨d - 1, by omega⟩
      refine (ind_93 hN h0 hnp d (many + 1) nn t5 p5 (fun l => if l = many then x else tx l) θ (by omega) (by omega) h5).mono (fun ι y => ?_) (fun ι y => y)
      obtain ⟨p9, z1, z2⟩ := y
      exact ⟨p9, by have := q5.2.1; omega, z2⟩
    · refine (must_ok hN hP.1).bv (fun γ g => ?_) (fun γ g => h1.1.tr (mch_d g (by decide)))
      obtain ⟨p2, g1, -, g2, g3⟩ := g
      have h2 := h1.qp (h1.2.1.lx g1 g2 g3)
      refine (must_ok hN g2).bv (fun δ u => ?_) (fun γ g => h2.1.tr (mch_d g (by decide)))
      obtain ⟨p3, u1, -, u2, u3⟩ := u
      have h3 := h2.qp (h2.2.1.lx u1 u2 u3)
      have ir := h3.ir h0 (by omega)
      have hW := h3.2.1.1.2.2.2
      have vT := ir.2.2.2.2.2.2.1.1
      obtain ⟨-, -, ⟨b1, -⟩, -⟩ := hW told vT
      rw [hW.cl vT, b1]
      refine rV.ix (hW.ix vT) ?_
      show rV (f_Mod_inductive_168 N N (nI 0) (nI (uB δ told + smf (fun l => uB δ (tx l)) 0)) (nI many) (nI told) (nI tm) (nI np) (nI k) δ) _ _
      refine (ind_168 hN (by omega) h0 ir many 0 N (by omega) (by omega) (Nat.le_refl _)).mono (fun β y => ?_) (fun _ y => y)
      obtain ⟨⟨κ', Lr', y1⟩, y2, y3⟩ := y
      exact ⟨p3, by omega, ⟨k + 1 + many, κ', Lr', by omega, y1⟩, y2, y3⟩
/-- what stands before the type of the family is read -/
def IP (κ k np sz p : Nat) (Lr : Nat → Prop) (t : Nat) (α0 α : mS) (ts : Nat → Nat) : Prop := XD k κ α0 α ∧ PSm (· < κ) 32000 k Lr sz t p np 0 α ∧ (α.1 22 = nI 0 ∧ α.1 23 = nI 0 ∧ α.1 24 = nI 0 ∧ α.1 17 = nI κ ∧ α.1 18 = α0.1 18 ∧ α.1 16 = nI k ∧ ∃ wu, α.1 15 = nI wu ∧ wu ≤ 31 * (k + 1)) ∧ NMs (k + 1) α ∧ (∀ i, i < np → (α.2 27 i = nI (ts i) ∧ vd (· < κ) 32000 t (ts i) ∧ PN α (ts i)) ∧ fit α (ts i))
theorem IP.qp (h : IP κ k np sz p Lr t α0 α ts) (q : QP (· < κ) 32000 k Lr sz t p np 0 α np 0 t1 p1 β) : IP κ k np sz p1 Lr t1 α0 β ts := by
  obtain ⟨a1, a2, ⟨b1, b2, b3, b4, b5, b6, wu, b7, b8⟩, a4, a6⟩ := h
  have hc := q.2.2.2.1
  have hs := q.2.2.2.2.1
  have hW := a2.1.2.2.2
  refine ⟨a1.tr (XD.of hc (by decide) (r1024 (by decide)) (hs.su vk)), q.ps, ⟨(hc.int (by decide)).trans b1, (hc.int (by decide)).trans b2, (hc.int (by decide)).trans b3, (hc.int (by decide)).trans b4, (hc.int (by decide)).trans b5, (hc.int (by decide)).trans b6, wu, (hc.int (by decide)).trans b7, b8⟩, a4.ch hc (by decide) (by decide), fun i hi' => ?_⟩
  obtain ⟨⟨y1, y2, y3⟩, y4⟩ := a6 i hi'
  exact ⟨⟨(q.2.2.2.2.2.1 i hi').2.2.trans y1, y2.up q.1, y3.sn hW hs y2⟩, y4.sn hs y2⟩
theorem ind_j31 (hN : 400000 < N) (h0 : MD k κ Lr α0) (hk : k < 300) (hnp : np ≤ 3000) (h : IP κ k np sz p Lr t α0 α ts) : rV (f_Mod_inductive_j31 N (nI k) (nI np) α) (fun β => ∃ p1, p ≤ p1 ∧ (∃ c' κ' Lr', k ≤ c' ∧ MD c' κ' Lr' β) ∧ LK sz p1 β ∧ XD k κ α0 β) (XD k κ α0) := by
  have hκ := h0.k
  have hn := nrmk (show κ ≤ 32000 by omega)
  unfold f_Mod_inductive_j31
  refine (must_ok hN h.2.1.2.1).bv (fun β g => ?_) (fun β g => h.1.tr (mch_d g (by decide)))
  obtain ⟨p1, g1, -, g2, g3⟩ := g
  have h1 := h.qp (h.2.1.lx g1 g2 g3)
  refine (term_0 hN hn h1.2.1 (by omega)).bv (fun v γ u => ?_) (fun γ u => h1.1.tr (XD.pa u vk))
  obtain ⟨tm, t2, p2, rfl, u1, u2, u3, u4⟩ := u
  have h2 := h1.qp u1
  refine (must_ok hN h2.2.1.2.1).bv (fun δ g => ?_) (fun β g => h2.1.tr (mch_d g (by decide)))
  obtain ⟨p3, o1, -, o2, o3⟩ := g
  have q3 := h2.2.1.lx o1 o2 o3
  have h3 := h2.qp q3
  refine (must_ok hN h3.2.1.2.1).bv (fun ε g => ?_) (fun β g => h3.1.tr (mch_d g (by decide)))
  obtain ⟨p4, w1, -, w2, w3⟩ := g
  have q4 := h3.2.1.lx w1 w2 w3
  have h4 := h3.qp q4
  have s4 : sN (vd (· < κ) 32000 t2) γ ε := q3.2.2.2.2.1.tr q4.2.2.2.2.1
  have hW2 := h2.2.1.1.2.2.2
  have vt : vd (· < κ) 32000 t2 tm := u2
  refine (tele_ok (ts := ts) hN hn hnp h4.2.1.1 (fun i hi => (h4.2.2.2.2 i hi).1) vt (u3.sn s4 vt) (u4.sn hW2 s4 vt)).bv (fun v ζ y => ?_) (fun ζ y => h4.1.tr (XD.of y.1 (by decide) (r1024 (by decide)) (y.2.su vk)))
  obtain ⟨told, t5, rfl, y1, y2, y3, y4, y5⟩ := y
  have ac : AC (· < k) ζ told := AC.all y1.2.1.2.2.2 (fun _ z => z) y1.2.2.2.2
  obtain ⟨a1, a2, ⟨b1, b2, b3, b4, b5, b6, wu, b7, b8⟩, a4, a6⟩ := h4
  have z16 : ζ.1 16 = nI k := (y1.2.2.1.int (by decide)).trans b6
  refine rV.ix (mix (show k < 301 by omega) (by decide)) ?_
  rw [nI_clamp (show k < 2 ^ 31 by omega), z16, nI_1]
  obtain ⟨θ, eθ⟩ : ∃ θ, θ = mSi (mSi (mSA ζ 12 (upd (ζ.2 12) k (-1))) 16 (nI (k + 1))) 28 (nI (k + 1)) := ⟨_, rfl⟩
  rw [← eθ]
  have ct : mch [16, 28] [12] ζ θ := by rw [eθ]; exact ((mch.sA (by decide)).tr (mch.si (by decide))).tr (mch.si (by decide))
  have st : ∀ V : Nat → Prop, sN V ζ θ := fun V => sN.ch ct (fun r a b z => by have := List.mem_singleton.mp z; omega)
  have t12 : θ.2 12 = upd (ζ.2 12) k (-1) := by rw [eθ]; rfl
  have cA : mch [10, 16, 28] [2, 3, 4, 5, 6, 7, 8, 12] ε θ := (y1.2.2.1.mo (by decide) (by decide)).tr (ct.mo (by decide) (by decide))
  have sA : sN (vd (· < κ) 32000 t2) ε θ := y1.2.2.2.1.tr (st _)
  have xA : XD k κ ε θ := ⟨fun i hi => cA.int (by revert hi; revert i; decide), fun r ra rb j hj => by
    by_cases e : r = 12
    · rw [e, t12, upd_ne (by omega), y1.2.2.1.arr (by decide)]
    · rw [cA.arr (fun z => by simp at z; omega)], sA.su vk⟩
  have P1 : PSm (· < κ) 32000 (k + 1) Lr sz t5 p4 np 0 θ := by
    obtain ⟨c1, c2, ⟨c3, c4, c5⟩, ⟨c6, c7⟩, ⟨c8, c9, c10⟩, cp, c11, c12⟩ := a2
    refine ⟨(y1.2.1.sn ct (by decide) (st _)).mono (by omega) (fun _ z => z), c2.ch cA (by decide), ⟨a4.ch cA (by decide) (by decide), by rw [eθ]; rfl, fun j hj z => ?_⟩, ⟨(cA.int (by decide)).trans c6, fun i hi => ?_⟩, ⟨(cA.int (by decide)).trans c8, c9, fun i hi => by omega⟩, cp, (cA.int (by decide)).trans c11, c12⟩
    · rcases Nat.lt_or_ge j k with o | o
      · exact c5 j o (by rw [← z, t12, upd_ne (by omega), y1.2.2.1.arr (by decide)])
      · have ej : j = k := by omega
        rw [ej, t12, upd_at] at z
        exact absurd z (by decide)
    · unfold scf; rw [cA.arr (by decide), cA.arr (by decide)]; exact c7 i hi
  have hWζ := y1.2.1.2.2.2
  have hWε := a2.1.2.2.2
  have fT : fit ε tm := u3.sn s4 vt
  have pT : PN ε tm := u4.sn hW2 s4 vt
  have vT := y1.2.2.2.2
  have IAθ : IA κ k np 0 sz p4 Lr t5 α0 θ ts (fun _ => 0) tm told := by
    refine ⟨a1.tr xA, P1, ⟨(cA.int (by decide)).trans b1, (cA.int (by decide)).trans b2, (cA.int (by decide)).trans b3, (cA.int (by decide)).trans b4, (cA.int (by decide)).trans b5, by rw [eθ]; rfl, wu, (cA.int (by decide)).trans b7, b8⟩, a4.ch cA (by decide) (by decide), by rw [t12, upd_at], fun i hi => ?_, fun l hl => by omega, ⟨vt.up y1.1, fT.sn sA vt, pT.sn hWε sA vt⟩, ⟨vT, y2.sn (st (fun _ => True)) trivial, y3.sn hWζ (st _) vT, ac.sn hWζ (st _) vT⟩, by rw [sA.d vt, (st (fun _ => True)).d trivial]; exact y4, by rw [sA.b vt, (st (fun _ => True)).b trivial]; exact y5⟩
    obtain ⟨⟨e1, e2, e3⟩, e4⟩ := a6 i hi
    exact ⟨⟨by rw [cA.arr (by decide)]; exact e1, e2.up y1.1, e3.sn hWε sA e2⟩, e4.sn sA e2⟩
  show rV (f_Mod_inductive_93 N N (nI 0) (nI told) (nI tm) (nI np) (nI k) θ) _ _
  refine (ind_93 hN h0 hnp (300 - (k + 1)) 0 N t5 p4 (fun _ => 0) θ (by omega) (by omega) IAθ).mono (fun ι y => ?_) (fun ι y => y)
  obtain ⟨p9, z1, z2⟩ := y
  exact ⟨p9, by have := u1.2.1; omega, z2⟩
/-- inductive -/
theorem inductive_ok {c : Nat} (hN : 400000 < N) (h : D0 c κ Lr sz p α) (h9 : α.1 9 ≠ 0) (h6 : α.1 6 ≠ 0) : rV (f_Mod_inductive N α) (DT c sz p α) (XD c κ α) := by
  have hκ := h.1.k
  have hn := nrmk (show κ ≤ 32000 by omega)
  have h0 := h.pd
  unfold f_Mod_inductive
  obtain ⟨β, p1, e1, a1, a2, a3, a4⟩ := take_m hN h.2.1.2.1
  have pl := a4 h9 h6
  rw [e1]
  have h1 := h0.qp (h.2.1.lx a1 a2 a3)
  show rV (mBv (f_Mod_newName N β) _) _ _
  obtain ⟨wu, m3, m3'⟩ := h.1.2.2.1
  refine (newName_ok hN h1.2.2.2.1 h1.2.2.1.1 h.1.1.2 (h.1.2.2.2.1.ch a3 (fun z => by cases z) (fun z => by cases z)) ((a3.int (by decide)).trans m3) m3' (Nat.le_refl _)).bv (fun γ u => ?_) (fun γ u => h1.lx u)
  obtain ⟨p2, wu', c3, b1, b2, b3, b4, b5, b6, b7⟩ := u
  have xg : XD c κ β γ := ⟨fun i hi => b3.int (by revert hi; revert i; decide), fun r ra rb j hj => by
    by_cases e10 : r = 10
    · rw [e10]; exact (b7 j hj).1
    by_cases e11 : r = 11
    · rw [e11]; exact (b7 j hj).2
    rw [b3.arr (fun z => by simp at z; omega)], sN.ch b3 (fun r a b z => by simp at z; omega)⟩
  have iz := h1.2.2.2.2
  have hIP : IP κ c 0 sz p2 Lr 32000 α γ (fun _ => 0) := ⟨h1.2.1.tr xg, b2, ⟨(b3.int (by decide)).trans iz.1.2.2.1, (b3.int (by decide)).trans iz.2.1.1, (b3.int (by decide)).trans iz.2.2, (b3.int (by decide)).trans h1.2.2.1.2.1, (b3.int (by decide)).trans h1.2.2.1.2.2, (b3.int (by decide)).trans h1.2.2.1.1, wu', b5, b6⟩, b4, fun i hi => by omega⟩
  have g16 : γ.1 16 = nI c := (b3.int (by decide)).trans h1.2.2.1.1
  have fin : ∀ {f : Option (kO × mS)} {q : Nat}, p < q → rV f (fun β => ∃ p1, q ≤ p1 ∧ (∃ c' κ' Lr', c ≤ c' ∧ MD c' κ' Lr' β) ∧ LK sz p1 β ∧ XD c κ α β) (XD c κ α) → rV f (DT c sz p α) (XD c κ α) := fun {f q} hq g => g.mono (fun β ⟨p1, x1, ⟨c', κ', Lr', x2, x3⟩, x4, x5⟩ => ⟨p1, by omega, c', κ', Lr', p1, x2, Nat.le_refl _, x3, x4, fun ⟨o, o1, o2⟩ => ⟨o, (x5.1 1 (by decide)).trans o1, o2⟩, fun i hi => x5.1 i (by revert hi; revert i; decide)⟩) (fun _ q => q)
  obtain ⟨v, δ, p3, e3, hq3, hP3, h63, hc3⟩ := peek_ok hN b2.2.1
  rw [e3]
  have q3 := b2.lx hq3 hP3.1 hc3
  have h3 := hIP.qp q3
  show rV (if v = 40 then _ else _) _ _
  rw [g16]
  refine rV.ite (fun _ => ?_) fun _ => fin (show p < p3 by omega) (ind_j31 (np := 0) hN h.1 c3 (by decide) h3)
  refine (binders_0 hN hn h3.2.1 (by decide)).bv (fun v ε u => ?_) (fun ε u => h3.1.tr (XD.pa u vk))
  obtain ⟨np, t4, p4, rfl, u1, u2, u3⟩ := u
  rw [Nat.zero_add] at u1 u2
  have hc4 := u1.2.2.2.1
  have hts : ∀ i, ∃ v, i < np → ε.2 27 i = nI v ∧ vd (· < κ) 32000 t4 v ∧ fit ε v ∧ PN ε v := fun i => by
    by_cases hi : i < np
    · obtain ⟨v, x1, x2, x3, x4⟩ := u3 i hi
      rw [Nat.zero_add] at x1
      exact ⟨v, fun _ => ⟨x1, x2, x3, x4⟩⟩
    · exact ⟨0, fun z => absurd z hi⟩
  obtain ⟨ts, hts⟩ := Classical.axiomOfChoice hts
  obtain ⟨w1, w2, ⟨y1, y2, y3, y4, y5, y6, wu2, y7, y8⟩, w4, -⟩ := h3
  have h4 : IP κ c np sz p4 Lr t4 α ε ts := ⟨w1.tr (XD.of hc4 (by decide) (r1024 (by decide)) (u1.2.2.2.2.1.su vk)), u1.ps, ⟨(hc4.int (by decide)).trans y1, (hc4.int (by decide)).trans y2, (hc4.int (by decide)).trans y3, (hc4.int (by decide)).trans y4, (hc4.int (by decide)).trans y5, (hc4.int (by decide)).trans y6, wu2, (hc4.int (by decide)).trans y7, y8⟩, w4.ch hc4 (by decide) (by decide), fun i hi => by
    obtain ⟨x1, x2, x3, x4⟩ := hts i hi
    exact ⟨⟨x1, x2, x4⟩, x3⟩⟩
  exact fin (show p < p4 by have := u1.2.1; omega) (ind_j31 hN h.1 c3 u2 h4)
end IND4
