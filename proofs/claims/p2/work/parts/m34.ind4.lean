-- inductive: what is read
def IA (κ k np many sz p : Nat) (Lr : Nat → Prop) (t : Nat) (α0 α : mS) (ts tx : Nat → Nat) (tm told : Nat) : Prop := XD k κ α0 α ∧ PSm (· < κ) 32000 (k + 1) Lr sz t p np 0 α ∧ (α.1 22 = nI 0 ∧ α.1 23 = nI 0 ∧ α.1 24 = nI 0 ∧ α.1 17 = nI κ ∧ α.1 18 = α0.1 18 ∧ α.1 16 = nI (k + 1 + many) ∧ ∃ wu, α.1 15 = nI wu ∧ wu ≤ 31 * (k + 1 + many)) ∧ NMs (k + 1 + many) α ∧ α.2 12 k = -1 ∧ (∀ i, i < np → (α.2 27 i = nI (ts i) ∧ vd (· < κ) 32000 t (ts i) ∧ PN α (ts i)) ∧ fit α (ts i)) ∧ (∀ l, l < many → α.2 34 l = nI (tx l) ∧ vd (· < κ) 32000 t (tx l) ∧ fit α (tx l) ∧ PN α (tx l)) ∧ (vd (· < κ) 32000 t tm ∧ fit α tm ∧ PN α tm) ∧ (vd (· < κ) 32000 t told ∧ fit α told ∧ PN α told ∧ AC (· < k) α told) ∧ np + uD α tm ≤ uD α told ∧ 2 * np + uB α tm ≤ uB α told
section IND4
variable {N : Nat} {κ k np many sz p p1 : Nat} {Lr : Nat → Prop} {t t1 : Nat} {α0 α β : mS} {ts tx : Nat → Nat} {tm told : Nat}
theorem PSm.ch {W : Nat → Prop} {s Lc sc ph : Nat} {I R : List Nat} (h : PSm W s Lc Lr sz t p sc ph α) (hc : mch I R α β) (hI : ∀ i, i ∈ [0, 5, 6, 7, 8, 9, 10, 19, 20, 21, 28] → i ∉ I) (hR : ∀ r, r ∈ [2, 3, 4, 5, 6, 7, 10, 11, 12, 25, 26, 30, 31] → r ∉ R) : PSm W s Lc Lr sz t p sc ph β := by
  obtain ⟨h1, h2, ⟨h3, h4, h5⟩, ⟨h6', h7⟩, ⟨h8, h9, h10⟩, cp, h11, h12⟩ := h
  have hs : sN (vd W s t) α β := sN.ch hc fun r a b => hR r (by
    have : r = 2 ∨ r = 3 ∨ r = 4 ∨ r = 5 ∨ r = 6 ∨ r = 7 := by omega
    rcases this with e | e | e | e | e | e <;> subst e <;> decide)
  refine ⟨h1.sn hc (hI 10 (by decide)) hs, h2.ch hc (fun i hi => hI i (by revert hi; revert i; decide)), ⟨h3.ch hc (hR 10 (by decide)) (hR 11 (by decide)), (hc.int (hI 28 (by decide))).trans h4, fun j hj => by rw [hc.arr (hR 12 (by decide))]; exact h5 j hj⟩, ⟨(hc.int (hI 19 (by decide))).trans h6', fun i hi => ?_⟩, ⟨(hc.int (hI 20 (by decide))).trans h8, h9, fun i hi => ?_⟩, cp, (hc.int (hI 21 (by decide))).trans h11, h12⟩
  · unfold scf; rw [hc.arr (hR 25 (by decide)), hc.arr (hR 26 (by decide))]; exact h7 i hi
  · unfold hdf; rw [hc.arr (hR 30 (by decide)), hc.arr (hR 31 (by decide))]; exact h10 i hi
theorem IA.gen (h : IA κ k np many sz p Lr t α0 α ts tx tm told) (hx : XD k κ α β) (hp : PSm (· < κ) 32000 (k + 1) Lr sz t1 p1 np 0 β) (ht : t ≤ t1) (hs : sN (vd (· < κ) 32000 t) α β) (hi : ∀ i, i ∈ [15, 16, 17, 18, 22, 23, 24] → β.1 i = α.1 i) (hnm : NMs (k + 1 + many) β) (h12 : β.2 12 k = α.2 12 k) (h27 : ∀ i, i < np → β.2 27 i = α.2 27 i) (h34 : ∀ l, l < many → β.2 34 l = α.2 34 l) : IA κ k np many sz p1 Lr t1 α0 β ts tx tm told := by
  obtain ⟨a1, a2, ⟨b1, b2, b3, b4, b5, b6, wu, b7, b8⟩, a4, a5, a6, a7, ⟨c1, c2, c3⟩, ⟨d1, d2, d3, d4⟩, e1, e2⟩ := h
  have hW := a2.1.2.2.2
  refine ⟨a1.tr hx, hp, ⟨(hi 22 (by decide)).trans b1, (hi 23 (by decide)).trans b2, (hi 24 (by decide)).trans b3, (hi 17 (by decide)).trans b4, (hi 18 (by decide)).trans b5, (hi 16 (by decide)).trans b6, wu, (hi 15 (by decide)).trans b7, b8⟩, hnm, h12.trans a5, fun i hi' => ?_, fun l hl => ?_, ⟨c1.up ht, c2.sn hs c1, c3.sn hW hs c1⟩, ⟨d1.up ht, d2.sn hs d1, d3.sn hW hs d1, d4.sn hW hs d1⟩, by rw [hs.d c1, hs.d d1]; exact e1, by rw [hs.b c1, hs.b d1]; exact e2⟩
  · obtain ⟨⟨y1, y2, y3⟩, y4⟩ := a6 i hi'
    exact ⟨⟨(h27 i hi').trans y1, y2.up ht, y3.sn hW hs y2⟩, y4.sn hs y2⟩
  · obtain ⟨y1, y2, y3, y4⟩ := a7 l hl
    exact ⟨(h34 l hl).trans y1, y2.up ht, y3.sn hs y2, y4.sn hW hs y2⟩
theorem IA.qp (h : IA κ k np many sz p Lr t α0 α ts tx tm told) (q : QP (· < κ) 32000 (k + 1) Lr sz t p np 0 α np 0 t1 p1 β) : IA κ k np many sz p1 Lr t1 α0 β ts tx tm told := by
  have hc := q.2.2.2.1
  exact h.gen (XD.of hc (by decide) (r1024 (by decide)) (q.2.2.2.2.1.su vk)) q.ps q.1 q.2.2.2.2.1 (fun i hi => hc.int (by revert hi; revert i; decide)) (h.2.2.2.1.ch hc (by decide) (by decide)) (by rw [hc.arr (by decide)]) (fun i hi => (q.2.2.2.2.2.1 i hi).2.2) (fun l _ => by rw [hc.arr (by decide)])
theorem IA.ir (h0 : MD k κ Lr α0) (h : IA κ k np many sz p Lr t α0 α ts tx tm told) (hkm : k < 300) : IR κ k np many sz p Lr t α0 α ts tx (fun l => uB α (tx l)) tm told := by
  obtain ⟨a1, a2, ⟨b1, b2, b3, b4, b5, b6, wu, b7, b8⟩, a4, a5, a6, a7, c, d, e1, e2⟩ := h
  obtain ⟨-, ⟨-, zz, z1, z2, z3⟩, -⟩ := id h0
  exact ⟨a1, ⟨⟨a2.1, (h0.en a1).ext (by omega) (by rw [a5]; decide) (by rw [a5]; decide), b1, by decide⟩, ⟨b2, by omega, by omega⟩, b3⟩, a6, fun l hl => ⟨a7 l hl, rfl⟩, ⟨⟨b6, wu, b7, b8⟩, a4, a2.2.1, b4, zz, b5.trans z1, z2, z3⟩, c, d, e1, e2⟩
theorem ind_93 (hN : 400000 < N) (h0 : MD k κ Lr α0) (hnp : np ≤ 3000) : ∀ (d many nn t p : Nat) (tx : Nat → Nat) (α : mS), k + 1 + many + d = 300 → d < nn → IA κ k np many sz p Lr t α0 α ts tx tm told → rV (f_Mod_inductive_93 N nn (nI many) (nI told) (nI tm) (nI np) (nI k) α) (fun β => ∃ p1, p ≤ p1 ∧ (∃ c' κ' Lr', k ≤ c' ∧ MD c' κ' Lr' β) ∧ LK sz p1 β ∧ XD k κ α0 β) (XD k κ α0)
  | d, many, nn, t, p, tx, α, hd, hm, h => by
    obtain ⟨nn, rfl⟩ : ∃ n', nn = n' + 1 := ⟨nn - 1, by omega⟩
    have hκ := h0.k
    have hn := nrmk (show κ ≤ 32000 by omega)
    rw [f_Mod_inductive_93]
    obtain ⟨v, β, p1, e1, hq, hP, h6, hc⟩ := peek_ok hN h.2.1.2.1
    rw [e1]
    have q1 := h.2.1.lx hq hP.1 hc
    have h1 := h.qp q1
    show rV (if v = 124 then _ else _) _ _
    refine rV.ite (fun _ => ?_) fun _ => ?_
    · obtain ⟨γ, p2, e2, a1, a2, a3, -⟩ := take_m hN hP.1
      rw [e2]
      have q2 := h1.2.1.lx a1 a2 a3
      have h2 := h1.qp q2
      show rV (mBv (f_Mod_newName N γ) _) _ _
      obtain ⟨x1, x2, ⟨y1, y2, y3, y4, y5, y6, wu, y7, y8⟩, x4, x5, x6, x7, x8, x9, x10⟩ := id h2
      refine (newName_ok hN x2 y6 (by omega) x4 y7 y8 (by omega)).bv (fun δ u => ?_) (fun δ u => x1.tr (mch_d u (by decide)))
      obtain ⟨p3, wu', c3, b1, b2, b3, b4, b5, b6, b7⟩ := u
      have d16 : δ.1 16 = nI (k + 1 + many) := (b3.int (by decide)).trans y6
      rw [d16, nI_1]
      obtain ⟨ε, eε⟩ : ∃ ε, ε = mSi δ 16 (nI (k + 1 + many + 1)) := ⟨_, rfl⟩
      rw [← eε]
      have ce : mch [16] [] δ ε := by rw [eε]; exact mch.si (by decide)
      have se : ∀ V : Nat → Prop, sN V δ ε := fun V => sN.ch ce (fun r _ _ z => by cases z)
      have s3 : ∀ V : Nat → Prop, sN V γ δ := fun V => sN.ch b3 (fun r a b z => by simp at z; omega)
      have P3 : PSm (· < κ) 32000 (k + 1) Lr sz t p3 np 0 ε := b2.ch ce (by decide) (fun r _ z => by cases z)
      have xg : XD k κ γ ε := ⟨fun i hi => by rw [ce.int (by revert hi; revert i; decide), b3.int (by revert hi; revert i; decide)], fun r ra rb j hj => by
        rw [ce.arr (fun z => by cases z)]
        by_cases e10 : r = 10
        · rw [e10]; exact (b7 j (by omega)).1
        by_cases e11 : r = 11
        · rw [e11]; exact (b7 j (by omega)).2
        rw [b3.arr (fun z => by simp at z; omega)], (s3 _).tr (se _)⟩
      -- the name is read: many + 1 of them, so far many texts
      have cA : mch [5, 6, 7, 8, 9, 15, 16] [9, 10, 11] γ ε := (b3.mo (by decide) (fun _ z => z)).tr (ce.mo (by decide) (fun r z => by cases z))
      refine (must_ok hN P3.2.1).bv (fun ζ g => ?_) (fun ζ g => (x1.tr xg).tr (mch_d g (by decide)))
      obtain ⟨p4, g1, -, g2, g3⟩ := g
      have q4 := P3.lx g1 g2 g3
      refine (term_0 hN hn q4.ps (by omega)).bv (fun v η u => ?_) (fun η u => ((x1.tr xg).tr (XD.of q4.2.2.2.1 (by decide) (r1024 (by decide)) (q4.2.2.2.2.1.su vk))).tr (XD.pa u vk))
      obtain ⟨x, t5, p5, rfl, u1, u2, u3, u4⟩ := u
      have q5 := q4.tr u1 (Nat.le_refl _) (Nat.le_refl _)
      have c5 := q5.2.2.2.1
      refine rV.ix (mix (show many < 301 by omega) (by decide)) ?_
      rw [nI_clamp (show many < 2 ^ 31 by omega), nI_1]
      obtain ⟨θ, eθ⟩ : ∃ θ, θ = mSA η 34 (upd (η.2 34) many (nI x)) := ⟨_, rfl⟩
      rw [← eθ]
      have ct : mch [] [34] η θ := by rw [eθ]; exact mch.sA (by decide)
      have st : ∀ V : Nat → Prop, sN V η θ := fun V => sN.ch ct (fun r a b z => by have := List.mem_singleton.mp z; omega)
      have t34 : θ.2 34 = upd (η.2 34) many (nI x) := by rw [eθ]; rfl
      have sA : sN (vd (· < κ) 32000 t) γ θ := (s3 _).tr ((se _).tr (q5.2.2.2.2.1.tr (st _)))
      have cB : mch [5, 6, 7, 8, 9, 10, 15, 16, 19, 20, 21] [2, 3, 4, 5, 6, 7, 9, 10, 11, 25, 26, 27, 28, 29, 30, 31, 34] γ θ := (cA.mo (by decide) (by decide)).tr ((c5.mo (by decide) (by decide)).tr (ct.mo (fun _ z => by cases z) (by decide)))
      have xB : XD k κ γ θ := xg.tr ((XD.of c5 (by decide) (r1024 (by decide)) (q5.2.2.2.2.1.su vk)).tr (XD.of ct (fun i _ z => by cases z) (r1024 (by decide)) (st _)))
      have P5 : PSm (· < κ) 32000 (k + 1) Lr sz t5 p5 np 0 θ := q5.ps.ch ct (fun i _ z => by cases z) (by decide)
      have nmθ : NMs (k + 1 + (many + 1)) θ := ((b4.ch ce (fun z => by cases z) (fun z => by cases z)).ch c5 (by decide) (by decide)).ch ct (by decide) (by decide)
      have nmk : NMs (k + 1 + many) θ := ⟨by omega, fun j hj => nmθ.2 j (by omega)⟩
      have t27 : ∀ i, i < np → θ.2 27 i = γ.2 27 i := fun i hi => by
        rw [ct.arr (by decide), (q5.2.2.2.2.2.1 i hi).2.2, ce.arr (fun z => by cases z), b3.arr (by decide)]
      have o34 : ∀ l, l < many → θ.2 34 l = γ.2 34 l := fun l hl => by
        rw [t34, upd_ne (by omega), c5.arr (by decide), ce.arr (fun z => by cases z), b3.arr (by decide)]
      have hW2 := x2.1.2.2.2
      have h5 : IA κ k np (many + 1) sz p5 Lr t5 α0 θ ts (fun l => if l = many then x else tx l) tm told := by
        obtain ⟨c1, c2, c3'⟩ := x8
        obtain ⟨d1, d2, d3, d4⟩ := x9
        refine ⟨x1.tr xB, P5, ⟨(cB.int (by decide)).trans y1, (cB.int (by decide)).trans y2, (cB.int (by decide)).trans y3, (cB.int (by decide)).trans y4, (cB.int (by decide)).trans y5, ?_, wu', ?_, by omega⟩, nmθ, (by rw [cB.arr (by decide)]; exact x5), fun i hi' => ?_, fun l hl => ?_, ⟨c1.up q5.1, c2.sn sA c1, c3'.sn hW2 sA c1⟩, ⟨d1.up q5.1, d2.sn sA d1, d3.sn hW2 sA d1, d4.sn hW2 sA d1⟩, by rw [sA.d c1, sA.d d1]; exact x10.1, by rw [sA.b c1, sA.b d1]; exact x10.2⟩
        · rw [ct.int (fun z => by cases z), c5.int (by decide), eε]; rfl
        · rw [ct.int (fun z => by cases z), c5.int (by decide), ce.int (by decide)]; exact b5
        · obtain ⟨⟨w1, w2, w3⟩, w4⟩ := x6 i hi'
          exact ⟨⟨(t27 i hi').trans w1, w2.up q5.1, w3.sn hW2 sA w2⟩, w4.sn sA w2⟩
        · rcases Nat.lt_or_ge l many with o | o
          · show θ.2 34 l = nI (if l = many then x else tx l) ∧ vd (· < κ) 32000 t5 (if l = many then x else tx l) ∧ fit θ (if l = many then x else tx l) ∧ PN θ (if l = many then x else tx l)
            rw [if_neg (by omega)]
            obtain ⟨w1, w2, w3, w4⟩ := x7 l o
            exact ⟨(o34 l o).trans w1, w2.up q5.1, w3.sn sA w2, w4.sn hW2 sA w2⟩
          · have el : l = many := by omega
            show θ.2 34 l = nI (if l = many then x else tx l) ∧ vd (· < κ) 32000 t5 (if l = many then x else tx l) ∧ fit θ (if l = many then x else tx l) ∧ PN θ (if l = many then x else tx l)
            rw [if_pos el, el, t34, upd_at]
            exact ⟨rfl, u2, u3.sn (st (fun _ => True)) trivial, u4.sn q5.ps.1.2.2.2 (st _) u2⟩
      obtain ⟨d, rfl⟩ : ∃ d', d = d' + 1 := ⟨d - 1, by omega⟩
      refine (ind_93 hN h0 hnp d (many + 1) nn t5 p5 (fun l => if l = many then x else tx l) θ (by omega) (by omega) h5).mono (fun ι y => ?_) (fun ι y => y)
      obtain ⟨p9, z1, z2⟩ := y
      exact ⟨p9, by have := q5.2.1; omega, z2⟩
    · refine (must_ok hN hP.1).bv (fun γ g => ?_) (fun γ g => h1.1.tr (mch_d g (by decide)))
      obtain ⟨p2, g1, -, g2, g3⟩ := g
      have h2 := h1.qp (h1.2.1.lx g1 g2 g3)
      refine (must_ok hN g2).bv (fun δ u => ?_) (fun γ g => h2.1.tr (mch_d g (by decide)))
      obtain ⟨p3, u1, -, u2, u3⟩ := u
      have h3 := h2.qp (h2.2.1.lx u1 u2 u3)
      have ir := h3.ir h0 (by omega)
      have hW := h3.2.1.1.2.2.2
      have vT := ir.2.2.2.2.2.2.1.1
      obtain ⟨-, -, ⟨b1, -⟩, -⟩ := hW told vT
      rw [hW.cl vT, b1]
      refine rV.ix (hW.ix vT) ?_
      show rV (f_Mod_inductive_168 N N (nI 0) (nI (uB δ told + smf (fun l => uB δ (tx l)) 0)) (nI many) (nI told) (nI tm) (nI np) (nI k) δ) _ _
      refine (ind_168 hN (by omega) h0 ir many 0 N (by omega) (by omega) (Nat.le_refl _)).mono (fun β y => ?_) (fun _ y => y)
      obtain ⟨⟨κ', Lr', y1⟩, y2, y3⟩ := y
      exact ⟨p3, by omega, ⟨k + 1 + many, κ', Lr', by omega, y1⟩, y2, y3⟩
end IND4
