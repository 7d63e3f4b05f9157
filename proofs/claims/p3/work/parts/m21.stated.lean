-- DECLARATIONS other than inductive
section STATED
variable {N c κ sz : Nat} {Lr : Nat → Prop}
theorem IS.ch {W : Nat → Prop} {s Lc U t w n : Nat} {I R : List Nat} {α β : mS} (h : IS W s Lc Lr U t α w n) (hc : mch I R α β) (hI : ∀ i, i ∈ [10, 22, 23, 24] → i ∉ I) (hR : ∀ r, r ∈ [2, 3, 4, 5, 6, 7, 12, 14, 15, 16, 17, 18, 21, 22, 23] → r ∉ R) : IS W s Lc Lr U t β w n := by
  have w' := h.1.ch hc ⟨hI 10 (by decide), hI 22 (by decide)⟩ (fun r hr => hR r (by revert hr; revert r; decide))
  exact ⟨w', ⟨(hc.int (hI 23 (by decide))).trans h.2.1.1, h.2.1.2⟩, (hc.int (hI 24 (by decide))).trans h.2.2⟩
/-- a new name -/
theorem nn_96 {p a e : Nat} (hN : 400000 < N) (he : e ≤ 65536) : ∀ (d k wu nn : Nat) (α : mS), k + d = e → d < nn → LK sz p α → α.1 8 = nI e → α.1 15 = nI wu → wu + d ≤ 9400 → ∃ β p', f_Mod_newName_96 N nn (nI k) α = some (some none, β) ∧ p ≤ p' ∧ LK sz p' β ∧ mch [5, 6, 7, 8, 9, 15] [9] α β ∧ β.1 15 = nI (wu + d)
  | 0, k, wu, nn, α, hk, hn, h, h8, h15, hw => by
    obtain ⟨nn, rfl⟩ : ∃ n', nn = n' + 1 := ⟨nn - 1, by omega⟩
    rw [f_Mod_newName_96, h8, if_pos (nI_le (by omega) (by omega))]
    obtain ⟨β, p', e1, a1, a2, a3, -⟩ := take_m hN h
    rw [e1]
    exact ⟨β, p', rfl, a1, a2, a3.mo (by decide) (fun r z => by cases z), (a3.int (by decide)).trans h15⟩
  | d + 1, k, wu, nn, α, hk, hn, h, h8, h15, hw => by
    obtain ⟨nn, rfl⟩ : ∃ n', nn = n' + 1 := ⟨nn - 1, by omega⟩
    rw [f_Mod_newName_96, h8, if_neg (nI_ge (by omega) (by omega)), if_neg (mix (by omega) (by decide)), h15, if_neg (mix (by omega) (by decide)), nI_1, nI_1]
    obtain ⟨γ, eγ⟩ : ∃ γ, γ = mSA (mSi α 15 (nI (wu + 1))) 9 (upd ((mSi α 15 (nI (wu + 1))).2 9) (nI wu).toNatClampNeg (vp_nar .byte ((mSi α 15 (nI (wu + 1))).2 0 (nI k).toNatClampNeg))) := ⟨_, rfl⟩
    rw [← eγ]
    have c1 : mch [15] [9] α γ := by rw [eγ]; exact (mch.si (by decide)).tr (mch.sA (by decide))
    obtain ⟨β, p', e1, a1, a2, a3, a4⟩ := nn_96 (a := a) hN he d (k + 1) (wu + 1) nn γ (by omega) (by omega) (h.ch c1 (by decide)) ((c1.int (by decide)).trans h8) (by rw [eγ]; rfl) (by omega)
    exact ⟨β, p', e1, a1, a2, (c1.mo (by decide) (by decide)).tr a3, by rw [a4, show wu + 1 + d = wu + (d + 1) by omega]⟩
theorem newName_ok {W : Nat → Prop} {s Lc t p sc ph cc wu : Nat} {α : mS} (hN : 400000 < N) (h : PSm W s Lc Lr sz t p sc ph α) (h16 : α.1 16 = nI cc) (hcc : cc ≤ 300) (hnm : NMs cc α) (h15 : α.1 15 = nI wu) (hwu : wu ≤ 31 * cc) (hL : Lc ≤ cc) : rV (f_Mod_newName N α) (fun β => ∃ p1 wu', cc < 300 ∧ p ≤ p1 ∧ PSm W s Lc Lr sz t p1 sc ph β ∧ mch [5, 6, 7, 8, 9, 15] [9, 10, 11] α β ∧ NMs (cc + 1) β ∧ β.1 15 = nI wu' ∧ wu' ≤ 31 * (cc + 1) ∧ ∀ j, j < cc → β.2 10 j = α.2 10 j ∧ β.2 11 j = α.2 11 j) (fun β => mch lxX [] α β) := by
  unfold f_Mod_newName
  obtain ⟨v, β, q, e, hq, hP, h6, hc⟩ := peek_ok hN h.2.1
  rw [e]
  show rV (if v = 1 then _ else _) _ _
  have up : ∀ {γ δ : mS}, mch lxI [] α γ → mch lxX [] γ δ → mch lxX [] α δ := fun a b => (a.mo (by decide) (fun _ z => z)).tr b
  refine rV.ite (fun cv => ?_) fun _ => cant_v hN hP.1 fun γ g => up hc g
  obtain ⟨v3, δ, p3, e3, hq3, hP3, hc3, hs3⟩ := reserved_ok hN hP.1
  have eδ := hs3 hP.2
  subst eδ
  rw [e3]
  show rV (if v3 = 0 then _ else _) _ _
  refine rV.ite (fun _ => ?_) fun _ => cant_v hN hP3.1 fun γ g => up hc g
  have d16 : δ.1 16 = nI cc := (hc.int (by decide)).trans h16
  have dnm : NMs cc δ := hnm.ch hc (fun z => by cases z) (fun z => by cases z)
  rw [d16]
  obtain ⟨x, ex, -⟩ := const_ok_m hN hP3 dnm (Nat.le_refl _)
  refine rV.ob ex (rV.ite (fun _ => ?_) fun _ => rV.thr (up hc (mch.th (by decide) (by decide))))
  refine rV.ite (fun _ => rV.thr (up hc (mch.th (by decide) (by decide)))) fun c300 => ?_
  have c3 : cc < 300 := by
    rcases Nat.lt_or_ge cc 300 with z | z
    · exact z
    · exact absurd (by rw [show cc = 300 by omega]; rfl) c300
  have ix := mix (i := cc) (n := 301) (by omega) (by decide)
  refine rV.ix ix (rV.ix ix ?_)
  rw [nI_clamp (show cc < 2 ^ 31 by omega)]
  obtain ⟨⟨k0, ksz, k5, kp, kk'⟩, k9⟩ := hP3
  obtain ⟨a, ee, k7, k8, kae, kes, kpe, k4, k1⟩ := kk'.resolve_left k9
  have k31 := k1 (by rw [h6, cv])
  have d15 : δ.1 15 = nI wu := (hc.int (by decide)).trans h15
  rw [k7, k8, sub_nI kae, d15]
  obtain ⟨γ, eγ⟩ : ∃ γ, γ = mSA (mSA δ 10 (upd (δ.2 10) cc (nI wu))) 11 (upd ((mSA δ 10 (upd (δ.2 10) cc (nI wu))).2 11) cc (nI (ee - a))) := ⟨_, rfl⟩
  rw [← eγ]
  have c1 : mch [] [10, 11] δ γ := by rw [eγ]; exact (mch.sA (by decide)).tr (mch.sA (by decide))
  have e10 : γ.2 10 = upd (δ.2 10) cc (nI wu) := by rw [eγ]; rfl
  have e11 : γ.2 11 = upd (δ.2 11) cc (nI (ee - a)) := by rw [eγ]; rfl
  have lk : LK sz p3 γ := (show LK sz p3 δ from ⟨k0, ksz, k5, kp, kk'⟩).ch c1 (fun i _ z => by cases z)
  obtain ⟨ε, p4, e4, f1, f2, f3, f4⟩ := nn_96 (a := a) hN (show ee ≤ 65536 by omega) (ee - a) a wu N γ (by omega) (by omega) lk ((c1.int (fun z => by cases z)).trans k8) ((c1.int (fun z => by cases z)).trans d15) (by omega)
  rw [e4]
  have cA : mch [5, 6, 7, 8, 9, 15] [9, 10, 11] α ε := (hc.mo (by decide) (fun r z => by cases z)).tr ((c1.mo (fun _ z => by cases z) (by decide)).tr (f3.mo (by decide) (by decide)))
  have a10 : ε.2 10 = upd (α.2 10) cc (nI wu) := by rw [f3.arr (by decide), e10, hc.arr (fun z => by cases z)]
  have a11 : ε.2 11 = upd (α.2 11) cc (nI (ee - a)) := by rw [f3.arr (by decide), e11, hc.arr (fun z => by cases z)]
  have nm1 : NMs (cc + 1) ε := by
    refine ⟨by omega, fun j hj => ?_⟩
    rw [a10, a11]
    rcases Nat.lt_or_ge j cc with z | z
    · rw [upd_ne (by omega), upd_ne (by omega)]; exact hnm.2 j z
    · have : j = cc := by omega
      rw [this, upd_at, upd_at]
      exact ⟨wu, ee - a, rfl, rfl, by omega⟩
  refine rV.ret ⟨p4, wu + (ee - a), c3, by omega, ?_, cA, nm1, f4, by omega, fun j hj => ⟨by rw [a10, upd_ne (by omega)], by rw [a11, upd_ne (by omega)]⟩⟩
  obtain ⟨h1, h2, ⟨h3, h4, h5⟩, ⟨h6', h7⟩, ⟨h8, h9, h10⟩, cp, h11, h12⟩ := h
  have hs : sN (vd W s t) α ε := sN.ch cA (fun r a b z => by simp at z; omega)
  refine ⟨h1.sn cA (by decide) hs, f2, ⟨⟨h3.1, fun j hj => nm1.2 j (by omega)⟩, (cA.int (by decide)).trans h4, fun j hj => by rw [cA.arr (by decide)]; exact h5 j hj⟩, ⟨(cA.int (by decide)).trans h6', fun i hi => ?_⟩, ⟨(cA.int (by decide)).trans h8, h9, fun i hi => ?_⟩, cp, (cA.int (by decide)).trans h11, h12⟩
  · unfold scf; rw [cA.arr (by decide), cA.arr (by decide)]; exact h7 i hi
  · unfold hdf; rw [cA.arr (by decide), cA.arr (by decide)]; exact h10 i hi
/-- a DECLARATION is through -/
def DQ (c sz p : Nat) (α β : mS) : Prop := ∃ c' κ' Lr' p', c ≤ c' ∧ p ≤ p' ∧ MD c' κ' Lr' β ∧ LK sz p' β ∧ (OS α → OS β) ∧ ∀ i, i ∈ [0, 2, 25, 26, 27] → β.1 i = α.1 i
theorem room_ok {z b : Nat} {α : mS} (h18 : α.1 18 = nI z) (hz : z ≤ 30000) (hb : b ≤ 2000000) : rV (f_Mod_room N (nI b) α) (fun β => β = mSi α 18 (nI (z + b)) ∧ z + b ≤ 30000) (fun β => mch [100, 101] [] α β) := by
  unfold f_Mod_room
  rw [h18, nI_add]
  exact rV.ite (fun c => rV.ret ⟨rfl, Nat.not_lt.mp fun y => absurd c (nI_ge (a := 30000) y (by omega))⟩) fun _ => rV.thr nx_th
theorem j181_is {y : Int32} {γ : mS} {c : Nat} (hc : c < 301) : ∃ β, f_Mod_stated_j181 N (nI c) y (nI c) γ = some (some none, β) ∧ mch [] [14, 15, 16, 17, 18, 19] γ β ∧ β.2 14 = upd (γ.2 14) c y ∧ β.2 15 = upd (γ.2 15) c 0 ∧ β.2 16 = upd (γ.2 16) c 0 ∧ β.2 17 = upd (γ.2 17) c 0 ∧ ∀ j, j ≠ c → β.2 18 j = γ.2 18 j ∧ β.2 19 j = γ.2 19 j := by
  have ix := mix hc (show 301 ≤ 400000 by decide)
  unfold f_Mod_stated_j181
  rw [if_neg ix, if_neg ix, if_neg ix, if_neg ix, if_neg ix, if_neg ix, nI_clamp (show c < 2 ^ 31 by omega)]
  exact ⟨_, rfl, (((((mch.sA (by decide)).tr (mch.sA (by decide))).tr (mch.sA (by decide))).tr (mch.sA (by decide))).tr (mch.sA (by decide))).tr (mch.sA (by decide)), rfl, rfl, rfl, rfl, fun j hj => ⟨upd_ne hj, upd_ne hj⟩⟩
/-- what stands when all is read and checked -/
def RD (c κ : Nat) (Lr : Nat → Prop) (sz p t w n : Nat) (α0 γ : mS) : Prop := MD c κ Lr α0 ∧ XD c κ α0 γ ∧ (c < 300 ∧ γ.1 16 = nI c ∧ γ.1 17 = nI κ ∧ γ.1 18 = α0.1 18) ∧ (NMs (c + 1) γ ∧ ∃ wu, γ.1 15 = nI wu ∧ wu ≤ 31 * (c + 1)) ∧ LK sz p γ ∧ IS (· < κ) 32000 c Lr 0 t γ w n
theorem RD.qi {p t w n t1 w1 n1 : Nat} {α0 γ δ : mS} (h : RD c κ Lr sz p t w n α0 γ) (q : QI (· < κ) 32000 c Lr 0 t γ w n t1 w1 n1 δ) : RD c κ Lr sz p t1 w1 n1 α0 δ := by
  obtain ⟨h1, h2, ⟨h3, h4, h5, h6⟩, ⟨h7, wu, h8, h9⟩, h10, h11⟩ := h
  have hc := q.2.1
  exact ⟨h1, h2.tr (XD.of hc (by decide) (r1024 (by decide)) (q.2.2.1.su vk)), ⟨h3, (hc.int (by decide)).trans h4, (hc.int (by decide)).trans h5, (hc.int (by decide)).trans h6⟩, ⟨h7.ch hc (by decide) (by decide), wu, (hc.int (by decide)).trans h8, h9⟩, h10.ch hc (by decide), q.is⟩
theorem RD.x {p t w n : Nat} {α0 γ δ : mS} (h : RD c κ Lr sz p t w n α0 γ) (q : XI (· < κ) 32000 t γ δ) : XD c κ α0 δ := h.2.1.tr (XD.in q vk)
/-- a CONSTANT is kept -/
theorem st125_ok {how p t w n x : Nat} {vv : Option Nat} {y3 : Int32} {α0 γ : mS} (hN : 400000 < N) (hh : how ≤ 2) (h : RD c κ Lr sz p t w n α0 γ) (hx : vd (· < κ) 32000 t x) (fx : fit γ x) (cx : clo γ x) (hv : match vv with | none => y3 = -1 ∧ how ≠ 1 | some v => y3 = nI v ∧ vd (· < κ) 32000 t v ∧ fit γ v ∧ clo γ v) : rV (f_Mod_stated_j125 N (nI x) y3 (nI how) (match vv with | none => 0 | some v => nI (uB γ v)) (nI (uB γ x)) γ) (DQ c sz p α0) (XD c κ α0) := by
  obtain ⟨h1, h2, ⟨h3, h4, h5, h6⟩, ⟨h7, wu, h8, h9⟩, h10, h11⟩ := h
  obtain ⟨m1, ⟨m2, z, m2a, m2b, m2c⟩, m3, m4, m5, m6, m7, m8, m9⟩ := h1
  have hP := h11.1.1
  have hW := hP.2.2.2
  have g18 : γ.1 18 = nI z := h6.trans m2a
  obtain ⟨bv, ebv, hbv⟩ : ∃ bv, (match vv with | none => (0 : Int32) | some v => nI (uB γ v)) = nI bv ∧ bv = (match vv with | none => 0 | some v => uB γ v) := by
    cases vv with
    | none => exact ⟨0, rfl, rfl⟩
    | some v => exact ⟨uB γ v, rfl, rfl⟩
  have bv3 : bv ≤ 3000 := by
    cases vv with
    | none => rw [hbv]; exact Nat.zero_le _
    | some v => rw [hbv]; exact hv.2.2.1.1
  have fx1 := fx.1
  unfold f_Mod_stated_j125
  rw [ebv, nI_add]
  refine (room_ok g18 m2c (by omega)).bv (fun δ q => ?_) (fun δ q => h2.tr (XD.of q (by decide) (fun r _ _ z => by cases z) (sN.ch q (fun r _ _ z => by cases z))))
  obtain ⟨eδ, hz⟩ := q
  have d16 : δ.1 16 = nI c := by rw [eδ]; exact h4
  rw [d16, nI_1]
  have ix := mix (i := c) (n := 301) (by omega) (by decide)
  refine rV.ix ix ?_
  rw [nI_clamp (show c < 2 ^ 31 by omega)]
  obtain ⟨ε, eε⟩ : ∃ ε, ε = mSA (mSi δ 16 (nI (c + 1))) 12 (upd ((mSi δ 16 (nI (c + 1))).2 12) c (nI how)) := ⟨_, rfl⟩
  rw [← eε]
  have c1 : mch [16, 18] [12] γ ε := by rw [eε, eδ]; exact ((mch.si (by decide)).tr (mch.si (by decide))).tr (mch.sA (by decide))
  have s1 : ∀ V : Nat → Prop, sN V γ ε := fun V => sN.ch c1 (fun r a b z => by have := List.mem_singleton.mp z; omega)
  have e12 : ε.2 12 = upd (γ.2 12) c (nI how) := by rw [eε, eδ]; rfl
  have e17 : ε.1 17 = nI κ := (c1.int (by decide)).trans h5
  have e18 : ε.1 18 = nI (z + (uB γ x + bv)) := by rw [eε, eδ]; rfl
  have e16 : ε.1 16 = nI (c + 1) := by rw [eε]; rfl
  have P1 : PO (· < κ) 32000 c Lr t ε := hP.sn c1 (by decide) (s1 _)
  have x0 : XD c κ γ ε := ⟨fun i hi => c1.int (by revert hi; revert i; decide), fun r a b j hj => by
    by_cases e : r = 12
    · rw [e, e12, upd_ne (by omega)]
    · rw [c1.arr (fun z => e (List.mem_singleton.mp z))], s1 _⟩
  have bx : uB ε x = uB γ x := (s1 (fun _ => True)).b trivial
  refine (keep_m hN P1 e17 hx (fx.sn (s1 _) hx) (by rw [bx]; omega)).bv (fun v ζ q => ?_) (fun ζ q => (h2.tr x0).tr (XD.of q.1 (by decide) (r1024 (by decide)) (q.2.su vk)))
  obtain ⟨r1, κ1, rfl, a1, a2, a3, a4, a5, a6, a6', a7, a8, a9, a10⟩ := q
  rw [bx] at a2 a9
  refine rV.ix (mix' (i := c) (n := 301) (by omega) (by decide)) ?_
  obtain ⟨η, eη⟩ : ∃ η, η = mSA ζ 13 (upd (ζ.2 13) c (nI r1)) := ⟨_, rfl⟩
  rw [← eη]
  have c2 : mch [] [13] ζ η := by rw [eη]; exact mch.sA (by decide)
  have s2 : ∀ V : Nat → Prop, sN V ζ η := fun V => sN.ch c2 (fun r a b z => by have := List.mem_singleton.mp z; omega)
  have e13 : η.2 13 = upd (ζ.2 13) c (nI r1) := by rw [eη]; rfl
  have P2 : PO (· < κ1) 32000 c Lr t η := a4.sn c2 (fun z => by cases z) (s2 _)
  have x1 : XD c κ ε η := (XD.of a6 (by decide) (r1024 (by decide)) (a7.su vk)).tr ⟨fun i _ => c2.int (fun z => by cases z), fun r a b j hj => by
    by_cases e : r = 13
    · rw [e, e13, upd_ne (by omega)]
    · rw [c2.arr (fun z => e (List.mem_singleton.mp z))], s2 _⟩
  have x01 : XD c κ α0 η := (h2.tr x0).tr x1
  -- the end: all that is known of the new CONSTANT
  have fin : ∀ (θ : mS) (κ2 : Nat) (y : Int32), κ1 ≤ κ2 → κ2 ≤ κ + uB γ x + bv → PO (· < κ2) 32000 c Lr t θ → θ.1 17 = nI κ2 → mch [10, 11, 12, 13, 14, 17] mpR η θ → sN (· < κ1) η θ → (y = -1 ∧ how ≠ 1 ∨ ∃ v, y = nI v ∧ v < κ2 ∧ fit θ v ∧ clo θ v) → rV (f_Mod_stated_j181 N (nI c) y (nI c) θ) (DQ c sz p α0) (XD c κ α0) := fun θ κ2 y k1 k2 k3 k4 k5 k6 k7 => by
    obtain ⟨β, eβ, b1, b14, b15, b16, b17, b18⟩ := j181_is (N := N) (y := y) (γ := θ) (c := c) (by omega)
    rw [eβ]
    have sβ : ∀ V : Nat → Prop, sN V θ β := fun V => sN.ch b1 (fun r a b z => by simp at z; omega)
    have cA : mch [10, 11, 12, 13, 14, 16, 17, 18] [2, 3, 4, 5, 6, 7, 8, 12, 13, 14, 15, 16, 17, 18, 19] γ β := (c1.mo (by decide) (by decide)).tr ((a6.mo (by decide) (by decide)).tr ((c2.mo (fun _ z => by cases z) (by decide)).tr ((k5.mo (by decide) (by decide)).tr (b1.mo (fun _ z => by cases z) (by decide)))))
    have same : ∀ r, 10 ≤ r → r ≤ 24 → ∀ j, j < c → β.2 r j = α0.2 r j := fun r ra rb j hj => by
      rw [← x01.2.1 r ra rb j hj]
      have kk : θ.2 r = η.2 r := k5.arr (by revert ra rb; intro ra rb z; simp at z; omega)
      rw [← kk]
      by_cases e14 : r = 14
      · rw [e14, b14, upd_ne (by omega)]
      by_cases e15 : r = 15
      · rw [e15, b15, upd_ne (by omega)]
      by_cases e16' : r = 16
      · rw [e16', b16, upd_ne (by omega)]
      by_cases e17' : r = 17
      · rw [e17', b17, upd_ne (by omega)]
      by_cases e18' : r = 18
      · rw [e18', (b18 j (by omega)).1]
      by_cases e19 : r = 19
      · rw [e19, (b18 j (by omega)).2]
      rw [b1.arr (fun z => by simp at z; omega)]
    have sA : sN (· < κ) α0 β := x01.2.2.tr ((k6.su fun i (hi : i < κ) => (show i < κ1 by omega)).tr (sβ _))
    have at12 : β.2 12 c = nI how := by rw [b1.arr (by decide), k5.arr (by decide), c2.arr (by decide), a6.arr (by decide), e12, upd_at]
    have at13 : β.2 13 c = nI r1 := by rw [b1.arr (by decide), k5.arr (by decide), e13, upd_at]
    have at14 : β.2 14 c = y := by rw [b14, upd_at]
    have PB := k3.sn b1 (fun z => by cases z) (sβ _)
    have cI : ∀ i, i ∉ [10, 11, 12, 13, 14, 16, 17, 18] → β.1 i = γ.1 i := fun i hi => cA.int hi
    have hr1 : fit β r1 ∧ clo β r1 := by
      have w1 : nWf (· < κ1) c Lr η := P2.kept (Nat.le_refl _) (fun _ z => z)
      have sη : sN (· < κ1) η β := k6.tr (sβ _)
      have f1 : fit η r1 := a8.sn (s2 (fun _ => True)) trivial
      have f2 : clo η r1 := AL.sn a4.2.2.2 (s2 _) (Or.inl a3) (a10 _ (cx.sn hW (s1 _) hx))
      exact ⟨f1.sn sη a3, f2.sn w1 sη a3⟩
    have hy : y = -1 ∧ how ≠ 1 ∨ ∃ v, y = nI v ∧ v < κ2 ∧ fit β v ∧ clo β v := k7.imp id fun ⟨v, q1, q2, q3, q4⟩ => ⟨v, q1, q2, q3.sn (sβ (fun _ => True)) trivial, q4.sn k3.2.2.2 (sβ _) (Or.inl q2)⟩
    have hm : MD (c + 1) κ2 Lr β := by
      refine ⟨⟨?_, by omega⟩, ⟨?_, z + (uB γ x + bv), ?_, by omega, hz⟩, ⟨wu, (cI 15 (by decide)).trans h8, h9⟩, ?_, PB.kept (Nat.le_succ _) (fun _ z => z), ⟨⟨by omega, m6.1.2⟩, fun j hj => ?_, fun j hj => ?_⟩, fun j hj => ?_, fun j hj => ?_, fun j => ?_⟩
      · rw [b1.int (fun z => by cases z), k5.int (by decide), c2.int (fun z => by cases z), a6.int (by decide)]; exact e16
      · rw [b1.int (fun z => by cases z)]; exact k4
      · rw [b1.int (fun z => by cases z), k5.int (by decide), c2.int (fun z => by cases z), a6.int (by decide)]; exact e18
      · exact h7.ch cA (by decide) (by decide)
      · rcases Nat.lt_or_ge j c with y1 | y1
        · have := (m6.xd m5 same (fun j hj => ((m9 j).mp hj).1) sA).2.1 j y1
          refine ⟨fun q => ?_, fun q => ?_⟩
          · obtain ⟨v, a, b, cc⟩ := this.1 q
            exact ⟨v, a, (show v < κ2 by have : v < κ := b; omega), cc⟩
          · obtain ⟨f, a, a', b⟩ := this.2 q
            refine ⟨f, a, Nat.lt_succ_of_lt a', fun g => ⟨(b g).1, ?_⟩⟩
            obtain ⟨rr, b1', b2', b3'⟩ := (b g).2
            exact ⟨rr, b1', (show rr < κ2 by have : rr < κ := b2'; omega), b3'⟩
        · have : j = c := by omega
          subst this
          rw [at12, at14]
          refine ⟨fun q => ?_, fun q => ?_⟩
          · have h1' : how = 1 := (nI_eq (a := how) (b := 1) (by omega) (by omega)).mp q
            rcases hy with ⟨-, q'⟩ | ⟨v, q1, q2, q3, q4⟩
            · exact absurd h1' q'
            · exact ⟨v, q1, q2, q4, q3⟩
          · have := (nI_eq (a := how) (b := 4) (by omega) (by omega)).mp q
            omega
      · have := (m6.xd m5 same (fun j hj => ((m9 j).mp hj).1) sA).2.2 j hj
        obtain ⟨a, rr, b1', b2', b3'⟩ := this
        exact ⟨a, rr, b1', (show rr < κ2 by have : rr < κ := b2'; omega), b3'⟩
      · rcases Nat.lt_or_ge j c with y1 | y1
        · obtain ⟨v, q1, q2, q3, q4⟩ := m7 j y1
          exact ⟨v, by rw [same 13 (by decide) (by decide) j y1]; exact q1, by omega, q3.sn sA q2, q4.sn m5 sA q2⟩
        · have : j = c := by omega
          subst this
          exact ⟨r1, at13, by omega, hr1⟩
      · rcases Nat.lt_or_ge j c with y1 | y1
        · rw [same 14 (by decide) (by decide) j y1]
          rcases m8 j y1 with q | ⟨v, q1, q2, q3, q4⟩
          · exact Or.inl q
          · exact Or.inr ⟨v, q1, by omega, q3.sn sA q2, q4.sn m5 sA q2⟩
        · have : j = c := by omega
          subst this
          rw [at14]
          exact hy.imp (fun q => q.1) id
      · rw [m9 j]
        constructor
        · rintro ⟨y1, y2⟩
          exact ⟨by omega, by rw [same 12 (by decide) (by decide) j y1]; exact y2⟩
        · rintro ⟨y1, y2⟩
          rcases Nat.lt_or_ge j c with y3 | y3
          · exact ⟨y3, by rw [← same 12 (by decide) (by decide) j y3]; exact y2⟩
          · have : j = c := by omega
            subst this
            rw [at12] at y2
            have := (nI_eq (a := how) (b := 3) (by omega) (by omega)).mp y2
            omega
    refine rV.ret ⟨c + 1, κ2, Lr, p, by omega, Nat.le_refl _, hm, h10.ch cA (by decide), fun ⟨o, o1, o2⟩ => ⟨o, ?_, o2⟩, fun i hi => ?_⟩
    · rw [cI 1 (by decide), h2.1 1 (by decide)]; exact o1
    · rw [cI i (by revert hi; revert i; decide)]
      exact h2.1 i (by revert hi; revert i; decide)
  cases vv with
  | none =>
    obtain ⟨rfl, hne⟩ := hv
    rw [if_neg (by decide)]
    have b0 : bv = 0 := hbv
    exact fin η κ1 (-1) (Nat.le_refl _) (by omega) P2 ((c2.int (fun z => by cases z)).trans a5) mch.rf sN.rf (Or.inl ⟨rfl, hne⟩)
  | some v =>
    obtain ⟨rfl, v1, v2, v3⟩ := hv
    have v4 := (hP.nw v1).1
    have bvv : bv = uB γ v := hbv
    rw [if_pos (show (0 : Int32) ≤ nI v from nI_le (a := 0) (Nat.zero_le _) (by omega))]
    have sγη : sN (vd (· < κ) 32000 t) γ η := (s1 _).tr (a7.tr (s2 _))
    have vη : vd (· < κ1) 32000 t v := v1.imp (fun (q : v < κ) => (show v < κ1 by omega)) id
    have bη : uB η v = uB γ v := sγη.b v1
    refine (keep_m hN P2 ((c2.int (fun z => by cases z)).trans a5) vη (v2.sn sγη v1) (by rw [bη]; omega)).bv (fun u θ q => ?_) (fun θ q => x01.tr (XD.of q.1 (by decide) (r1024 (by decide)) (q.2.su fun i (hi : i < κ) => Or.inl (show i < κ1 by omega))))
    obtain ⟨r2, κ2, rfl, g1, g2, g3, g4, g5, g6, g6', g7, g8, g9, g10⟩ := q
    rw [bη] at g2
    exact fin θ κ2 (nI r2) g1 (by omega) g4 g5 g6 (g7.su fun i hi => Or.inl hi) (Or.inr ⟨r2, rfl, g3, g8, g10 _ (v3.sn hW sγη v1)⟩)
theorem together_ok {b : Nat} {α : mS} (hb : b < 2 ^ 31) : rV (f_Mod_together N (nI b) α) (fun β => β = α ∧ b ≤ 6000) (fun β => mch [100, 101] [] α β) := by
  unfold f_Mod_together
  exact rV.ite (fun c => rV.ret ⟨rfl, Nat.not_lt.mp fun y => absurd c (nI_ge (a := 6000) y hb)⟩) fun _ => rV.thr nx_th
theorem mch_d {I : List Nat} {α β : mS} (q : mch I [] α β) (h : ∀ i, i ∈ [0, 1, 2, 25, 26, 27] → i ∉ I) : XD c κ α β := XD.of q h (fun r _ _ z => by cases z) (sN.ch q (fun r _ _ z => by cases z))
theorem QP.xd {t p sc ph sc1 ph1 t1 p1 : Nat} {α β : mS} (q : QP (· < κ) 32000 c Lr sz t p sc ph α sc1 ph1 t1 p1 β) : XD c κ α β := XD.of q.2.2.2.1 (by decide) (r1024 (by decide)) (q.2.2.2.2.1.su vk)
/-- read, but not yet checked -/
def PD (c κ : Nat) (Lr : Nat → Prop) (sz p t : Nat) (α0 γ : mS) : Prop := MD c κ Lr α0 ∧ XD c κ α0 γ ∧ (γ.1 16 = nI c ∧ γ.1 17 = nI κ ∧ γ.1 18 = α0.1 18) ∧ PSm (· < κ) 32000 c Lr sz t p 0 0 γ ∧ IS (· < κ) 32000 c Lr 0 t γ 0 0
theorem PD.qp {p t t1 p1 : Nat} {α0 γ δ : mS} (h : PD c κ Lr sz p t α0 γ) (q : QP (· < κ) 32000 c Lr sz t p 0 0 γ 0 0 t1 p1 δ) : PD c κ Lr sz p1 t1 α0 δ := by
  obtain ⟨h1, h2, ⟨h3, h4, h5⟩, h6, h7⟩ := h
  have hc := q.2.2.2.1
  exact ⟨h1, h2.tr q.xd, ⟨(hc.int (by decide)).trans h3, (hc.int (by decide)).trans h4, (hc.int (by decide)).trans h5⟩, q.ps, h7.qp q⟩
theorem PD.x {p t : Nat} {α0 γ δ : mS} (h : PD c κ Lr sz p t α0 γ) (q : XP (· < κ) 32000 t γ δ) : XD c κ α0 δ := h.2.1.tr (XD.pa q vk)
theorem PD.lx {p t : Nat} {α0 γ δ : mS} (h : PD c κ Lr sz p t α0 γ) (q : mch lxX [] γ δ) : XD c κ α0 δ := h.2.1.tr (mch_d q (by decide))
/-- checked as a type, and its value -/
theorem st86_ok {how p t w n x : Nat} {vv : Option Nat} {y3 : Int32} {α0 γ : mS} (hN : 400000 < N) (hh : how ≤ 2) (h : RD c κ Lr sz p t w n α0 γ) (hx : vd (· < κ) 32000 t x) (fx : fit γ x) (cx : clo γ x) (hv : match vv with | none => y3 = -1 ∧ how ≠ 1 | some v => y3 = nI v ∧ vd (· < κ) 32000 t v ∧ fit γ v ∧ clo γ v) : rV (f_Mod_stated_j86 N (nI x) y3 (nI how) γ) (DQ c sz p α0) (XD c κ α0) := by
  have hn := nrmk (show κ ≤ 32000 by have := h.1.k; omega)
  have hI := h.2.2.2.2.2
  have j104 : ∀ (t1 w1 n1 : Nat) (δ : mS), QI (· < κ) 32000 c Lr 0 t γ w n t1 w1 n1 δ → rV (f_Mod_stated_j104 N (nI x) y3 (nI how) δ) (DQ c sz p α0) (XD c κ α0) := fun t1 w1 n1 δ q => by
    have hW := q.is.1.1.2.2.2
    have vx := q.v hx
    obtain ⟨-, -, ⟨b1, b2, b3⟩, -⟩ := q.is.1.1.nw vx
    unfold f_Mod_stated_j104
    rw [hW.cl vx, b1]
    refine rV.ix (hW.ix vx) ?_
    cases vv with
    | none =>
      obtain ⟨rfl, hne⟩ := hv
      rw [if_neg (by decide)]
      exact st125_ok (vv := none) hN hh (h.qi q) vx (q.ft hx fx) (q.al hI hx cx) ⟨rfl, hne⟩
    | some v =>
      obtain ⟨rfl, v1, v2, v3⟩ := hv
      have vv1 := q.v v1
      have v4 := (q.is.1.1.nw vv1).1
      obtain ⟨-, -, ⟨d1, d2, d3⟩, -⟩ := q.is.1.1.nw vv1
      rw [if_pos (show (0 : Int32) ≤ nI v from nI_le (a := 0) (Nat.zero_le _) (by omega)), hW.cl vv1, d1]
      exact rV.ix (hW.ix vv1) (st125_ok (vv := some v) hN hh (h.qi q) vx (q.ft hx fx) (q.al hI hx cx) ⟨rfl, vv1, q.ft v1 v2, q.al hI v1 v3⟩)
  unfold f_Mod_stated_j86
  refine (sortOf_all hN hn (by decide) t x w n γ hI hx fx (h.1.ax h.2.1 hI.1.1 hx cx)).bv (fun v δ q => ?_) (fun δ q => h.x q)
  obtain ⟨t1, w1, n1, q⟩ := q
  cases vv with
  | none =>
    obtain ⟨rfl, hne⟩ := hv
    rw [if_pos (by decide)]
    exact j104 t1 w1 n1 δ q
  | some v =>
    obtain ⟨rfl, v1, v2, v3⟩ := hv
    have v4 := (hI.1.1.nw v1).1
    rw [if_neg (nI_pos (by omega))]
    refine (check_all hN hn (by decide) t1 v x w1 n1 δ q.is (q.v v1) (q.ft v1 v2) (h.1.ax (h.2.1.qi q) q.is.1.1 (q.v v1) (q.al hI v1 v3)) (q.v hx) (q.ft hx fx)).bv (fun ε u => ?_) (fun ε u => (h.qi q).x u)
    obtain ⟨t2, w2, n2, u⟩ := u
    exact j104 t2 w2 n2 ε (q.tr u)
theorem st39_ok {how p t wu x : Nat} {vv : Option Nat} {y3 : Int32} {α0 γ : mS} (hN : 400000 < N) (hh : how ≤ 2) (h : PD c κ Lr sz p t α0 γ) (hc3 : c < 300) (hnm : NMs (c + 1) γ) (h15 : γ.1 15 = nI wu) (hwu : wu ≤ 31 * (c + 1)) (hx : vd (· < κ) 32000 t x) (fx : fit γ x) (px : PN γ x) (hv : match vv with | none => y3 = -1 ∧ how ≠ 1 | some v => y3 = nI v ∧ vd (· < κ) 32000 t v ∧ fit γ v ∧ PN γ v) : rV (f_Mod_stated_j39 N y3 (nI x) (nI how) γ) (fun β => ∃ p1, p ≤ p1 ∧ DQ c sz p1 α0 β) (XD c κ α0) := by
  have hn := nrmk (show κ ≤ 32000 by have := h.1.k; omega)
  unfold f_Mod_stated_j39
  refine (must_ok hN h.2.2.2.1.2.1).bv (fun δ g => ?_) (fun δ g => h.lx g)
  obtain ⟨p1, g1, -, g2, g3⟩ := g
  have q1 := h.2.2.2.1.lx g1 g2 g3
  have h1 := h.qp q1
  have s1 := q1.2.2.2.2.1
  have hW := h1.2.2.2.1.1.2.2.2
  have hW0 := h.2.2.2.1.1.2.2.2
  have r1 : RD c κ Lr sz p1 t 0 0 α0 δ := ⟨h1.1, h1.2.1, ⟨hc3, h1.2.2.1.1, h1.2.2.1.2.1, h1.2.2.1.2.2⟩, ⟨hnm.ch g3 (fun z => by cases z) (fun z => by cases z), wu, (g3.int (by decide)).trans h15, hwu⟩, g2, h1.2.2.2.2⟩
  obtain ⟨-, -, ⟨b1, b2, b3⟩, -⟩ := h1.2.2.2.1.1.nw hx
  have fx' := fx.sn s1 hx
  have px' := px.sn hW0 s1 hx
  have up : ∀ {f : Option (kO × mS)}, rV f (DQ c sz p1 α0) (XD c κ α0) → rV f (fun β => ∃ p1, p ≤ p1 ∧ DQ c sz p1 α0 β) (XD c κ α0) := fun g => g.mono (fun β q => ⟨p1, g1, q⟩) (fun _ q => q)
  rw [hW.cl hx, b1]
  refine rV.ix (hW.ix hx) ?_
  cases vv with
  | none =>
    obtain ⟨rfl, hne⟩ := hv
    rw [if_neg (by decide)]
    unfold f_Mod_stated_j66
    rw [show nI (uB δ x) + 0 = nI (uB δ x) from Int32.add_zero _]
    refine (together_ok (by have := fx'.1; omega)).bv (fun ε u => ?_) (fun ε u => r1.x (mch_i u (by decide)))
    obtain ⟨rfl, -⟩ := u
    refine (alone_i hN hn r1.2.2.2.2.2 hx px').bv (fun v ζ u => ?_) (fun ζ u => r1.x u)
    obtain ⟨a, t2, rfl, u1, u2, u3, u4, -⟩ := u
    rw [if_pos (by decide)]
    exact up (st86_ok (vv := none) hN hh (r1.qi u1) u2 u3 u4 ⟨rfl, hne⟩)
  | some v =>
    obtain ⟨rfl, v1, v2, v3⟩ := hv
    have v4 := (h1.2.2.2.1.1.nw v1).1
    obtain ⟨-, -, ⟨d1, d2, d3⟩, -⟩ := h1.2.2.2.1.1.nw v1
    rw [if_pos (show (0 : Int32) ≤ nI v from nI_le (a := 0) (Nat.zero_le _) (by omega)), hW.cl v1, d1]
    refine rV.ix (hW.ix v1) ?_
    unfold f_Mod_stated_j66
    rw [nI_add]
    refine (together_ok (by omega)).bv (fun ε u => ?_) (fun ε u => r1.x (mch_i u (by decide)))
    obtain ⟨rfl, -⟩ := u
    refine (alone_i hN hn r1.2.2.2.2.2 hx px').bv (fun y ζ u => ?_) (fun ζ u => r1.x u)
    obtain ⟨a, t2, rfl, u1, u2, u3, u4, -⟩ := u
    rw [if_neg (nI_pos (by omega))]
    have pv : PN ζ v := (v3.sn hW0 s1 v1).sn hW u1.2.2.1 v1
    refine (alone_i hN hn u1.is (u1.v v1) pv).bv (fun y η g => ?_) (fun η g => (r1.qi u1).x g)
    obtain ⟨b, t3, rfl, w1, w2, w3, w4, -⟩ := g
    exact up (st86_ok (vv := some b) hN hh ((r1.qi u1).qi w1) (w1.v u2) (w1.ft u2 u3) (w1.al u1.is u2 u4) ⟨rfl, w2, w3, w4⟩)
/-- a word is taken, the first of a DECLARATION -/
theorem D0.pd {p : Nat} {α : mS} (h : D0 c κ Lr sz p α) : PD c κ Lr sz p 32000 α α := ⟨h.1, XD.rf, ⟨h.1.1.1, h.1.2.1.1, rfl⟩, h.2.1, h.2.2⟩
def DT (c sz p : Nat) (α β : mS) : Prop := ∃ p1, p < p1 ∧ DQ c sz p1 α β
theorem stated_ok {how p : Nat} {α : mS} (hN : 400000 < N) (hh : how ≤ 2) (h : D0 c κ Lr sz p α) (h9 : α.1 9 ≠ 0) (h6 : α.1 6 ≠ 0) : rV (f_Mod_stated N (nI how) α) (DT c sz p α) (XD c κ α) := by
  have hn := nrmk (show κ ≤ 32000 by have := h.1.k; omega)
  have h0 := h.pd
  unfold f_Mod_stated
  obtain ⟨β, p1, e1, a1, a2, a3, a4⟩ := take_m hN h.2.1.2.1
  have pl := a4 h9 h6
  rw [e1]
  have h1 := h0.qp (h.2.1.lx a1 a2 a3)
  show rV (mBv (f_Mod_newName N β) _) _ _
  obtain ⟨wu, m3, m3'⟩ := h.1.2.2.1
  refine (newName_ok hN h1.2.2.2.1 h1.2.2.1.1 h.1.1.2 (h.1.2.2.2.1.ch a3 (fun z => by cases z) (fun z => by cases z)) ((a3.int (by decide)).trans m3) m3' (Nat.le_refl _)).bv (fun γ u => ?_) (fun γ u => h1.lx u)
  obtain ⟨p2, wu', c3, b1, b2, b3, b4, b5, b6, b7⟩ := u
  have xg : XD c κ β γ := ⟨fun i hi => b3.int (by revert hi; revert i; decide), fun r ra rb j hj => by
    by_cases e10 : r = 10
    · rw [e10]; exact (b7 j hj).1
    by_cases e11 : r = 11
    · rw [e11]; exact (b7 j hj).2
    rw [b3.arr (fun z => by simp at z; omega)], sN.ch b3 (fun r a b z => by simp at z; omega)⟩
  have h2 : PD c κ Lr sz p2 32000 α γ := ⟨h.1, h1.2.1.tr xg, ⟨(b3.int (by decide)).trans h1.2.2.1.1, (b3.int (by decide)).trans h1.2.2.1.2.1, (b3.int (by decide)).trans h1.2.2.1.2.2⟩, b2, h1.2.2.2.2.ch b3 (by decide) (by decide)⟩
  refine (must_ok hN b2.2.1).bv (fun δ g => ?_) (fun δ g => h2.lx g)
  obtain ⟨p3, g1, -, g2, g3⟩ := g
  have h3 := h2.qp (b2.lx g1 g2 g3)
  refine (term_0 hN hn h3.2.2.2.1 (by decide)).bv (fun v ε u => ?_) (fun ε u => h3.x u)
  obtain ⟨x, t4, p4, rfl, u1, u2, u3, u4⟩ := u
  have h4 := h3.qp u1
  have nm4 : ∀ {θ : mS} {t p : Nat}, QP (· < κ) 32000 c Lr sz 32000 p3 0 0 δ 0 0 t p θ → NMs (c + 1) θ ∧ θ.1 15 = nI wu' := fun q => ⟨(b4.ch g3 (fun z => by cases z) (fun z => by cases z)).ch q.2.2.2.1 (by decide) (by decide), (q.2.2.2.1.int (by decide)).trans ((g3.int (by decide)).trans b5)⟩
  have up : ∀ {f : Option (kO × mS)} {q : Nat}, p < q → rV f (fun β => ∃ p1, q ≤ p1 ∧ DQ c sz p1 α β) (XD c κ α) → rV f (DT c sz p α) (XD c κ α) := fun hq g => g.mono (fun β ⟨p1, a, b⟩ => ⟨p1, by omega, b⟩) (fun _ q => q)
  have l4 : p < p4 := by have := u1.2.1; omega
  refine rV.ite (fun c0 => ?_) fun c0 => ?_
  · have e0 : how = 0 := (nI_eq (a := how) (b := 0) (by omega) (by omega)).mp c0
    exact up l4 (st39_ok (vv := none) hN hh h4 c3 (nm4 u1).1 (nm4 u1).2 b6 u2 u3 u4 ⟨rfl, by omega⟩)
  · refine (must_ok hN h4.2.2.2.1.2.1).bv (fun ζ g => ?_) (fun δ g => h4.lx g)
    obtain ⟨p5, k1, -, k2, k3⟩ := g
    have q5 := h4.2.2.2.1.lx k1 k2 k3
    have h5 := h4.qp q5
    refine (term_0 hN hn h5.2.2.2.1 (by decide)).bv (fun v η w => ?_) (fun ε u => h5.x u)
    obtain ⟨y, t6, p6, rfl, w1, w2, w3, w4⟩ := w
    have h6 := h5.qp w1
    have q56 := q5.tr w1 (Nat.le_refl _) (Nat.le_refl _)
    have s56 := q56.2.2.2.2.1
    have nn := nm4 (u1.tr q56 (Nat.le_refl _) (Nat.le_refl _))
    exact up (by have := q56.2.1; omega) (st39_ok (vv := some y) hN hh h6 c3 nn.1 nn.2 b6 (u2.up q56.1) (u3.sn s56 u2) (u4.sn h4.2.2.2.1.1.2.2.2 s56 u2) ⟨rfl, w2, w3, w4⟩)
/-- nothing is kept of check and eval -/
theorem PD.dq {p t t1 w n : Nat} {α0 γ δ : mS} (h : PD c κ Lr sz p t α0 γ) (q : QI (· < κ) 32000 c Lr 0 t γ 0 0 t1 w n δ) (h15 : γ.1 15 = α0.1 15) : DQ c sz p α0 δ := by
  obtain ⟨wu, m3, m3'⟩ := h.1.2.2.1
  have hc := q.2.1
  have x := h.2.1.tr (XD.of (c := c) hc (by decide) (r1024 (by decide)) (q.2.2.1.su vk))
  refine ⟨c, κ, Lr, p, Nat.le_refl _, Nat.le_refl _, h.1.xd (wu := wu) x.2.1 x.2.2 ?_ ?_ ?_ ?_ m3', h.2.2.2.1.2.1.ch hc (by decide), fun ⟨o, o1, o2⟩ => ⟨o, (x.1 1 (by decide)).trans o1, o2⟩, fun i hi => x.1 i (by revert hi; revert i; decide)⟩
  · rw [hc.int (by decide), h.2.2.1.1, h.1.1.1]
  · rw [hc.int (by decide), h.2.2.1.2.1, h.1.2.1.1]
  · rw [hc.int (by decide), h.2.2.1.2.2]
  · rw [hc.int (by decide), h15]; exact m3
theorem checked_ok {p : Nat} {α : mS} (hN : 400000 < N) (h : D0 c κ Lr sz p α) (h9 : α.1 9 ≠ 0) (h6 : α.1 6 ≠ 0) : rV (f_Mod_checked N α) (DT c sz p α) (XD c κ α) := by
  have hn := nrmk (show κ ≤ 32000 by have := h.1.k; omega)
  have h0 := h.pd
  unfold f_Mod_checked
  obtain ⟨β, p1, e1, a1, a2, a3, a4⟩ := take_m hN h.2.1.2.1
  have pl := a4 h9 h6
  rw [e1]
  have q1 := h.2.1.lx a1 a2 a3
  have h1 := h0.qp q1
  show rV (mBi ((G_applied N dp_applied).2.2.2.2.2 0 β) _) _ _
  refine (term_0 hN hn h1.2.2.2.1 (by decide)).bv (fun v γ u => ?_) (fun ε u => h1.x u)
  obtain ⟨x, t2, p2, rfl, u1, u2, u3, u4⟩ := u
  have h2 := h1.qp u1
  refine (must_ok hN h2.2.2.2.1.2.1).bv (fun δ g => ?_) (fun δ g => h2.lx g)
  obtain ⟨p3, g1, -, g2, g3⟩ := g
  have q3 := h2.2.2.2.1.lx g1 g2 g3
  have h3 := h2.qp q3
  refine (term_0 hN hn h3.2.2.2.1 (by decide)).bv (fun v ε w => ?_) (fun ε u => h3.x u)
  obtain ⟨y, t4, p4, rfl, w1, w2, w3, w4⟩ := w
  have h4 := h3.qp w1
  refine (must_ok hN h4.2.2.2.1.2.1).bv (fun ζ g => ?_) (fun δ g => h4.lx g)
  obtain ⟨p5, k1, -, k2, k3⟩ := g
  have q5 := h4.2.2.2.1.lx k1 k2 k3
  have h5 := h4.qp q5
  have qx := (q3.tr w1 (Nat.le_refl _) (Nat.le_refl _)).tr q5 (Nat.le_refl _) (Nat.le_refl _)
  have vx := u2.up qx.1
  have px : PN ζ x := u4.sn h2.2.2.2.1.1.2.2.2 qx.2.2.2.2.1 u2
  have fx : fit ζ x := u3.sn qx.2.2.2.2.1 u2
  have py : PN ζ y := w4.sn h4.2.2.2.1.1.2.2.2 q5.2.2.2.2.1 w2
  have fy : fit ζ y := w3.sn q5.2.2.2.2.1 w2
  have hW := h5.2.2.2.1.1.2.2.2
  obtain ⟨-, -, ⟨b1, b2, b3⟩, -⟩ := h5.2.2.2.1.1.nw vx
  obtain ⟨-, -, ⟨d1, d2, d3⟩, -⟩ := h5.2.2.2.1.1.nw w2
  rw [hW.cl vx, hW.cl w2, b1, d1, nI_add]
  refine rV.ix (hW.ix vx) (rV.ix (hW.ix w2) ((together_ok (by omega)).bv (fun η g => ?_) (fun η g => h5.2.1.tr (mch_d g (by decide)))))
  obtain ⟨rfl, -⟩ := g
  have hI := h5.2.2.2.2
  have xi : ∀ {t1 w n : Nat} {δ θ : mS}, QI (· < κ) 32000 c Lr 0 t4 η 0 0 t1 w n δ → XI (· < κ) 32000 t1 δ θ → XD c κ α θ := fun q g => h5.2.1.tr (XD.in (q.tx g) vk)
  refine (alone_i hN hn hI vx px).bv (fun v θ l => ?_) (fun θ l => h5.2.1.tr (XD.in l vk))
  obtain ⟨a, t6, rfl, l1, l2, l3, l4, -⟩ := l
  refine (alone_i hN hn l1.is (l1.v w2) (py.sn hW l1.2.2.1 w2)).bv (fun v ι m => ?_) (fun θ g => xi l1 g)
  obtain ⟨b, t7, rfl, m1, m2, m3, m4, -⟩ := m
  have q7 := l1.tr m1
  refine (sortOf_all hN hn (by decide) t7 b 0 0 ι m1.is m2 m3 (h5.1.ax (h5.2.1.qi q7) m1.is.1.1 m2 m4)).bv (fun v κ' o => ?_) (fun θ g => xi q7 g)
  obtain ⟨t8, w8, n8, o⟩ := o
  have q8 := q7.tr o
  refine ((check_all hN hn (by decide) t8 a b w8 n8 κ' o.is ((m1.tr o).v l2) ((m1.tr o).ft l2 l3) (h5.1.ax (h5.2.1.qi q8) o.is.1.1 ((m1.tr o).v l2) ((m1.tr o).al l1.is l2 l4)) (o.v m2) (o.ft m2 m3)).mono (fun β' r => ?_) (fun θ g => xi q8 g)).end
  obtain ⟨t9, w9, n9, r⟩ := r
  have e15 : η.1 15 = α.1 15 := by rw [q5.2.2.2.1.int (by decide), w1.2.2.2.1.int (by decide), q3.2.2.2.1.int (by decide), u1.2.2.2.1.int (by decide), q1.2.2.2.1.int (by decide)]
  exact ⟨p5, by have := u1.2.1; have := qx.2.1; omega, h5.dq (q8.tr r) e15⟩
theorem evaluated_ok {p : Nat} {α : mS} (hN : 400000 < N) (h : D0 c κ Lr sz p α) (h9 : α.1 9 ≠ 0) (h6 : α.1 6 ≠ 0) : rV (f_Mod_evaluated N α) (DT c sz p α) (XD c κ α) := by
  have hn := nrmk (show κ ≤ 32000 by have := h.1.k; omega)
  have h0 := h.pd
  unfold f_Mod_evaluated
  obtain ⟨β, p1, e1, a1, a2, a3, a4⟩ := take_m hN h.2.1.2.1
  have pl := a4 h9 h6
  rw [e1]
  have q1 := h.2.1.lx a1 a2 a3
  have h1 := h0.qp q1
  show rV (mBi ((G_applied N dp_applied).2.2.2.2.2 0 β) _) _ _
  refine (term_0 hN hn h1.2.2.2.1 (by decide)).bv (fun v γ u => ?_) (fun ε u => h1.x u)
  obtain ⟨x, t2, p2, rfl, u1, u2, u3, u4⟩ := u
  have h2 := h1.qp u1
  refine (must_ok hN h2.2.2.2.1.2.1).bv (fun δ g => ?_) (fun δ g => h2.lx g)
  obtain ⟨p3, g1, -, g2, g3⟩ := g
  have q3 := h2.2.2.2.1.lx g1 g2 g3
  have h3 := h2.qp q3
  have hI := h3.2.2.2.2
  have px : PN δ x := u4.sn h2.2.2.2.1.1.2.2.2 q3.2.2.2.2.1 u2
  have xi : ∀ {t1 w n : Nat} {ε θ : mS}, QI (· < κ) 32000 c Lr 0 t2 δ 0 0 t1 w n ε → XI (· < κ) 32000 t1 ε θ → XD c κ α θ := fun q g => h3.2.1.tr (XD.in (q.tx g) vk)
  refine (alone_i hN hn hI u2 px).bv (fun v θ l => ?_) (fun θ l => h3.2.1.tr (XD.in l vk))
  obtain ⟨a, t6, rfl, l1, l2, l3, l4, -⟩ := l
  refine (infer_all hN hn (by decide) 150 dp_check (by decide) (by decide) t6 a 0 0 θ l1.is l2 l3 (h3.1.ax (h3.2.1.qi l1) l1.is.1.1 l2 l4)).bv (fun v ι m => ?_) (fun θ g => xi l1 g)
  obtain ⟨b, t7, w7, n7, rfl, m1, m2, m3⟩ := m
  have q7 := l1.tr m1
  refine (norm_all hN hn (by decide) 120 dp_normal (by decide) (by decide) t7 a w7 n7 ι m1.is (m1.v l2) (m1.ft l2 l3)).bv (fun v lm o => ?_) (fun θ g => xi q7 g)
  obtain ⟨r, t8, w8, n8, rfl, o1, o2, o3, o4⟩ := o
  have q8 := q7.tr o1
  have cr : clo lm r := o4 _ (m1.al l1.is l2 l4)
  obtain ⟨μ, eμ⟩ : ∃ μ, μ = mSi lm 1 0 := ⟨_, rfl⟩
  rw [← eμ]
  have cμ : mch [1] [] lm μ := by rw [eμ]; exact mch.si (by decide)
  have sμ : ∀ V : Nat → Prop, sN V lm μ := fun V => sN.ch cμ (fun r _ _ z => by cases z)
  have hWμ := o1.is.1.1.2.2.2.sn (sμ (vd (· < κ) 32000 t8))
  have e15 : δ.1 15 = α.1 15 := by rw [q3.2.2.2.1.int (by decide), u1.2.2.2.1.int (by decide), q1.2.2.2.1.int (by decide)]
  have D := h3.dq q8 e15
  obtain ⟨c', κ', Lr', p', d1, d2, d3, d4, d5, d6⟩ := D
  have nm : NMs c lm := (h.1.2.2.2.1.ch a3 (fun z => by cases z) (fun z => by cases z)).ch (u1.2.2.2.1.tr (q3.2.2.2.1)) (by decide) (by decide) |>.ch q8.2.1 (by decide) (by decide)
  have SEμ : SE (vd (· < κ) 32000 t8) c Lr μ := ⟨hWμ, ⟨c, nm.ch cμ (fun z => by cases z) (fun z => by cases z), Nat.le_refl _, fun j hj => ((h.1.2.2.2.2.2.2.2.2 j).mp hj).1⟩, ⟨0, by rw [eμ]; rfl, by decide⟩⟩
  obtain ⟨ν, eν, cν, oν⟩ := say_ok (ar := 0) hN SEμ o2 (cr.sn o1.is.1.1.2.2.2 (sμ _) o2) (by rw [(sμ (fun _ => True)).d trivial]; exact o3.2)
  rw [eν]
  have cc : mch [1] [1] lm ν := (cμ.mo (fun _ z => z) (fun r z => by cases z)).tr cν
  refine rV.ret ⟨p3, by have := u1.2.1; omega, c', κ', Lr', p', d1, d2, ?_, d4.ch cc (by decide), fun _ => oν, fun i hi => ?_⟩
  · obtain ⟨wu, y1, y2⟩ := d3.2.2.1
    exact d3.xd (wu := wu) (fun r ra rb j _ => by rw [cc.arr (fun z => by have := List.mem_singleton.mp z; omega)]) (sn1 cc) (cc.int (by decide)) (cc.int (by decide)) (cc.int (by decide)) ((cc.int (by decide)).trans y1) y2
  · rw [cc.int (by revert hi; revert i; decide)]; exact d6 i hi
end STATED
