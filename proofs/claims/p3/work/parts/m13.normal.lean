-- NORMAL FORM of the reference
section NORMM
variable {N : Nat} {W : Nat → Prop} {s Lc : Nat} {Lr : Nat → Prop} {U : Nat} {kk : Int32 → Int32 → mS → Option (kO × mS)}
def NQ (W : Nat → Prop) (s Lc : Nat) (Lr : Nat → Prop) (U t0 : Nat) (α : mS) (w n t : Nat) (x : Int32) (β : mS) : Prop := ∃ r t1 w1 n1, x = nI r ∧ QI W s Lc Lr U t0 α w n t1 w1 n1 β ∧ vd W s t1 r ∧ fit β r ∧ ∀ S, AL S α t → AL S β r
def NoS (W : Nat → Prop) (s Lc : Nat) (Lr : Nat → Prop) (U e : Nat) (f : Int32 → Int32 → mS → Option (kO × mS)) : Prop := ∀ (t0 t w n : Nat) (α : mS), IS W s Lc Lr U t0 α w n → vd W s t0 t → fit α t → rI (f (nI t) (nI (121 - e)) α) (NQ W s Lc Lr U t0 α w n t) (XI W s t0 α)
theorem up121 {e : Nat} (he : e ≤ 120) : nI (121 - (e + 1)) + 1 = nI (121 - e) := by rw [nI_1, show 121 - (e + 1) + 1 = 121 - e by omega]
theorem norm_136 {e t b : Nat} (hN : 400000 < N) (hn : nrm W s) (he : e ≤ 120) (hk : NoS W s Lc Lr U e kk) : ∀ (d i x nn t0 w n : Nat) (α : mS), i + d = b → d < nn → IS W s Lc Lr U t0 α w n → vd W s t0 t → fit α t → apn α b t → vd W s t0 x → fit α x → rI (f_Mod_normal_136 N kk nn (nI i) (nI x) (nI b) (nI t) (nI (121 - (e + 1))) α) (fun y β => ∃ r t1 w1 n1, y = nI r ∧ QI W s Lc Lr U t0 α w n t1 w1 n1 β ∧ vd W s t1 r ∧ fit β r ∧ ∀ S, AL S α x → AL S α t → AL S β r) (XI W s t0 α)
  | 0, i, x, nn, t0, w, n, α, hd, hm, h, ht, hf, hap, hx, hfx => by
    obtain ⟨nn, rfl⟩ : ∃ n', nn = n' + 1 := ⟨nn - 1, by omega⟩
    have l := (itr_v h.1.1.2.2.2 ht b hap).2
    have t4 := (h.1.1.nw ht).1
    rw [f_Mod_normal_136, if_pos (nI_le (by omega) (by omega))]
    exact rI.ret ⟨x, t0, w, n, rfl, QI.rf h, hx, hfx, fun S h _ => h⟩
  | d + 1, i, x, nn, t0, w, n, α, hd, hm, h, ht, hf, hap, hx, hfx => by
    obtain ⟨nn, rfl⟩ : ∃ n', nn = n' + 1 := ⟨nn - 1, by omega⟩
    have l := (itr_v h.1.1.2.2.2 ht b hap).2
    have t4 := (h.1.1.nw ht).1
    rw [f_Mod_normal_136, if_neg (nI_ge (by omega) (by omega)), up121 he]
    obtain ⟨a, ea, va, fa, aa⟩ := nth_f (S := fun _ => True) hN h.1.1 ht hap (show i < b by omega)
    refine rI.ob ea ((hk t0 a w n α h va (fa hf)).bi (fun v β q => ?_) (fun _ q => q))
    obtain ⟨p, t1, w1, n1, rfl, q1, q2, q3, q4⟩ := q
    refine (appm_ok hn q1.is.1.1 (q1.v hx) q2).bi (fun v γ y => ?_) (fun γ y => q1.tx (y.xi (by decide)))
    obtain ⟨r3, t3, rfl, y1, -, y2⟩ := y
    have q5 := q1.tr (q1.is.qn y1 (by decide))
    have y3 := q1.is.qn y1 (by decide)
    refine (fits_ok y1.2.1 y1.2.2.2.2).bi (fun v ε z => ?_) (fun ε z => q5.tx (mch_i z (by decide)))
    obtain ⟨rfl, rfl, z1⟩ := z
    rw [nI_1]
    refine (norm_136 hN hn he hk d (i + 1) r3 nn t3 w1 n1 ε (by omega) (by omega) y3.is (q5.v ht) (q5.ft ht hf) (apn_sn h.1.1.2.2.2 q5.2.2.1 ht hap) y1.2.2.2.2 z1).mono (fun v ζ z => ?_) (fun ζ z => q5.tx z)
    obtain ⟨r, t4, w4, n4, e4, z2, z3, z4, z5⟩ := z
    exact ⟨r, t4, w4, n4, e4, q5.tr z2, z3, z4, fun S h1 h2 => z5 S (y2 S (q1.al h hx h1) (q4 S (aa S h2))) (q5.al h ht h2)⟩
theorem norm_40 {e t t0 w n : Nat} {α : mS} (hN : 400000 < N) (hn : nrm W s) (hU : U < 5999) (he : e ≤ 120) (hk : NoS W s Lc Lr U e kk) (h : IS W s Lc Lr U t0 α w n) (ht : vd W s t0 t) (hf : fit α t) (k67 : uK α t = 6 ∨ uK α t = 7) : rI (f_Mod_normal_j40 N kk (nI t) (nI (121 - (e + 1))) α) (NQ W s Lc Lr U t0 α w n t) (XI W s t0 α) := by
  have hW := h.1.1.2.2.2
  have ix := hW.ix ht
  have p3 := hW.p3 ht (by omega)
  have p4 := hW.p4 ht (by omega)
  have fp := hf.p hW ht (by omega)
  unfold f_Mod_normal_j40
  rw [hW.cl ht, p3.1, up121 he]
  refine rI.ix ix ((hk t0 _ w n α h p3.2.2 fp.1).bi (fun v β q => ?_) (fun _ q => q))
  obtain ⟨a, t1, w1, n1, rfl, q, q2, q3, q4⟩ := q
  refine rI.ix ix ?_
  rw [q.2.2.1 t ht 3 (by decide) (by decide), p3.1]
  refine (fresh_ok hn q.is (by omega) (q.v p3.2.2) (q.ft p3.2.2 fp.1)).bi (fun v γ u => ?_) (fun γ u => q.tx u)
  obtain ⟨r, t2, rfl, u1, u2, u3, ⟨u4, u5⟩, u6, -⟩ := u
  have qu := q.tr u1
  refine rI.ix ix ?_
  rw [qu.2.2.1 t ht 4 (by decide) (by decide), p4.1]
  refine (open_ok hN hn u1.is (qu.v p4.2.2) u2 (qu.ft p4.2.2 fp.2.1)).bi (fun v δ y => ?_) (fun γ u => qu.tx u)
  obtain ⟨r1, t3, w3, rfl, y1, y2, y3, y4, -, y5⟩ := y
  have qy := qu.tr y1
  refine (hk t3 r1 w3 (n1 + 1) δ y1.is y3 y4).bi (fun v ε z => ?_) (fun γ u => qy.tx u)
  obtain ⟨b, t4, w4, n4, rfl, z1, z2, z3, z4⟩ := z
  have qz := qy.tr z1
  have vr := (y1.tr z1).v u2
  have e3 : ε.2 3 r = nI n1 := ((y1.tr z1).2.2.1 r u2 3 (by decide) (by decide)).trans u5
  refine rI.ix ix (rI.ix (by rw [z1.is.1.1.2.2.2.cl vr]; exact z1.is.1.1.2.2.2.ix vr) ?_)
  rw [z1.is.1.1.2.2.2.cl vr, e3, qz.2.2.1 t ht 2 (by decide) (by decide), hW.kd ht]
  refine (close_ok hN hn z1.is (by omega) z2 z3).bi (fun v ζ x => ?_) (fun γ u => qz.tx u)
  obtain ⟨c, t5, w5, rfl, x1, x2, x3, x4⟩ := x
  have qx := qz.tr x1
  have va5 := ((u1.tr y1).tr (z1.tr x1)).v q2
  refine (bnd_q (k := uK α t) hn x1.is k67 va5 x2).bi (fun v η g => ?_) (fun γ u => qx.tx u)
  obtain ⟨r6, t6, rfl, g1, g2, -, g3⟩ := g
  have qg := qx.tr g1
  refine ((fits_ok g1.is.1.1 g2).mono (fun v θ l => ?_) (fun θ l => qg.tx (mch_i l (by decide)))).end
  obtain ⟨rfl, rfl, l1⟩ := l
  refine ⟨r6, t6, w5, n4, rfl, qg, g2, l1, fun S hS => g3 S ?_ ?_⟩
  · exact ((u1.tr y1).tr (z1.tr x1)).al q.is q2 (q4 S (hS.p (by omega)).1)
  · refine x4 (fun y => S y ∨ y = n1) S (fun y hy hne => hy.resolve_right fun e => hne (by rw [e])) (z4 _ (y5 _ ?_ ?_))
    · exact AL.lf (by omega) (fun _ => ⟨n1, u5, u6, Or.inr rfl⟩) (by omega)
    · exact qu.al h p4.2.2 ((hS.p (by omega)).2.1.su fun _ z => Or.inl z)
theorem normm_ok {e : Nat} (hN : 400000 < N) (hn : nrm W s) (hU : U < 5999) (he : e ≤ 121) (hk : ∀ e', e = e' + 1 → NoS W s Lc Lr U e' kk) : NoS W s Lc Lr U e (f_Mod_normal N kk) := by
  intro t0 t w n α h ht hf
  unfold f_Mod_normal
  refine rI.ite (fun c => ?_) fun _ => rI.thr thr_i
  have he0 : 121 - e ≤ 120 := Nat.not_lt.mp fun z => absurd c (nI_ge (a := 120) z (by omega))
  obtain ⟨e', rfl⟩ : ∃ e', e = e' + 1 := ⟨e - 1, by omega⟩
  have hk := hk e' rfl
  refine (whnf_i hN hn h ht hf).bi (fun v β q => ?_) (fun _ q => q)
  obtain ⟨a, t1, w1, rfl, q1, q2, q3, q4⟩ := q
  have hW := q1.is.1.1.2.2.2
  have ix := hW.ix q2
  have up : ∀ {f : Option (kO × mS)}, rI f (NQ W s Lc Lr U t1 β w1 n a) (XI W s t1 β) → rI f (NQ W s Lc Lr U t0 α w n t) (XI W s t0 α) := fun hf => hf.mono (fun v ζ z => by
    obtain ⟨r, t2, w2, n2, e2, z1, z2, z3, z4⟩ := z
    exact ⟨r, t2, w2, n2, e2, q1.tr z1, z2, z3, fun S hS => z4 S (q4 S hS)⟩) (fun ζ z => q1.tx z)
  rw [hW.cl q2]
  refine rI.ix ix (rI.ite (fun k6 => up (norm_40 hN hn hU (by omega) hk q1.is q2 q3 (Or.inl ((hW.is q2 (m := 6) (by decide)).mp k6)))) fun _ => rI.ix ix (rI.ite (fun k7 => up (norm_40 hN hn hU (by omega) hk q1.is q2 q3 (Or.inr ((hW.is q2 (m := 7) (by decide)).mp k7)))) fun _ => ?_))
  obtain ⟨b, a1, a2, a3, a4, a5, a6⟩ := head_m hN hW q2
  refine rI.ob a4 (rI.ob a3 (up ?_))
  refine (norm_136 hN hn (by omega) hk b 0 (itr β b a) N t1 w1 n β (by omega) (by omega) q1.is q2 q3 a1 a5 (fit.itr hW q2 q3 b a1)).mono (fun v γ z => ?_) (fun _ z => z)
  obtain ⟨r, t2, w2, n2, e2, z1, z2, z3, z4⟩ := z
  exact ⟨r, t2, w2, n2, e2, z1, z2, z3, fun S hS => z4 S (hS.itr hW b a1) hS⟩
/-- NORMAL FORM ends -/
theorem norm_all (hN : 400000 < N) (hn : nrm W s) (hU : U < 5999) : ∀ (e L : Nat), e ≤ 121 → e + 1 ≤ L → NoS W s Lc Lr U e (G_normal N L)
  | e, L, he, hL => by
    obtain ⟨L, rfl⟩ : ∃ l, L = l + 1 := ⟨L - 1, by omega⟩
    refine normm_ok hN hn hU he fun e' ee => ?_
    subst ee
    exact norm_all hN hn hU e' L (by omega) (by omega)
end NORMM
