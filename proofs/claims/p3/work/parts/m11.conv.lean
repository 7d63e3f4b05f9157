-- CONV of the reference
section CONVM
variable {N : Nat} {W : Nat → Prop} {s Lc : Nat} {Lr : Nat → Prop} {U : Nat} {kk : (Int32 → Int32 → Int32 → mS → Option (kO × mS)) × (Int32 → Int32 → Int32 → mS → Option (kO × mS))}
/-- an answer yes or no -/
def CQ (W : Nat → Prop) (s Lc : Nat) (Lr : Nat → Prop) (U t0 : Nat) (α : mS) (w n : Nat) (_ : Int32) (β : mS) : Prop := ∃ t1 w1 n1, QI W s Lc Lr U t0 α w n t1 w1 n1 β
def CvS (W : Nat → Prop) (s Lc : Nat) (Lr : Nat → Prop) (U e : Nat) (f : Int32 → Int32 → Int32 → mS → Option (kO × mS)) : Prop := ∀ (t0 x y w n : Nat) (α : mS), IS W s Lc Lr U t0 α w n → vd W s t0 x → vd W s t0 y → fit α x → fit α y → rI (f (nI x) (nI y) (nI (121 - e)) α) (CQ W s Lc Lr U t0 α w n) (XI W s t0 α)
theorem CQ.of {t0 t1 w n w1 n1 : Nat} {α β γ : mS} {x : Int32} (h : QI W s Lc Lr U t0 α w n t1 w1 n1 β) (h' : CQ W s Lc Lr U t1 β w1 n1 x γ) : CQ W s Lc Lr U t0 α w n x γ := by
  obtain ⟨t2, w2, n2, q⟩ := h'
  exact ⟨t2, w2, n2, h.tr q⟩
theorem CQ.and {t0 w n : Nat} {α : mS} {f : Option (kO × mS)} (h : rI f (CQ W s Lc Lr U t0 α w n) (XI W s t0 α)) : rI (mBi f fun v β => some (some (some (v &&& 1)), β)) (CQ W s Lc Lr U t0 α w n) (XI W s t0 α) := h.bi (fun _ _ q => rI.ret q) (fun _ q => q)
theorem alike_81 {e x y b : Nat} (hN : 400000 < N) (he : e ≤ 120) (hk : CvS W s Lc Lr U e kk.2) : ∀ (d i nn t0 w n : Nat) (α : mS), i + d = b → d < nn → IS W s Lc Lr U t0 α w n → vd W s t0 x → vd W s t0 y → fit α x → fit α y → apn α b x → apn α b y → rI (f_Mod_alike_81 N kk nn (nI i) (nI b) (nI x) (nI y) (nI (120 - e)) α) (CQ W s Lc Lr U t0 α w n) (XI W s t0 α)
  | 0, i, nn, t0, w, n, α, hd, hm, h, hx, hy, fx, fy, ax, ay => by
    obtain ⟨nn, rfl⟩ : ∃ n', nn = n' + 1 := ⟨nn - 1, by omega⟩
    have l := (itr_v h.1.1.2.2.2 hx b ax).2
    have t4 := (h.1.1.nw hx).1
    rw [f_Mod_alike_81, if_pos (nI_le (by omega) (by omega))]
    exact rI.ret ⟨t0, w, n, QI.rf h⟩
  | d + 1, i, nn, t0, w, n, α, hd, hm, h, hx, hy, fx, fy, ax, ay => by
    obtain ⟨nn, rfl⟩ : ∃ n', nn = n' + 1 := ⟨nn - 1, by omega⟩
    have l := (itr_v h.1.1.2.2.2 hx b ax).2
    have t4 := (h.1.1.nw hx).1
    rw [f_Mod_alike_81, if_neg (nI_ge (by omega) (by omega))]
    obtain ⟨r, er, vr, fr, -⟩ := nth_f (S := fun _ => True) hN h.1.1 hx ax (show i < b by omega)
    obtain ⟨r', er', vr', fr', -⟩ := nth_f (S := fun _ => True) hN h.1.1 hy ay (show i < b by omega)
    rw [show nI (120 - e) + 1 = nI (121 - e) by rw [nI_1, show 120 - e + 1 = 121 - e by omega]]
    refine rI.ob er (rI.ob er' ((hk t0 r r' w n α h vr vr' (fr fx) (fr' fy)).bi (fun v β q => ?_) (fun _ q => q)))
    obtain ⟨t1, w1, n1, q⟩ := q
    refine rI.ite (fun _ => rI.ret ⟨t1, w1, n1, q⟩) fun _ => ?_
    rw [nI_1]
    have hW := h.1.1.2.2.2
    exact (alike_81 hN he hk d (i + 1) nn t1 w1 n1 β (by omega) (by omega) q.is (q.v hx) (q.v hy) (q.ft hx fx) (q.ft hy fy) (apn_sn hW q.2.2.1 hx ax) (apn_sn hW q.2.2.1 hy ay)).mono (fun v γ u => CQ.of q u) (fun γ u => q.tx u)
theorem alike_ok {e : Nat} (hN : 400000 < N) (he : e ≤ 120) (hk : CvS W s Lc Lr U e kk.2) : CvS W s Lc Lr U (e + 1) (f_Mod_alike N kk) := by
  intro t0 x y w n α h hx hy fx fy
  have hW := h.1.1.2.2.2
  obtain ⟨b, a1, a2, a3, a4, a5, a6⟩ := head_m hN hW hx
  obtain ⟨b', c1, c2, c3, c4, c5, c6⟩ := head_m hN hW hy
  have no : ∀ z : Int32, rI (some (some (some z), α)) (CQ W s Lc Lr U t0 α w n) (XI W s t0 α) := fun z => rI.ret ⟨t0, w, n, QI.rf h⟩
  unfold f_Mod_alike
  refine rI.ob a3 (rI.ob c3 (rI.ob a4 ?_))
  rw [hW.cl a5]
  have ix := hW.ix a5
  refine rI.ix ix (rI.ite (fun _ => no 0) fun _ => rI.ix ix (rI.ite (fun _ => no 0) fun _ => rI.ix ix (rI.ite (fun _ => no 0) fun _ => ?_)))
  obtain ⟨z, ez⟩ := same_ok hN hW dp_same (itr α b x) (itr α b' y) a5 c5 (by have := (fit.itr hW hx fx b a1).2; show _ ≤ 260; omega)
  refine rI.ob ez (rI.ite (fun _ => no 0) fun _ => rI.ob c4 (rI.ite (fun eb => ?_) fun _ => no 0))
  have eb : b = b' := (nI_eq (by omega) (by omega)).mp eb
  subst eb
  rw [show 121 - (e + 1) = 120 - e by omega]
  exact alike_81 hN he hk b 0 N t0 w n α (by omega) (by omega) h hx hy fx fy a1 c1
section JS
variable {e t0 x y w n : Nat} {α : mS}
theorem conv_312 (h : IS W s Lc Lr U t0 α w n) (hk : CvS W s Lc Lr U e kk.1) (hx : vd W s t0 x) (hy : vd W s t0 y) (fx : fit α x) (fy : fit α y) : rI (f_Mod_conv_j312 N kk (nI y) (nI x) (nI (121 - e)) α) (CQ W s Lc Lr U t0 α w n) (XI W s t0 α) := by
  unfold f_Mod_conv_j312
  exact CQ.and (hk t0 x y w n α h hx hy fx fy)
/-- eta: the one opened against the other applied -/
theorem eta_ok {a c : Nat} {k : Int32 → Int32 → mS → Option (kO × mS)} (hN : 400000 < N) (hn : nrm W s) (hU : U < 5999) (h : IS W s Lc Lr U t0 α w n) (ha : vd W s t0 a) (hc : vd W s t0 c) (fa : fit α a) (fc : fit α c) (h6 : 6 ≤ uK α a) (hk : ∀ t1 w1 n1 β p q, QI W s Lc Lr U t0 α w n t1 w1 n1 β → vd W s t1 p → vd W s t1 q → fit β p → fit β q → rI (k (nI p) (nI q) β) (CQ W s Lc Lr U t1 β w1 n1) (XI W s t1 β)) : rI (mBi (f_Mod_fresh N (α.2 3 a) α) fun v30 α28 => (if nI a < 0 ∨ 400000 ≤ a then none else (mBi (f_Mod_open N (α28.2 4 a) v30 α28) fun v34 α32 => (mBi (f_Mod_apply N (nI c) v30 α32) fun v37 α35 => (mBi (f_Mod_fits N v37 α35) fun v40 α38 => k v34 v40 α38))))) (CQ W s Lc Lr U t0 α w n) (XI W s t0 α) := by
  have hW := h.1.1.2.2.2
  have ix := hW.ix ha
  have p3 := hW.p3 ha h6
  have p4 := hW.p4 ha h6
  have ff := fa.p hW ha h6
  rw [p3.1]
  refine (fresh_ok hn h (by omega) p3.2.2 ff.1).bi (fun v β q => ?_) (fun _ q => q)
  obtain ⟨r, t1, rfl, q1, q2, q3, q4, q5, -⟩ := q
  refine rI.ix ix ?_
  rw [q1.2.2.1 a ha 4 (by decide) (by decide), p4.1]
  refine (open_ok hN hn q1.is (q1.v p4.2.2) q2 (q1.ft p4.2.2 ff.2.1)).bi (fun v γ u => ?_) (fun γ u => q1.tx u)
  obtain ⟨r2, t2, w2, rfl, u1, u2, u3, u4, u5, -⟩ := u
  have q12 := q1.tr u1
  refine (appm_ok hn u1.is.1.1 (q12.v hc) (u1.v q2)).bi (fun v δ y => ?_) (fun δ y => q12.tx (y.xi (by decide)))
  obtain ⟨r3, t3, rfl, y1, -, -⟩ := y
  have y2 := u1.is.qn y1 (by decide)
  have q13 := q12.tr y2
  refine (fits_ok y1.2.1 y1.2.2.2.2).bi (fun v ε z => ?_) (fun ε z => q13.tx (mch_i z (by decide)))
  obtain ⟨rfl, rfl, z1⟩ := z
  exact (hk t3 w2 (n + 1) ε r2 r3 q13 (y2.v u3) y1.2.2.2.2 (y2.ft u3 u4) z1).mono (fun v ζ z => CQ.of q13 z) (fun ζ z => q13.tx z)
theorem conv_243 {k7 k6 : Int32} (hN : 400000 < N) (hn : nrm W s) (hU : U < 5999) (h : IS W s Lc Lr U t0 α w n) (hk1 : CvS W s Lc Lr U (e + 1) kk.1) (hk : CvS W s Lc Lr U e kk.2) (he : e ≤ 120) (hx : vd W s t0 x) (hy : vd W s t0 y) (fx : fit α x) (fy : fit α y) (e7 : k7 = α.2 2 y) : rI (f_Mod_conv_j243 N kk k7 k6 (nI y) (nI x) (nI (121 - (e + 1))) α) (CQ W s Lc Lr U t0 α w n) (XI W s t0 α) := by
  have hW := h.1.1.2.2.2
  have j := conv_312 (N := N) (kk := kk) h hk1 hx hy fx fy
  unfold f_Mod_conv_j243
  refine rI.ite (fun c7 => rI.ite (fun _ => j) fun _ => rI.ite (fun _ => j) fun _ => ?_) fun _ => j
  have k7 : uK α y = 7 := (hW.is hy (m := 7) (by decide)).mp (e7.symm.trans c7)
  rw [hW.cl hy]
  refine rI.ix (hW.ix hy) ?_
  refine eta_ok (k := fun p q β => mBi (kk.2 q p (nI (121 - (e + 1)) + 1) β) fun v γ => some (some (some (v &&& 1)), γ)) hN hn hU h hy hx fy fx (by omega) (fun t1 w1 n1 β p q z hp hq fp fq => ?_)
  rw [show nI (121 - (e + 1)) + 1 = nI (121 - e) by rw [nI_1, show 121 - (e + 1) + 1 = 121 - e by omega]]
  exact CQ.and (hk t1 q p w1 n1 β z.is hq hp fq fp)
theorem conv_178 {k7 k6 : Int32} (hN : 400000 < N) (hn : nrm W s) (hU : U < 5999) (h : IS W s Lc Lr U t0 α w n) (hk1 : CvS W s Lc Lr U (e + 1) kk.1) (hk : CvS W s Lc Lr U e kk.2) (he : e ≤ 120) (hx : vd W s t0 x) (hy : vd W s t0 y) (fx : fit α x) (fy : fit α y) (e7 : k7 = α.2 2 y) (e6 : k6 = α.2 2 x) : rI (f_Mod_conv_j178 N kk k7 k6 (nI y) (nI x) (nI (121 - (e + 1))) α) (CQ W s Lc Lr U t0 α w n) (XI W s t0 α) := by
  have hW := h.1.1.2.2.2
  have j := conv_243 (k6 := k6) hN hn hU h hk1 hk he hx hy fx fy e7
  unfold f_Mod_conv_j178
  refine rI.ite (fun c7 => rI.ite (fun _ => j) fun _ => rI.ite (fun _ => j) fun _ => ?_) fun _ => j
  have k7 : uK α x = 7 := (hW.is hx (m := 7) (by decide)).mp (e6.symm.trans c7)
  rw [hW.cl hx]
  refine rI.ix (hW.ix hx) ?_
  refine eta_ok (k := fun p q β => mBi (kk.2 p q (nI (121 - (e + 1)) + 1) β) fun v γ => some (some (some (v &&& 1)), γ)) hN hn hU h hx hy fx fy (by omega) (fun t1 w1 n1 β p q z hp hq fp fq => ?_)
  rw [show nI (121 - (e + 1)) + 1 = nI (121 - e) by rw [nI_1, show 121 - (e + 1) + 1 = 121 - e by omega]]
  exact CQ.and (hk t1 p q w1 n1 β z.is hp hq fp fq)
theorem conv_101 (hN : 400000 < N) (hn : nrm W s) (hU : U < 5999) (h : IS W s Lc Lr U t0 α w n) (hk : CvS W s Lc Lr U e kk.2) (he : e ≤ 120) (hx : vd W s t0 x) (hy : vd W s t0 y) (fx : fit α x) (fy : fit α y) (kx : uK α x = 6 ∨ uK α x = 7) (ky : uK α y = 6 ∨ uK α y = 7) : rI (f_Mod_conv_j101 N kk (nI y) (nI x) (nI (121 - (e + 1))) α) (CQ W s Lc Lr U t0 α w n) (XI W s t0 α) := by
  have hW := h.1.1.2.2.2
  have ix := hW.ix hx
  have iy := hW.ix hy
  have px := hW.p3 hx (by omega)
  have px4 := hW.p4 hx (by omega)
  have py := hW.p3 hy (by omega)
  have py4 := hW.p4 hy (by omega)
  have ffx := fx.p hW hx (by omega)
  have ffy := fy.p hW hy (by omega)
  have e1 : nI (121 - (e + 1)) + 1 = nI (121 - e) := by rw [nI_1, show 121 - (e + 1) + 1 = 121 - e by omega]
  unfold f_Mod_conv_j101
  rw [hW.cl hx, hW.cl hy, px.1, py.1, e1]
  refine rI.ix ix (rI.ix iy ((hk t0 _ _ w n α h px.2.2 py.2.2 ffx.1 ffy.1).bi (fun v β q => ?_) (fun _ q => q)))
  obtain ⟨t1, w1, n1, q⟩ := q
  refine rI.ite (fun _ => rI.ret ⟨t1, w1, n1, q⟩) fun _ => rI.ix ix ?_
  rw [q.2.2.1 x hx 3 (by decide) (by decide), px.1]
  refine (fresh_ok hn q.is (by omega) (q.v px.2.2) (q.ft px.2.2 ffx.1)).bi (fun v γ u => ?_) (fun γ u => q.tx u)
  obtain ⟨r, t2, rfl, u1, u2, u3, u4, u5, -⟩ := u
  have q2 := q.tr u1
  refine rI.ix ix ?_
  rw [q2.2.2.1 x hx 4 (by decide) (by decide), px4.1]
  refine (open_ok hN hn u1.is (q2.v px4.2.2) u2 (q2.ft px4.2.2 ffx.2.1)).bi (fun v δ y => ?_) (fun γ u => q2.tx u)
  obtain ⟨r1, t3, w3, rfl, y1, y2, y3, y4, y5, -⟩ := y
  have q3 := q2.tr y1
  refine rI.ix iy ?_
  rw [q3.2.2.1 y hy 4 (by decide) (by decide), py4.1]
  refine (open_ok (U := U) hN hn (y1.is.up (by omega) (by omega)) (q3.v py4.2.2) (y1.v u2) (q3.ft py4.2.2 ffy.2.1)).bi (fun v ε z => ?_) (fun γ u => q3.tx u)
  obtain ⟨r2, t4, w4, rfl, z1, z2, z3, z4, z5, -⟩ := z
  have q4 := q3.tr z1
  exact (CQ.and (hk t4 r1 r2 w4 (n1 + 1) ε z1.is (z1.v y3) z3 (z1.ft y3 y4) z4)).mono (fun v ζ z => CQ.of q4 z) (fun ζ z => q4.tx z)
end JS
theorem conv_ok2 {e : Nat} (hN : 400000 < N) (hn : nrm W s) (hU : U < 5999) (he : e ≤ 121) (hk : ∀ e', e = e' + 1 → CvS W s Lc Lr U (e' + 1) kk.1 ∧ CvS W s Lc Lr U e' kk.2) : CvS W s Lc Lr U e (f_Mod_conv N kk) := by
  intro t0 x y w n α h hx hy fx fy
  unfold f_Mod_conv
  refine rI.ite (fun c => ?_) fun _ => rI.thr thr_i
  have he0 : 121 - e ≤ 120 := Nat.not_lt.mp fun z => absurd c (nI_ge (a := 120) z (by omega))
  obtain ⟨e', rfl⟩ : ∃ e', e = e' + 1 := ⟨e - 1, by omega⟩
  obtain ⟨hk1, hk2⟩ := hk e' rfl
  refine (costs_i (b := 1) (U' := U) h (by decide) (Or.inl rfl) h.2.1.2.2).bi (fun β q => ?_) (fun _ q => q)
  obtain ⟨q, -⟩ := q
  have hW := q.is.1.1.2.2.2
  obtain ⟨z, ez⟩ := same_ok hN hW dp_same x y (q.v hx) (q.v hy) (by have := (q.ft hx fx).2; show _ ≤ 260; omega)
  refine rI.ob ez (rI.ite (fun _ => ?_) fun _ => rI.ret ⟨_, _, _, q⟩)
  refine (whnf_i hN hn q.is (q.v hx) (q.ft hx fx)).bi (fun v γ u => ?_) (fun γ u => q.tx u)
  obtain ⟨a, t1, w1, rfl, u1, u2, u3, -⟩ := u
  have q1 := q.tr u1
  refine (whnf_i hN hn u1.is (q1.v hy) (q1.ft hy fy)).bi (fun v δ z => ?_) (fun γ u => q1.tx u)
  obtain ⟨b, t2, w2, rfl, z1, z2, z3, -⟩ := z
  have q2 := q1.tr z1
  have va := z1.v u2
  have fa := z1.ft u2 u3
  have hW2 := z1.is.1.1.2.2.2
  obtain ⟨z', ez'⟩ := same_ok hN hW2 dp_same a b va z2 (by have := fa.2; show _ ≤ 260; omega)
  refine rI.ob ez' (rI.ite (fun _ => ?_) fun _ => rI.ret ⟨_, _, _, q2⟩)
  rw [hW2.cl va, hW2.cl z2]
  refine rI.ix (hW2.ix va) (rI.ix (hW2.ix z2) ?_)
  have up : ∀ {f : Option (kO × mS)}, rI f (CQ W s Lc Lr U t2 δ w2 n) (XI W s t2 δ) → rI f (CQ W s Lc Lr U t0 α w n) (XI W s t0 α) := fun hf => hf.mono (fun v ζ z => CQ.of q2 z) (fun ζ z => q2.tx z)
  have j178 := conv_178 (N := N) (kk := kk) hN hn hU z1.is hk1 hk2 (by omega) va z2 fa z3 rfl rfl
  have j87 : rI (f_Mod_conv_j87 N kk (δ.2 2 b) (δ.2 2 a) (nI b) (nI a) (nI (121 - (e' + 1))) δ) (CQ W s Lc Lr U t0 α w n) (XI W s t0 α) := by
    unfold f_Mod_conv_j87
    refine rI.ite (fun ca => rI.ite (fun cb => up ?_) fun _ => up j178) fun _ => up j178
    exact conv_101 hN hn hU z1.is hk2 (by omega) va z2 fa z3 (Or.inr ((hW2.is va (m := 7) (by decide)).mp ca)) (Or.inr ((hW2.is z2 (m := 7) (by decide)).mp cb))
  refine rI.ite (fun ca => rI.ite (fun cb => up ?_) fun _ => j87) fun _ => j87
  exact conv_101 hN hn hU z1.is hk2 (by omega) va z2 fa z3 (Or.inl ((hW2.is va (m := 6) (by decide)).mp ca)) (Or.inl ((hW2.is z2 (m := 6) (by decide)).mp cb))
/-- CONV ends -/
theorem conv_all (hN : 400000 < N) (hn : nrm W s) (hU : U < 5999) : ∀ (e L : Nat), e ≤ 121 → 2 * e + 1 ≤ L → CvS W s Lc Lr U e (G_alike N L).2
  | e, L, he, hL => by
    obtain ⟨L, rfl⟩ : ∃ l, L = l + 1 := ⟨L - 1, by omega⟩
    refine conv_ok2 hN hn hU he fun e' ee => ?_
    subst ee
    obtain ⟨L, rfl⟩ : ∃ l, L = l + 1 := ⟨L - 1, by omega⟩
    exact ⟨alike_ok hN (by omega) (conv_all hN hn hU e' L (by omega) (by omega)), conv_all hN hn hU e' (L + 1) (by omega) (by omega)⟩
end CONVM
