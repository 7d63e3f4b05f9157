-- INFER of the reference
section RSZ
variable {V : Nat → Prop} {Lc : Nat} {Lr : Nat → Prop} {α : mS} {Rl : mS → Nat → Nat → Prop}
theorem Rn_sz (hW : nWf V Lc Lr α) (hl : ∀ t r, V t → V r → uK α t < 6 → Rl α t r → uK α r < 6) : ∀ (n t r : Nat), V t → V r → Rn Rl α n t r → uB α r = uB α t ∧ uD α r = uD α t ∧ ∀ m q, SPn α m q t → SPn α m q r
  | 0, _, _, _, _, h => h.elim
  | n + 1, t, r, ht, hr, h => by
    rcases h with ⟨h1, h2⟩ | ⟨h1, h2, h3, h4, h5⟩
    · have hk := hl t r ht hr h1 h2
      obtain ⟨-, -, -, -, a, -⟩ := hW t ht
      obtain ⟨-, -, -, -, b, -⟩ := hW r hr
      have a := a h1
      have b := b hk
      refine ⟨by omega, by omega, fun m q _ => ?_⟩
      cases m with
      | zero => trivial
      | succ m => exact fun z => by omega
    · obtain ⟨-, -, -, -, -, a, -⟩ := hW t ht
      obtain ⟨-, -, -, -, -, b, -⟩ := hW r hr
      obtain ⟨a1, a2, a3, a4, a5⟩ := a h1
      obtain ⟨b1, b2, b3, b4, b5⟩ := b (by omega)
      obtain ⟨c1, c2, c3⟩ := Rn_sz hW hl n _ _ a1.2.2 b1.2.2 h3
      obtain ⟨d1, d2, d3⟩ := Rn_sz hW hl n _ _ a2.2.2 b2.2.2 h4
      rw [h2, c1, d1] at b4
      rw [h2, c2, d2] at b5
      by_cases h9 : uK α t = 9
      · obtain ⟨e1, e2, e3⟩ := Rn_sz hW hl n _ _ (a3 h9).2.2 (b3 (by omega)).2.2 (h5 h9)
        refine ⟨by rw [b4, e1, a4], by rw [b5, e2, a5], fun m q hs => ?_⟩
        cases m with
        | zero => trivial
        | succ m =>
          intro _
          obtain ⟨s1, s2⟩ := hs h1
          exact ⟨fun z => by omega, fun z => by
            obtain ⟨x, y, w⟩ := s2 (by omega)
            exact ⟨c3 m q x, d3 m q y, fun _ => e3 m q (w h9)⟩⟩
      · refine ⟨by rw [b4, a4]; exact bgf_9 h9, by rw [b5, a5]; exact dpf_9 h9, fun m q hs => ?_⟩
        cases m with
        | zero => trivial
        | succ m =>
          intro _
          obtain ⟨s1, s2⟩ := hs h1
          exact ⟨fun z => by
            obtain ⟨x, y, w⟩ := s1 (by omega)
            exact ⟨x, c3 m _ y, d3 m q w⟩, fun z => by
            obtain ⟨x, y, w⟩ := s2 (by omega)
            exact ⟨c3 m q x, d3 m q y, fun z9 => by omega⟩⟩
/-- leaves for leaves: the same SIZE and DEPTH -/
theorem Rs.sz {t r : Nat} (hW : nWf V Lc Lr α) (hl : ∀ t r, V t → V r → uK α t < 6 → Rl α t r → uK α r < 6) (ht : V t) (hr : V r) (h : Rs Rl α t r) : uB α r = uB α t ∧ uD α r = uD α t ∧ ∀ q, SP α q t → SP α q r := by
  obtain ⟨n, h⟩ := h
  obtain ⟨a, b, c⟩ := Rn_sz hW hl n t r ht hr h
  exact ⟨a, b, fun q hs m => c m q (hs m)⟩
theorem RLev.lf {t r : Nat} (h1 : uK α t < 6) (h : RLev α t r) : uK α r < 6 := by
  rcases h with rfl | h | h
  · exact h1
  · omega
  · omega
end RSZ
section INFER
variable {N : Nat} {W : Nat → Prop} {s Lc : Nat} {Lr : Nat → Prop} {U : Nat} {kk : (Int32 → Int32 → Int32 → mS → Option (kO × mS)) × (Int32 → Int32 → mS → Option (kO × mS)) × (Int32 → Int32 → mS → Option (kO × mS)) × (Int32 → Int32 → mS → Option (kO × mS))}
def IQ (W : Nat → Prop) (s Lc : Nat) (Lr : Nat → Prop) (U t0 : Nat) (α : mS) (w n : Nat) (x : Int32) (β : mS) : Prop := ∃ r t1 w1 n1, x = nI r ∧ QI W s Lc Lr U t0 α w n t1 w1 n1 β ∧ vd W s t1 r ∧ fit β r
theorem IQ.of {t0 t1 w n w1 n1 : Nat} {α β γ : mS} {x : Int32} (h : QI W s Lc Lr U t0 α w n t1 w1 n1 β) (h' : IQ W s Lc Lr U t1 β w1 n1 x γ) : IQ W s Lc Lr U t0 α w n x γ := by
  obtain ⟨r, t2, w2, n2, e, q, a, b⟩ := h'
  exact ⟨r, t2, w2, n2, e, h.tr q, a, b⟩
def InS (W : Nat → Prop) (s Lc : Nat) (Lr : Nat → Prop) (U e : Nat) (f : Int32 → Int32 → mS → Option (kO × mS)) : Prop := ∀ (t0 t w n : Nat) (α : mS), IS W s Lc Lr U t0 α w n → vd W s t0 t → fit α t → AX W s t0 α n t → rI (f (nI t) (nI (151 - e)) α) (IQ W s Lc Lr U t0 α w n) (XI W s t0 α)
def SoS (W : Nat → Prop) (s Lc : Nat) (Lr : Nat → Prop) (U e : Nat) (f : Int32 → Int32 → mS → Option (kO × mS)) : Prop := ∀ (t0 t w n : Nat) (α : mS), IS W s Lc Lr U t0 α w n → vd W s t0 t → fit α t → AX W s t0 α n t → rI (f (nI t) (nI (151 - e)) α) (CQ W s Lc Lr U t0 α w n) (XI W s t0 α)
def ChS (W : Nat → Prop) (s Lc : Nat) (Lr : Nat → Prop) (U e : Nat) (f : Int32 → Int32 → Int32 → mS → Option (kO × mS)) : Prop := ∀ (t0 t a w n : Nat) (α : mS), IS W s Lc Lr U t0 α w n → vd W s t0 t → fit α t → AX W s t0 α n t → vd W s t0 a → fit α a → rV (f (nI t) (nI a) (nI (151 - e)) α) (CQ W s Lc Lr U t0 α w n 0) (XI W s t0 α)
theorem up151 {e : Nat} (he : e ≤ 150) : nI (151 - (e + 1)) + 1 = nI (151 - e) := by rw [nI_1, show 151 - (e + 1) + 1 = 151 - e by omega]
theorem sortOf_ok {e : Nat} (hN : 400000 < N) (hn : nrm W s) (he : e ≤ 150) (hk : InS W s Lc Lr U e kk.2.1) : SoS W s Lc Lr U (e + 1) (f_Mod_sortOf N kk) := by
  intro t0 t w n α h ht hf ha
  unfold f_Mod_sortOf
  rw [up151 he]
  refine (hk t0 t w n α h ht hf ha).bi (fun v β q => ?_) (fun _ q => q)
  obtain ⟨r, t1, w1, n1, rfl, q1, q2, q3⟩ := q
  refine (whnf_i hN hn q1.is q2 q3).bi (fun v γ u => ?_) (fun γ u => q1.tx u)
  obtain ⟨a, t2, w2, rfl, u1, u2, u3, -⟩ := u
  have hW := u1.is.1.1.2.2.2
  rw [hW.cl u2]
  refine rI.ix (hW.ix u2) (rI.ite (fun _ => rI.ix (hW.ix u2) (rI.ret ⟨_, _, _, q1.tr u1⟩)) fun _ => rI.thr ((q1.tr u1).tx thr_i))
theorem check_ok2 {e : Nat} (hN : 400000 < N) (hn : nrm W s) (hU : U < 5999) (he : e ≤ 150) (hk : InS W s Lc Lr U e kk.2.1) : ChS W s Lc Lr U (e + 1) (f_Mod_check N kk) := by
  intro t0 t a w n α h ht hf ha hva hfa
  unfold f_Mod_check
  rw [up151 he]
  refine (hk t0 t w n α h ht hf ha).bv (fun v β q => ?_) (fun _ q => q)
  obtain ⟨r, t1, w1, n1, rfl, q1, q2, q3⟩ := q
  refine (conv_all hN hn hU 120 dp_alike (by decide) (by decide) t1 r a w1 n1 β q1.is q2 (q1.v hva) q3 (q1.ft hva hfa)).bv (fun v γ u => ?_) (fun γ u => q1.tx u)
  obtain ⟨t2, w2, n2, u⟩ := u
  exact rV.ite (fun _ => rV.thr ((q1.tr u).tx thr_i)) fun _ => rV.ret ⟨_, _, _, q1.tr u⟩
theorem infa_23 {e t b : Nat} (hN : 400000 < N) (hn : nrm W s) (hU : U < 5999) (he : e ≤ 150) (hc : ChS W s Lc Lr U (e + 1) kk.1) : ∀ (d i ty nn t0 w n : Nat) (α : mS), i + d = b → d < nn → IS W s Lc Lr U t0 α w n → vd W s t0 t → fit α t → AX W s t0 α n t → apn α b t → vd W s t0 ty → fit α ty → rI (f_Mod_inferApplied_23 N kk nn (nI i) (nI ty) (nI b) (nI t) (nI (151 - (e + 1))) α) (IQ W s Lc Lr U t0 α w n) (XI W s t0 α)
  | 0, i, ty, nn, t0, w, n, α, hd, hm, h, ht, hf, ha, hap, hty, hft => by
    obtain ⟨nn, rfl⟩ : ∃ n', nn = n' + 1 := ⟨nn - 1, by omega⟩
    have l := (itr_v h.1.1.2.2.2 ht b hap).2
    have t4 := (h.1.1.nw ht).1
    rw [f_Mod_inferApplied_23, if_pos (nI_le (by omega) (by omega))]
    exact rI.ret ⟨ty, t0, w, n, rfl, QI.rf h, hty, hft⟩
  | d + 1, i, ty, nn, t0, w, n, α, hd, hm, h, ht, hf, ha, hap, hty, hft => by
    obtain ⟨nn, rfl⟩ : ∃ n', nn = n' + 1 := ⟨nn - 1, by omega⟩
    have l := (itr_v h.1.1.2.2.2 ht b hap).2
    have t4 := (h.1.1.nw ht).1
    rw [f_Mod_inferApplied_23, if_neg (nI_ge (by omega) (by omega))]
    obtain ⟨a, ea, ea2, va, -⟩ := nth_m hN h.1.1.2.2.2 ht hap (show i < b by omega)
    have a1 : apn α (b - 1 - i) t := fun j hj => hap j (by omega)
    have a6 : 6 ≤ uK α (itr α (b - 1 - i) t) := by rw [hap (b - 1 - i) (by omega)]; decide
    have fa : fit α a := by rw [ea2]; exact ((fit.itr h.1.1.2.2.2 ht hf _ a1).p h.1.1.2.2.2 (itr_v h.1.1.2.2.2 ht _ a1).1 a6).2.1
    have aa : AX W s t0 α n a := by rw [ea2]; exact ((show AX W s t0 α n _ from ⟨ha.1.itr h.1.1.2.2.2 _ a1, ha.2.itr _ a1⟩).p a6).2.1
    refine rI.ob ea ((whnf_i hN hn h hty hft).bi (fun v β q => ?_) (fun _ q => q))
    obtain ⟨p, t1, w1, rfl, q1, q2, q3, -⟩ := q
    have hW := q1.is.1.1.2.2.2
    have ix := hW.ix q2
    rw [hW.cl q2]
    refine rI.ix ix (rI.ite (fun k6 => rI.ix ix ?_) fun _ => rI.thr (q1.tx thr_i))
    have k6 : uK β p = 6 := (hW.is q2 (m := 6) (by decide)).mp k6
    have p3 := hW.p3 q2 (by omega)
    have p4 := hW.p4 q2 (by omega)
    have fp := q3.p hW q2 (by omega)
    rw [p3.1]
    refine (hc t1 a _ w1 n β q1.is (q1.v va) (q1.ft va fa) (q1.aln h va aa) p3.2.2 fp.1).bi (fun γ u => ?_) (fun γ u => q1.tx u)
    obtain ⟨t2, w2, n2, u⟩ := u
    have q5 := q1.tr u
    refine rI.ix ix ?_
    rw [u.2.2.1 p q2 4 (by decide) (by decide), p4.1]
    refine (open_ok (U := U) hN hn (u.is.up (by omega) (by omega)) (u.v p4.2.2) (q5.v va) (u.ft p4.2.2 fp.2.1)).bi (fun v δ y => ?_) (fun γ u => q5.tx u)
    obtain ⟨r, t3, w3, rfl, y1, y2, y3, y4, -⟩ := y
    have q6 := q5.tr y1
    rw [nI_1]
    exact (infa_23 hN hn hU he hc d (i + 1) r nn t3 w3 n2 δ (by omega) (by omega) y1.is (q6.v ht) (q6.ft ht hf) (q6.aln h ht ha) (apn_sn h.1.1.2.2.2 q6.2.2.1 ht hap) y3 y4).mono (fun v ε z => IQ.of q6 z) (fun ε z => q6.tx z)
theorem infa_ok {e : Nat} (hN : 400000 < N) (hn : nrm W s) (hU : U < 5999) (he : e ≤ 150) (hk : InS W s Lc Lr U e kk.2.1) (hc : ChS W s Lc Lr U (e + 1) kk.1) : InS W s Lc Lr U (e + 1) (f_Mod_inferApplied N kk) := by
  intro t0 t w n α h ht hf ha
  have hW := h.1.1.2.2.2
  obtain ⟨b, a1, a2, a3, a4, a5, a6⟩ := head_m hN hW ht
  unfold f_Mod_inferApplied
  rw [up151 he]
  refine rI.ob a4 (rI.ob a3 ((hk t0 _ w n α h a5 (fit.itr hW ht hf b a1) ⟨ha.1.itr hW b a1, ha.2.itr b a1⟩).bi (fun v β q => ?_) (fun _ q => q)))
  obtain ⟨r, t1, w1, n1, rfl, q1, q2, q3⟩ := q
  exact (infa_23 hN hn hU he hc b 0 r N t1 w1 n1 β (by omega) (by omega) q1.is (q1.v ht) (q1.ft ht hf) (q1.aln h ht ha) (apn_sn hW q1.2.2.1 ht a1) q2 q3).mono (fun v ε z => IQ.of q1 z) (fun ε z => q1.tx z)
/-- a new leaf -/
theorem leaf_q {k t0 w n : Nat} {a b c : Int32} {α : mS} (hn : nrm W s) (h : IS W s Lc Lr U t0 α w n) (hk : k < 6) (h1 : k = 1 → ∃ j, a = nI j ∧ j < Lc ∧ j < 2 ^ 31) (h2 : k = 2 → ∃ j, a = nI j ∧ Lr j ∧ j < 2 ^ 31) (h5 : k = 5 → ∃ j, a = nI j ∧ j < 2 ^ 31) : rI (f_Mod_node N (nI k) a b c α) (fun x β => ∃ r t1, x = nI r ∧ QI W s Lc Lr U t0 α w n t1 w n β ∧ vd W s t1 r ∧ fit β r ∧ uK β r = k ∧ β.2 3 r = a) (XI W s t0 α) := by
  refine (node_w (k := k) h.1.1 hn.f (fun z => z) (by omega) (fun z => absurd z (by omega)) h1 h2 h5).mono (fun v β q => ?_) (fun β q => mch_i q (by decide))
  obtain ⟨rfl, q1, q2, q3, q4, q5, q6, -⟩ := q
  have v0 : vd W s (t0 + 1) t0 := Or.inr ⟨h.1.1.2.1, by omega⟩
  obtain ⟨-, -, -, -, fl, -⟩ := q2.nw v0
  obtain ⟨fb, fd⟩ := fl (by omega)
  exact ⟨t0, t0 + 1, rfl, h.qn (I := [10]) (r := t0) ⟨by omega, q2, q3.mo (fun _ z => z) (by decide), q4, v0⟩ (by decide), v0, ⟨by omega, by omega⟩, q5, q6⟩
theorem sort_q {t0 w n : Nat} {a : Int32} {α : mS} (hn : nrm W s) (h : IS W s Lc Lr U t0 α w n) : rI (f_Mod_sort N a α) (fun x β => ∃ r t1, x = nI r ∧ QI W s Lc Lr U t0 α w n t1 w n β ∧ vd W s t1 r ∧ fit β r ∧ uK β r = 0 ∧ β.2 3 r = a) (XI W s t0 α) := by
  unfold f_Mod_sort
  exact (leaf_q (k := 0) hn h (by decide) (fun z => absurd z (by decide)) (fun z => absurd z (by decide)) (fun z => absurd z (by decide))).end
/-- a new PI or LAM -/
theorem bnd_q {k x y t0 w n : Nat} {α : mS} (hn : nrm W s) (h : IS W s Lc Lr U t0 α w n) (hk : k = 6 ∨ k = 7) (hx : vd W s t0 x) (hy : vd W s t0 y) : rI (f_Mod_node N (nI k) (nI x) (nI y) 0 α) (fun v β => ∃ r t1, v = nI r ∧ QI W s Lc Lr U t0 α w n t1 w n β ∧ vd W s t1 r ∧ (uK β r = k ∧ uA β r = x ∧ uC β r = y) ∧ ∀ S, AL S α x → AL S α y → AL S β r) (XI W s t0 α) := by
  have hP := h.1.1
  refine (node_w (k := k) hP hn.f (fun z => z) (by omega) (fun _ => ⟨x, y, rfl, rfl, ⟨hx, hn.lt hP hx⟩, ⟨hy, hn.lt hP hy⟩, fun z => by omega⟩) (fun z => by omega) (fun z => by omega) (fun z => by omega)).mono (fun v β q => ?_) (fun β q => mch_i q (by decide))
  obtain ⟨rfl, q1, q2, q3, q4, q5, q6, q7, -⟩ := q
  have v0 : vd W s (t0 + 1) t0 := Or.inr ⟨h.1.1.2.1, by omega⟩
  have x4 := (hP.nw hx).1
  have y4 := (hP.nw hy).1
  have ea : uA β t0 = x := by unfold uA; rw [q6, nI_clamp (by omega)]
  have ec : uC β t0 = y := by unfold uC; rw [q7, nI_clamp (by omega)]
  refine ⟨t0, t0 + 1, rfl, h.qn (I := [10]) (r := t0) ⟨by omega, q2, q3.mo (fun _ z => z) (by decide), q4, v0⟩ (by decide), v0, ⟨q5, ea, ec⟩, fun S hx' hy' => AL.mk (by omega) ?_ ?_ (fun z => by omega)⟩
  · rw [ea]; exact hx'.sn hP.2.2.2 q4 hx
  · rw [ec]; exact hy'.sn hP.2.2.2 q4 hy
theorem infer_ok2 {e : Nat} (hN : 400000 < N) (hn : nrm W s) (hU : U < 5999) (he : e ≤ 151) (hk : ∀ e', e = e' + 1 → InS W s Lc Lr U e' kk.2.1 ∧ InS W s Lc Lr U (e' + 1) kk.2.2.1 ∧ SoS W s Lc Lr U (e' + 1) kk.2.2.2 ∧ ChS W s Lc Lr U (e' + 1) kk.1) : InS W s Lc Lr U e (f_Mod_infer N kk) := by
  intro t0 t w n α h ht hf ha
  have hW := h.1.1.2.2.2
  unfold f_Mod_infer
  refine rI.ite (fun c => ?_) fun _ => rI.thr thr_i
  have he0 : 151 - e ≤ 150 := Nat.not_lt.mp fun z => absurd c (nI_ge (a := 150) z (by omega))
  obtain ⟨e', rfl⟩ : ∃ e', e = e' + 1 := ⟨e - 1, by omega⟩
  obtain ⟨hk1, hk2, hk3, hk4⟩ := hk e' rfl
  have ix := hW.ix ht
  have app := (hk2 t0 t w n α h ht hf ha).end
  have j155 : uK α t = 2 → rI (f_Mod_infer_j155 N kk (nI t) α) (IQ W s Lc Lr U t0 α w n) (XI W s t0 α) := fun k2 => by
    obtain ⟨-, -, -, -, -, -, -, a8, -⟩ := hW t ht
    obtain ⟨eK, hK⟩ := a8 k2
    obtain ⟨⟨hLc, hLr⟩, en1, en2⟩ := h.1.2.1
    have hK3 := hLr _ hK
    obtain ⟨-, rr, err, vrr, crr, frr⟩ := en2 _ hK
    unfold f_Mod_infer_j155
    rw [hW.cl ht, eK, nI_clamp (show uA α t < 2 ^ 31 by omega), err]
    refine rI.ix ix (rI.ix (mix' (show uA α t < 301 by omega) (by decide)) (rI.ix ix ?_))
    obtain ⟨d1, d2⟩ := frr.sp h.1.1 (Or.inl vrr)
    refine (leveled_ok hN hn h.1.1 (Or.inl vrr) d1 d2).bi (fun v β u => ?_) (fun β u => u.xn.xi (by decide))
    obtain ⟨x, t2, rfl, u1, u2⟩ := u.qn
    have q := h.qn u1 (fun _ z => z)
    have hW2 := u1.2.1.2.2.2
    have vx := u1.2.2.2.2
    obtain ⟨z1, z2, -⟩ := u2.sz hW2 (fun t r _ _ h1 h2 => RLev.lf h1 h2) (Or.inl vrr) vx
    have fx : fit β x := by
      have := frr.sn u1.2.2.2.1 (Or.inl vrr)
      exact ⟨by rw [z1]; exact this.1, by rw [z2]; exact this.2⟩
    obtain ⟨-, -, ⟨b1, b2, b3⟩, -⟩ := u1.2.1.nw vx
    rw [hW2.cl vx, b1]
    refine rI.ix (hW2.ix vx) ((costs_i (U' := U) q.is b3 (Or.inl rfl) h.2.1.2.2).bi (fun γ y => ?_) (fun γ y => q.tx y))
    exact rI.ret ⟨x, t2, _, n, rfl, q.tr y.1, vx, fx.sn y.2 trivial⟩
  rw [hW.cl ht]
  refine rI.ix ix (rI.ite (fun k0 => rI.ix ix (rI.ite (fun _ => rI.thr thr_i) fun _ => rI.ix ix ?_)) fun _ => rI.ite (fun k1 => rI.ix ix ?_) fun _ => rI.ite (fun k2 => rI.ix ix ?_) fun _ => rI.ite (fun k3 => rI.ix ix ?_) fun _ => rI.ite (fun _ => app) fun _ => rI.ite (fun _ => app) fun _ => rI.ite (fun k6 => rI.ix ix ?_) fun _ => rI.ite (fun k7 => rI.ix ix ?_) fun _ => rI.ite (fun _ => app) fun _ => rI.ite (fun k9 => rI.ix ix ?_) fun _ => app)
  · refine ((sort_q hn h).mono (fun v β q => ?_) (fun _ q => q)).end
    obtain ⟨r, t1, e1, q1, q2, q3, -⟩ := q
    exact ⟨r, t1, w, n, e1, q1, q2, q3⟩
  · have k1 : uK α t = 1 := (hW.is ht (m := 1) (by decide)).mp k1
    obtain ⟨-, -, -, -, -, -, a7, -, -⟩ := hW t ht
    obtain ⟨ej, hj⟩ := a7 k1
    have hLc := h.1.2.1.1.1
    rw [ej, nI_clamp (show uA α t < 2 ^ 31 by omega)]
    obtain ⟨v, e1, v1, f1⟩ := ha.2.f1 k1
    refine rI.ix (mix' (show uA α t < 301 by omega) (by decide)) ?_
    rw [e1]
    exact rI.ret ⟨v, t0, w, n, rfl, QI.rf h, v1, f1⟩
  · have k2 : uK α t = 2 := (hW.is ht (m := 2) (by decide)).mp k2
    obtain ⟨-, -, -, -, -, -, -, a8, -⟩ := hW t ht
    obtain ⟨eK, hK⟩ := a8 k2
    have hK3 := h.1.2.1.1.2 _ hK
    rw [eK, nI_clamp (show uA α t < 2 ^ 31 by omega)]
    exact rI.ite (fun _ => j155 k2) fun _ => rI.ix ix (rI.ix (mix' (show uA α t < 301 by omega) (by decide)) (rI.ite (fun _ => rI.thr thr_i) fun _ => j155 k2))
  · have k3 : uK α t = 3 := (hW.is ht (m := 3) (by decide)).mp k3
    obtain ⟨v, ev, v6, -, vn⟩ := ha.1.f3 k3
    rw [ev, nI_clamp (show v < 2 ^ 31 by omega)]
    obtain ⟨y, e1, v1, f1⟩ := vn
    refine rI.ix (mix' v6 (by decide)) ?_
    rw [e1]
    exact rI.ret ⟨y, t0, w, n, rfl, QI.rf h, v1, f1⟩
  · have k6 : uK α t = 6 := (hW.is ht (m := 6) (by decide)).mp k6
    have p3 := hW.p3 ht (by omega)
    have p4 := hW.p4 ht (by omega)
    have fp := hf.p hW ht (by omega)
    have ap := ha.p (by omega)
    rw [p3.1]
    refine (hk3 t0 _ w n α h p3.2.2 fp.1 ap.1).bi (fun v β q => ?_) (fun _ q => q)
    obtain ⟨t1, w1, n1, q⟩ := q
    refine rI.ix ix (rI.ix ix ?_)
    rw [q.2.2.1 t ht 3 (by decide) (by decide), p3.1, q.2.2.1 t ht 4 (by decide) (by decide), p4.1]
    refine (fresh_ok hn q.is (by omega) (q.v p3.2.2) (q.ft p3.2.2 fp.1)).bi (fun v γ u => ?_) (fun γ u => q.tx u)
    obtain ⟨r, t2, rfl, u1, u2, u3, ⟨u4, u5⟩, u6, u7⟩ := u
    have q2 := q.tr u1
    refine (open_ok hN hn u1.is (q2.v p4.2.2) u2 (q2.ft p4.2.2 fp.2.1)).bi (fun v δ y => ?_) (fun γ u => q2.tx u)
    obtain ⟨r1, t3, w3, rfl, y1, y2, y3, y4, y6, y5⟩ := y
    have q3 := q2.tr y1
    have ar1 : AX W s t3 δ (n1 + 1) r1 := by
      have aq := q3.aln h p4.2.2 ap.2.1
      have lvn : lvm W s t3 δ (n1 + 1) n1 := lvm.qi y1 ⟨Nat.lt_succ_self _, _, u7, (q2.v p3.2.2), q2.ft p3.2.2 fp.1⟩
      exact ⟨y5 _ (AL.lf (by omega) (fun _ => ⟨n1, u5, u6, lvn⟩) (by omega)) ((q2.al h p4.2.2 ap.2.1.1).su fun _ z => z.qi q3), AC.put y1.is.1.1.2.2.2 (y1.v (q2.v p4.2.2)) y3 y6 (AC.lf (by rw [y1.2.2.1.k u2]; omega) fun z => by rw [y1.2.2.1.k u2] at z; omega) aq.2⟩
    refine (hk3 t3 r1 w3 (n1 + 1) δ y1.is y3 y4 ar1).bi (fun v ε z => ?_) (fun γ u => q3.tx u)
    obtain ⟨t4, w4, n4, z⟩ := z
    have q4 := q3.tr z
    have fin : ∀ a, rI (mBi (f_Mod_sort N a ε) fun v ζ => some (some (some v), ζ)) (IQ W s Lc Lr U t0 α w n) (XI W s t0 α) := fun a => by
      refine ((sort_q hn z.is).mono (fun v ζ x => ?_) (fun ζ x => q4.tx x)).end
      obtain ⟨r, t5, e1, x1, x2, x3, -⟩ := x
      exact ⟨r, t5, w4, n4, e1, q4.tr x1, x2, x3⟩
    exact rI.ite (fun _ => fin _) fun _ => fin _
  · have k7 : uK α t = 7 := (hW.is ht (m := 7) (by decide)).mp k7
    have p3 := hW.p3 ht (by omega)
    have p4 := hW.p4 ht (by omega)
    have fp := hf.p hW ht (by omega)
    have ap := ha.p (by omega)
    rw [p3.1]
    refine (hk3 t0 _ w n α h p3.2.2 fp.1 ap.1).bi (fun v β q => ?_) (fun _ q => q)
    obtain ⟨t1, w1, n1, q⟩ := q
    refine rI.ix ix ?_
    rw [q.2.2.1 t ht 3 (by decide) (by decide), p3.1]
    refine (fresh_ok hn q.is (by omega) (q.v p3.2.2) (q.ft p3.2.2 fp.1)).bi (fun v γ u => ?_) (fun γ u => q.tx u)
    obtain ⟨r, t2, rfl, u1, u2, u3, ⟨u4, u5⟩, u6, u7⟩ := u
    have q2 := q.tr u1
    refine rI.ix ix ?_
    rw [q2.2.2.1 t ht 4 (by decide) (by decide), p4.1]
    refine (open_ok hN hn u1.is (q2.v p4.2.2) u2 (q2.ft p4.2.2 fp.2.1)).bi (fun v δ y => ?_) (fun γ u => q2.tx u)
    obtain ⟨r1, t3, w3, rfl, y1, y2, y3, y4, y6, y5⟩ := y
    have q3 := q2.tr y1
    have ar1 : AX W s t3 δ (n1 + 1) r1 := by
      have aq := q3.aln h p4.2.2 ap.2.1
      have lvn : lvm W s t3 δ (n1 + 1) n1 := lvm.qi y1 ⟨Nat.lt_succ_self _, _, u7, (q2.v p3.2.2), q2.ft p3.2.2 fp.1⟩
      exact ⟨y5 _ (AL.lf (by omega) (fun _ => ⟨n1, u5, u6, lvn⟩) (by omega)) ((q2.al h p4.2.2 ap.2.1.1).su fun _ z => z.qi q3), AC.put y1.is.1.1.2.2.2 (y1.v (q2.v p4.2.2)) y3 y6 (AC.lf (by rw [y1.2.2.1.k u2]; omega) fun z => by rw [y1.2.2.1.k u2] at z; omega) aq.2⟩
    rw [up151 (by omega)]
    refine (hk1 t3 r1 w3 (n1 + 1) δ y1.is y3 y4 ar1).bi (fun v ε z => ?_) (fun γ u => q3.tx u)
    obtain ⟨b, t4, w4, n4, rfl, z1, z2, z3⟩ := z
    have q4 := q3.tr z1
    have vr := (y1.tr z1).v u2
    refine rI.ix ix (rI.ix (by rw [z1.is.1.1.2.2.2.cl vr]; exact z1.is.1.1.2.2.2.ix vr) ?_)
    rw [q4.2.2.1 t ht 3 (by decide) (by decide), p3.1]
    refine (close_ok hN hn z1.is (by omega) z2 z3).bi (fun v ζ x => ?_) (fun γ u => q4.tx u)
    obtain ⟨c, t5, w5, rfl, x1, x2, x3, -⟩ := x
    have q5 := q4.tr x1
    refine (bnd_q (k := 6) hn x1.is (Or.inl rfl) (q5.v p3.2.2) x2).bi (fun v η g => ?_) (fun γ u => q5.tx u)
    obtain ⟨r6, t6, rfl, g1, g2, -⟩ := g
    have q6 := q5.tr g1
    refine ((fits_ok g1.is.1.1 g2).mono (fun v θ l => ?_) (fun θ l => q6.tx (mch_i l (by decide)))).end
    obtain ⟨rfl, rfl, l1⟩ := l
    exact ⟨r6, t6, w5, n4, rfl, q6, g2, l1⟩
  · have k9 : uK α t = 9 := (hW.is ht (m := 9) (by decide)).mp k9
    have p3 := hW.p3 ht (by omega)
    have p4 := hW.p4 ht (by omega)
    have p5 := hW.p5 ht k9
    have fp := hf.p hW ht (by omega)
    have ap := ha.p (by omega)
    rw [p3.1]
    refine (hk3 t0 _ w n α h p3.2.2 fp.1 ap.1).bi (fun v β q => ?_) (fun _ q => q)
    obtain ⟨t1, w1, n1, q⟩ := q
    refine rI.ix ix (rI.ix ix ?_)
    rw [q.2.2.1 t ht 3 (by decide) (by decide), p3.1, q.2.2.1 t ht 4 (by decide) (by decide), p4.1]
    refine (hk4 t1 _ _ w1 n1 β q.is (q.v p4.2.2) (q.ft p4.2.2 fp.2.1) (q.aln h p4.2.2 ap.2.1) (q.v p3.2.2) (q.ft p3.2.2 fp.1)).bi (fun γ u => ?_) (fun γ u => q.tx u)
    obtain ⟨t2, w2, n2, u⟩ := u
    have q2 := q.tr u
    refine rI.ix ix (rI.ix ix ?_)
    rw [q2.2.2.1 t ht 5 (by decide) (by decide), p5.1, q2.2.2.1 t ht 4 (by decide) (by decide), p4.1]
    refine (open_ok (U := U) hN hn (u.is.up (by omega) (by omega)) (q2.v p5.2.2) (q2.v p4.2.2) (q2.ft p5.2.2 (fp.2.2 k9))).bi (fun v δ y => ?_) (fun γ u => q2.tx u)
    obtain ⟨r1, t3, w3, rfl, y1, y2, y3, y4, y6, y5⟩ := y
    have q3 := q2.tr y1
    rw [up151 (by omega)]
    exact ((hk1 t3 r1 w3 n2 δ y1.is y3 y4 ⟨y5 _ ((q2.al h p4.2.2 ap.2.1.1).su fun _ z => z.qi q3) ((q2.al h p5.2.2 (ap.2.2 k9).1).su fun _ z => z.qi q3), AC.put y1.is.1.1.2.2.2 (y1.v (q2.v p5.2.2)) y3 y6 (q3.aln h p4.2.2 ap.2.1).2 (q3.aln h p5.2.2 (ap.2.2 k9)).2⟩).mono (fun v ε z => IQ.of q3 z) (fun ε z => q3.tx z)).end
/-- INFER ends -/
theorem infer_all (hN : 400000 < N) (hn : nrm W s) (hU : U < 5999) : ∀ (e L : Nat), e ≤ 151 → 3 * e + 1 ≤ L → InS W s Lc Lr U e (G_check N L).2.1
  | e, L, he, hL => by
    obtain ⟨L, rfl⟩ : ∃ l, L = l + 1 := ⟨L - 1, by omega⟩
    refine infer_ok2 hN hn hU he fun e' ee => ?_
    subst ee
    obtain ⟨L, rfl⟩ : ∃ l, L = l + 2 := ⟨L - 2, by omega⟩
    have i1 := infer_all hN hn hU e' (L + 1) (by omega) (by omega)
    have i0 := infer_all hN hn hU e' L (by omega) (by omega)
    exact ⟨infer_all hN hn hU e' (L + 2) (by omega) (by omega), infa_ok hN hn hU (by omega) i1 (check_ok2 hN hn hU (by omega) i0), sortOf_ok hN hn (by omega) i1, check_ok2 hN hn hU (by omega) i1⟩
theorem sortOf_all (hN : 400000 < N) (hn : nrm W s) (hU : U < 5999) : SoS W s Lc Lr U 151 (G_check N dp_check).2.2.2 := sortOf_ok hN hn (by decide) (infer_all hN hn hU 150 479 (by decide) (by decide))
theorem check_all (hN : 400000 < N) (hn : nrm W s) (hU : U < 5999) : ChS W s Lc Lr U 151 (G_check N dp_check).1 := check_ok2 hN hn hU (by decide) (infer_all hN hn hU 150 479 (by decide) (by decide))
end INFER
