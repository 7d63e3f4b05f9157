-- VARIABLES of the reference: fresh, open, close
abbrev inI : List Nat := [10, 11, 12, 13, 14, 22, 23, 24]
abbrev inX : List Nat := [10, 11, 12, 13, 14, 22, 23, 24, 100, 101]
abbrev inR : List Nat := [2, 3, 4, 5, 6, 7, 8, 32]
/-- w of WORK is done, n VARIABLES stand; U of them were free -/
def IS (W : Nat → Prop) (s Lc : Nat) (Lr : Nat → Prop) (U t : Nat) (α : mS) (w n : Nat) : Prop := WS W s Lc Lr t α w ∧ (α.1 23 = nI n ∧ n ≤ w + U ∧ U ≤ 6000) ∧ α.1 24 = nI 0
def QI (W : Nat → Prop) (s Lc : Nat) (Lr : Nat → Prop) (U t0 : Nat) (α : mS) (w n t1 w' n' : Nat) (β : mS) : Prop := t0 ≤ t1 ∧ mch inI inR α β ∧ sN (vd W s t0) α β ∧ IS W s Lc Lr U t1 β w' n' ∧ w ≤ w' ∧ n ≤ n' ∧ ∀ i, i < n → β.2 32 i = α.2 32 i
abbrev XI (W : Nat → Prop) (s t0 : Nat) (α β : mS) : Prop := mch inX inR α β ∧ sN (vd W s t0) α β
/-- the type of the VARIABLE i, of the CONSTANT j, stands -/
def lvm (W : Nat → Prop) (s t : Nat) (α : mS) (n i : Nat) : Prop := i < n ∧ ∃ v, α.2 32 i = nI v ∧ vd W s t v ∧ fit α v
def tcm (W : Nat → Prop) (s t : Nat) (α : mS) (j : Nat) : Prop := ∃ v, α.2 13 j = nI v ∧ vd W s t v ∧ fit α v
/-- the types of all that t names stand -/
def AX (W : Nat → Prop) (s t : Nat) (α : mS) (n x : Nat) : Prop := AL (lvm W s t α n) α x ∧ AC (tcm W s t α) α x
section VARS
variable {N : Nat} {W : Nat → Prop} {s Lc : Nat} {Lr : Nat → Prop} {U U' t0 t1 t2 w w1 w2 n n1 n2 : Nat} {α β γ : mS}
theorem QI.tr (h : QI W s Lc Lr U t0 α w n t1 w1 n1 β) (h' : QI W s Lc Lr U' t1 β w1 n1 t2 w2 n2 γ) : QI W s Lc Lr U' t0 α w n t2 w2 n2 γ :=
  ⟨Nat.le_trans h.1 h'.1, h.2.1.tr h'.2.1, h.2.2.1.tr (h'.2.2.1.su fun _ z => z.up h.1), h'.2.2.2.1, Nat.le_trans h.2.2.2.2.1 h'.2.2.2.2.1, Nat.le_trans h.2.2.2.2.2.1 h'.2.2.2.2.2.1, fun i hi => (h'.2.2.2.2.2.2 i (Nat.lt_of_lt_of_le hi h.2.2.2.2.2.1)).trans (h.2.2.2.2.2.2 i hi)⟩
theorem QI.tx (h : QI W s Lc Lr U t0 α w n t1 w1 n1 β) (h' : XI W s t1 β γ) : XI W s t0 α γ := ⟨(h.2.1.mo (by decide) (fun _ z => z)).tr h'.1, h.2.2.1.tr (h'.2.su fun _ z => z.up h.1)⟩
theorem QI.rf (h : IS W s Lc Lr U t0 α w n) : QI W s Lc Lr U t0 α w n t0 w n α := ⟨Nat.le_refl _, mch.rf, sN.rf, h, Nat.le_refl _, Nat.le_refl _, fun _ _ => rfl⟩
theorem QI.is (h : QI W s Lc Lr U t0 α w n t1 w1 n1 β) : IS W s Lc Lr U t1 β w1 n1 := h.2.2.2.1
theorem QI.al {S : Nat → Prop} {x : Nat} (h : QI W s Lc Lr U t0 α w n t1 w1 n1 β) (h0 : IS W s Lc Lr U' t0 α w n) (hx : vd W s t0 x) (ha : AL S α x) : AL S β x := ha.sn h0.1.1.2.2.2 h.2.2.1 hx
theorem QI.v {x : Nat} (h : QI W s Lc Lr U t0 α w n t1 w1 n1 β) (hx : vd W s t0 x) : vd W s t1 x := hx.up h.1
theorem QI.ft {x : Nat} (h : QI W s Lc Lr U t0 α w n t1 w1 n1 β) (hx : vd W s t0 x) (hf : fit α x) : fit β x := hf.sn h.2.2.1 hx
theorem IS.up (h : IS W s Lc Lr U t0 α w n) (hU : U ≤ U') (h6 : U' ≤ 6000) : IS W s Lc Lr U' t0 α w n := ⟨h.1, ⟨h.2.1.1, by have := h.2.1.2; omega, h6⟩, h.2.2⟩
/-- nodes were made, WORK was done -/
theorem IS.wq {I : List Nat} {r : Nat} (h : IS W s Lc Lr U t0 α w n) (q : QN W s Lc Lr I t0 α r t1 β) (hI : ∀ i, i ∈ I → i ∈ whI) (hw : WS W s Lc Lr t1 β w1) (hl : w ≤ w1) (hm : β.1 24 = α.1 24) : QI W s Lc Lr U t0 α w n t1 w1 n β := by
  have hc : mch whI mpR α β := q.2.2.1.mo hI (fun _ z => z)
  exact ⟨q.1, hc.mo (by decide) (by decide), q.2.2.2.1, ⟨hw, ⟨(hc.int (by decide)).trans h.2.1.1, by have := h.2.1.2.1; omega, h.2.1.2.2⟩, hm.trans h.2.2⟩, hl, Nat.le_refl _, fun i _ => by rw [hc.arr (by decide)]⟩
theorem IS.qn {I : List Nat} {r : Nat} (h : IS W s Lc Lr U t0 α w n) (q : QN W s Lc Lr I t0 α r t1 β) (hI : ∀ i, i ∈ I → i ∈ mI5) : QI W s Lc Lr U t0 α w n t1 w n β :=
  h.wq q (fun i hi => (by decide : ∀ i, i ∈ mI5 → i ∈ whI) i (hI i hi)) (h.1.qn q (fun z => absurd (hI 22 z) (by decide))) (Nat.le_refl _) (q.2.2.1.int fun z => absurd (hI 24 z) (by decide))
theorem XN.xi {I : List Nat} (h : XN W s I t0 α β) (hI : ∀ i, i ∈ I → i ∈ inX) : XI W s t0 α β := ⟨h.1.mo hI (by decide), h.2⟩
theorem thr_i {x y : Int32} : XI W s t0 α (mTh α x y) := ⟨nx_th.mo (by decide) (fun r z => by cases z), sN.ch nx_th (fun r _ _ z => by cases z)⟩
theorem mch_i {I : List Nat} (q : mch I [] α β) (h : ∀ i, i ∈ I → i ∈ inX) : XI W s t0 α β := ⟨q.mo h (fun r z => by cases z), sN.ch q (fun r _ _ z => by cases z)⟩
/-- WHNF -/
theorem whnf_i {t : Nat} (hN : 400000 < N) (hn : nrm W s) (h : IS W s Lc Lr U t0 α w n) (ht : vd W s t0 t) (hf : fit α t) : rI ((G_recursion N dp_recursion).2.2 (nI t) α) (fun x β => ∃ r t1 w1, x = nI r ∧ QI W s Lc Lr U t0 α w n t1 w1 n β ∧ vd W s t1 r ∧ fit β r ∧ ∀ S, AL S α t → AL S β r) (XI W s t0 α) := by
  refine (whnf_all hN hn 60 dp_recursion (by decide) (by decide) t0 t w α h.1 h.2.2 ht hf).mono (fun x β q => ?_) (fun β q => q.xi (by decide))
  obtain ⟨r, t1, w1, e, q1, q2, q3, q4, q5, q6⟩ := q
  exact ⟨r, t1, w1, e, h.wq q1 (fun _ z => z) q2 q3 q4, q1.2.2.2.2, q5, q6⟩
/-- WORK is charged -/
theorem costs_i {b : Nat} (h : IS W s Lc Lr U t0 α w n) (hb : b ≤ 1000000) (hU : U + b = U' + b ∨ 1 ≤ b ∧ U ≤ U' + 1) (hU6 : U' ≤ 6000) : rV (f_Mod_costs N (nI b) α) (fun β => QI W s Lc Lr U' t0 α w n t0 (w + b) n β ∧ sN (fun _ => True) α β) (XI W s t0 α) := by
  refine (costs_ok h.1.2.2.1 h.1.2.2.2 hb).mono (fun β q => ?_) (fun β q => mch_i q (by decide))
  obtain ⟨rfl, q⟩ := q
  have cs : mch [22] [] α (mSi α 22 (nI (w + b))) := mch.si (by decide)
  have ss : ∀ V : Nat → Prop, sN V α (mSi α 22 (nI (w + b))) := fun V => sN.ch cs (fun r _ _ z => by cases z)
  have w2 : WS W s Lc Lr t0 (mSi α 22 (nI (w + b))) (w + b) := ⟨h.1.1.sn cs (by decide) (ss _), h.1.2.1.ch h.1.1 cs (by decide) (ss _), rfl, q⟩
  exact ⟨⟨Nat.le_refl _, cs.mo (by decide) (fun r z => by cases z), ss _, ⟨w2, ⟨h.2.1.1, by have := h.2.1.2.1; omega, hU6⟩, h.2.2⟩, by omega, Nat.le_refl _, fun _ _ => rfl⟩, ss _⟩
/-- a new VARIABLE -/
theorem fresh_g {ty : Nat} (hn : nrm W s) (h : IS W s Lc Lr U t0 α w n) (hU : U < 6000) : rI (f_Mod_fresh N (nI ty) α) (fun x β => ∃ r t1, x = nI r ∧ QI W s Lc Lr (U + 1) t0 α w n t1 w (n + 1) β ∧ vd W s t1 r ∧ fit β r ∧ (uK β r = 3 ∧ β.2 3 r = nI n) ∧ n < 66000 ∧ β.2 32 n = nI ty) (XI W s t0 α) := by
  obtain ⟨h1, ⟨h2, h3, -⟩, h6⟩ := h
  have n6 : n < 66000 := by have := h1.2.2.2; omega
  unfold f_Mod_fresh
  rw [h2, nI_1]
  refine rI.ix (mix n6 (by decide)) ?_
  rw [nI_clamp (by omega)]
  obtain ⟨β, eβ⟩ : ∃ β, β = mSi (mSA α 32 (upd (α.2 32) n (nI ty))) 23 (nI (n + 1)) := ⟨_, rfl⟩
  rw [← eβ]
  have c1 : mch [23] [32] α β := by rw [eβ]; exact (mch.sA (by decide)).tr (mch.si (by decide))
  have s1 : sN (vd W s t0) α β := sN.ch c1 (fun r a b z => by have := List.mem_singleton.mp z; omega)
  have P1 : PO W s Lc Lr t0 β := h1.1.sn c1 (by decide) s1
  have e32 : β.2 32 = upd (α.2 32) n (nI ty) := by rw [eβ]; rfl
  have e23 : β.1 23 = nI (n + 1) := by rw [eβ]; rfl
  unfold f_Mod_free
  refine (((node_w (k := 3) P1 hn.f (fun z => z) (by decide) (fun z => absurd z (by decide)) (fun z => absurd z (by decide)) (fun z => absurd z (by decide)) (fun z => absurd z (by decide))).mono (fun v γ q => ?_) (fun γ q => ?_)).end).end
  · obtain ⟨rfl, q1, q2, q3, q4, q5, q6, -⟩ := q
    have s2 : sN (vd W s t0) α γ := s1.tr q4
    have c2 : mch [10, 23] [2, 3, 4, 5, 6, 7, 32] α γ := (c1.mo (by decide) (by decide)).tr (q3.mo (by decide) (by decide))
    have g32 : γ.2 32 = upd (α.2 32) n (nI ty) := (q3.arr (by decide)).trans e32
    have v0 : vd W s (t0 + 1) t0 := Or.inr ⟨h1.1.2.1, by omega⟩
    obtain ⟨-, -, -, -, fl, -⟩ := q2.nw v0
    obtain ⟨fb, fd⟩ := fl (by omega)
    exact ⟨t0, t0 + 1, rfl, ⟨by omega, c2.mo (by decide) (by decide), s2, ⟨⟨q2, h1.2.1.ch h1.1 c2 (by decide) s2, (c2.int (by decide)).trans h1.2.2.1, h1.2.2.2⟩, ⟨(q3.int (by decide)).trans e23, by omega, by omega⟩, (c2.int (by decide)).trans h6⟩, Nat.le_refl _, by omega, fun i hi => by rw [g32, upd_ne (by omega)]⟩, v0, ⟨by omega, by omega⟩, ⟨q5, q6⟩, n6, by rw [g32, upd_at]⟩
  · exact ⟨(c1.mo (by decide) (by decide)).tr (q.mo (by decide) (fun r z => by cases z)), s1.tr (sN.ch q (fun r _ _ z => by cases z))⟩
theorem fresh_ok {ty : Nat} (hn : nrm W s) (h : IS W s Lc Lr U t0 α w n) (hU : U < 6000) (_ht : vd W s t0 ty) (_hf : fit α ty) : rI (f_Mod_fresh N (nI ty) α) (fun x β => ∃ r t1, x = nI r ∧ QI W s Lc Lr (U + 1) t0 α w n t1 w (n + 1) β ∧ vd W s t1 r ∧ fit β r ∧ (uK β r = 3 ∧ β.2 3 r = nI n) ∧ n < 66000 ∧ β.2 32 n = nI ty) (XI W s t0 α) := fresh_g hn h hU
/-- fits and costs of a TERM made -/
theorem fc_ok {r : Nat} {k : Int32 → mS → Option (kO × mS)} {P : Int32 → mS → Prop} {X : mS → Prop} (h : IS W s Lc Lr (U + 1) t0 α w n) (hr : vd W s t0 r) (hk : ∀ w1 β, w + 1 ≤ w1 → QI W s Lc Lr U t0 α w n t0 w1 n β → fit β r → (∀ S x, vd W s t0 x → AL S α x → AL S β x) → rI (k (nI r) β) P X) (hX : ∀ β, XI W s t0 α β → X β) : rI (mBi (f_Mod_fits N (nI r) α) fun v6 α4 => (if v6 < 0 ∨ 400000 ≤ (v6 : Int32).toNatClampNeg then none else (mBv (f_Mod_costs N (α4.2 6 (v6 : Int32).toNatClampNeg) α4) fun α8 => k v6 α8))) P X := by
  refine (fits_ok h.1.1 hr).bi (fun x γ u => ?_) (fun γ u => hX γ (mch_i u (by decide)))
  obtain ⟨rfl, rfl, u1⟩ := u
  have hW := h.1.1.2.2.2
  obtain ⟨-, -, ⟨b1, b2, b3⟩, -⟩ := h.1.1.nw hr
  rw [hW.cl hr, b1]
  refine rI.ix (hW.ix hr) ((costs_i (U' := U) h b3 (Or.inr ⟨b2, by omega⟩) (by have := h.2.1.2.2; omega)).bi (fun δ u => ?_) hX)
  obtain ⟨u2, u3⟩ := u
  exact hk _ δ (by omega) u2 (u1.sn u3 trivial) (fun S x hx ha => ha.sn hW u2.2.2.1 hx)
/-- OPEN -/
theorem open_ok {b v : Nat} (hN : 400000 < N) (hn : nrm W s) (h : IS W s Lc Lr (U + 1) t0 α w n) (hb : vd W s t0 b) (hv : vd W s t0 v) (hf : fit α b) : rI (f_Mod_open N (nI b) (nI v) α) (fun x β => ∃ r t1 w1, x = nI r ∧ QI W s Lc Lr U t0 α w n t1 w1 n β ∧ w + 1 ≤ w1 ∧ vd W s t1 r ∧ fit β r ∧ Rs (RPut v) β b r ∧ ∀ S, AL S α v → AL S α b → AL S β r) (XI W s t0 α) := by
  unfold f_Mod_open
  refine (opened_ok hN hn h.1.1 hb hv hf).bi (fun x β q => ?_) (fun β q => q.xi (by decide))
  obtain ⟨r, t1, rfl, q1, q2, q3⟩ := q
  have q4 := h.qn q1 (fun _ z => z)
  refine fc_ok q4.is q1.2.2.2.2 (fun w1 γ u1 u2 u3 u4 => ?_) (fun γ u => q4.tx u)
  refine rI.ret ⟨r, t1, w1, rfl, q4.tr u2, u1, q1.2.2.2.2, u3, ?_, fun S h1 h2 => u4 S r q1.2.2.2.2 (q3 S h1 h2)⟩
  exact q2.sn q1.2.1.2.2.2 u2.2.2.1 (fun t r ht hr h => h.imp id fun y => ⟨by rw [u2.2.2.1.k ht]; exact y.1, y.2⟩) (hb.up q1.1) q1.2.2.2.2
/-- CLOSE -/
theorem close_ok {b : Nat} {v : Int32} (hN : 400000 < N) (hn : nrm W s) (h : IS W s Lc Lr U t0 α w n) (hU : U < 6000) (hb : vd W s t0 b) (hf : fit α b) : rI (f_Mod_close N (nI b) v α) (fun x β => ∃ r t1 w1, x = nI r ∧ QI W s Lc Lr U t0 α w n t1 w1 n β ∧ vd W s t1 r ∧ fit β r ∧ ∀ (S S' : Nat → Prop), (∀ y, S y → v ≠ nI y → S' y) → AL S α b → AL S' β r) (XI W s t0 α) := by
  unfold f_Mod_close
  obtain ⟨h1, h2⟩ := hf.sp h.1.1 hb
  refine (back_ok hN hn h.1.1 hb h1 h2).bi (fun x β q => ?_) (fun β q => q.xn.xi (by decide))
  obtain ⟨r, t1, rfl, q1, q2⟩ := q.qn
  have q4 := h.qn q1 (fun _ z => z)
  refine fc_ok (U := U) (q4.is.up (by omega) (by omega)) q1.2.2.2.2 (fun w1 γ u1 u2 u3 u4 => ?_) (fun γ u => q4.tx u)
  refine rI.ret ⟨r, t1, w1, rfl, q4.tr u2, q1.2.2.2.2, u3, fun S S' hS ha => u4 S' r q1.2.2.2.2 ?_⟩
  refine AL.rs q1.2.1.2.2.2 (hb.up q1.1) q1.2.2.2.2 q2 (fun t r ht hr hk h1 h2 => ?_) (q1.al h.1.1 hb ha)
  rcases h2 with ⟨rfl, h2⟩ | h2
  · refine AL.lf hk (fun h3 => ?_) (h1 1).2.1
    obtain ⟨y, y1, y2, y3⟩ := h1.f3 h3
    exact ⟨y, y1, y2, hS y y3 fun z => h2 ⟨h3, y1.trans z.symm⟩⟩
  · exact AL.lf (by omega) (fun z => by omega) (by omega)
theorem lvm.qi {i : Nat} (h : QI W s Lc Lr U t0 α w n t1 w1 n1 β) (hi : lvm W s t0 α n i) : lvm W s t1 β n1 i := by
  obtain ⟨a, v, b, c, d⟩ := hi
  exact ⟨Nat.lt_of_lt_of_le a h.2.2.2.2.2.1, v, (h.2.2.2.2.2.2 i a).trans b, c.up h.1, d.sn h.2.2.1 c⟩
theorem tcm.qi {j : Nat} (h : QI W s Lc Lr U t0 α w n t1 w1 n1 β) (hj : tcm W s t0 α j) : tcm W s t1 β j := by
  obtain ⟨v, b, c, d⟩ := hj
  exact ⟨v, by rw [h.2.1.arr (by decide)]; exact b, c.up h.1, d.sn h.2.2.1 c⟩
theorem QI.aln {x : Nat} (h : QI W s Lc Lr U t0 α w n t1 w1 n1 β) (h0 : IS W s Lc Lr U' t0 α w n) (hx : vd W s t0 x) (ha : AX W s t0 α n x) : AX W s t1 β n1 x :=
  ⟨(h.al h0 hx ha.1).su fun _ z => z.qi h, (ha.2.sn h0.1.1.2.2.2 h.2.2.1 hx).su fun _ z => z.qi h⟩
theorem AX.p {x : Nat} (h : AX W s t0 α n x) (h6 : 6 ≤ uK α x) : AX W s t0 α n (uA α x) ∧ AX W s t0 α n (uC α x) ∧ (uK α x = 9 → AX W s t0 α n (uE α x)) :=
  ⟨⟨(h.1.p h6).1, (h.2.p h6).1⟩, ⟨(h.1.p h6).2.1, (h.2.p h6).2.1⟩, fun h9 => ⟨(h.1.p h6).2.2 h9, (h.2.p h6).2.2 h9⟩⟩
end VARS
