-- what the recursor and its rules are made of: nodes, VARIABLES, no WORK
/-- w of WORK is done, n VARIABLES stand -/
def MV (W : Nat → Prop) (s Lc : Nat) (Lr : Nat → Prop) (U t : Nat) (α : mS) (w n : Nat) : Prop := PO W s Lc Lr t α ∧ (α.1 22 = nI w ∧ w ≤ 60000) ∧ α.1 23 = nI n ∧ n ≤ w + U
abbrev vI : List Nat := [10, 11, 12, 13, 14, 23, 30, 31]
abbrev vX : List Nat := [10, 11, 12, 13, 14, 22, 23, 24, 30, 31, 100, 101]
abbrev vR : List Nat := [2, 3, 4, 5, 6, 7, 8, 32, 41]
def QW (W : Nat → Prop) (s Lc : Nat) (Lr : Nat → Prop) (w t0 : Nat) (α : mS) (n U t1 n1 : Nat) (β : mS) : Prop := t0 ≤ t1 ∧ mch vI vR α β ∧ sN (vd W s t0) α β ∧ MV W s Lc Lr U t1 β w n1 ∧ n ≤ n1 ∧ ∀ i, i < n → β.2 32 i = α.2 32 i
/-- the list stands -/
def lsm (α β : mS) : Prop := β.1 30 = α.1 30 ∧ β.1 31 = α.1 31 ∧ β.2 41 = α.2 41
def QV (W : Nat → Prop) (s Lc : Nat) (Lr : Nat → Prop) (w t0 : Nat) (α : mS) (n U t1 n1 : Nat) (β : mS) : Prop := QW W s Lc Lr w t0 α n U t1 n1 β ∧ lsm α β
abbrev XV (W : Nat → Prop) (s t0 : Nat) (α β : mS) : Prop := mch vX vR α β ∧ sN (vd W s t0) α β
/-- a TERM: what it needs of the spine, how deep it is, its FREE variables -/
def TM (W : Nat → Prop) (s t : Nat) (α : mS) (q D : Nat) (S : Nat → Prop) (x : Nat) : Prop := vd W s t x ∧ uD α x ≤ D ∧ SP α q x ∧ AL S α x
/-- the VARIABLE v and its type -/
def VT (W : Nat → Prop) (s t : Nat) (α : mS) (n B D : Nat) (S : Nat → Prop) (v : Nat) : Prop := (v < n ∧ v < 66000) ∧ ∃ ty, α.2 32 v = nI ty ∧ TM W s t α 4000 D S ty ∧ uB α ty ≤ B
/-- the list: ℓ VARIABLES -/
def LL (α : mS) (ℓ : Nat) (L : Nat → Nat) : Prop := α.1 30 = nI ℓ ∧ ∀ i, i < ℓ → α.2 41 i = nI (L i)
section MVS
variable {N : Nat} {W : Nat → Prop} {s Lc : Nat} {Lr : Nat → Prop} {w t0 t1 t2 n n1 n2 U U' q D : Nat} {α β γ : mS} {S S' : Nat → Prop}
theorem lsm.rf : lsm α α := ⟨rfl, rfl, rfl⟩
theorem lsm.tr (h : lsm α β) (h' : lsm β γ) : lsm α γ := ⟨h'.1.trans h.1, h'.2.1.trans h.2.1, h'.2.2.trans h.2.2⟩
theorem LL.ls {ℓ : Nat} {L : Nat → Nat} (h : LL α ℓ L) (hl : lsm α β) : LL β ℓ L := ⟨hl.1.trans h.1, fun i hi => by rw [hl.2.2]; exact h.2 i hi⟩
theorem QW.tr (h : QW W s Lc Lr w t0 α n U t1 n1 β) (h' : QW W s Lc Lr w t1 β n1 U' t2 n2 γ) : QW W s Lc Lr w t0 α n U' t2 n2 γ :=
  ⟨Nat.le_trans h.1 h'.1, h.2.1.tr h'.2.1, h.2.2.1.tr (h'.2.2.1.su fun _ z => z.up h.1), h'.2.2.2.1, Nat.le_trans h.2.2.2.2.1 h'.2.2.2.2.1, fun i hi => (h'.2.2.2.2.2 i (Nat.lt_of_lt_of_le hi h.2.2.2.2.1)).trans (h.2.2.2.2.2 i hi)⟩
theorem QV.tr (h : QV W s Lc Lr w t0 α n U t1 n1 β) (h' : QV W s Lc Lr w t1 β n1 U' t2 n2 γ) : QV W s Lc Lr w t0 α n U' t2 n2 γ := ⟨h.1.tr h'.1, h.2.tr h'.2⟩
theorem QW.tx (h : QW W s Lc Lr w t0 α n U t1 n1 β) (h' : XV W s t1 β γ) : XV W s t0 α γ := ⟨(h.2.1.mo (by decide) (fun _ z => z)).tr h'.1, h.2.2.1.tr (h'.2.su fun _ z => z.up h.1)⟩
theorem QW.mv (h : QW W s Lc Lr w t0 α n U t1 n1 β) : MV W s Lc Lr U t1 β w n1 := h.2.2.2.1
theorem QV.mv (h : QV W s Lc Lr w t0 α n U t1 n1 β) : MV W s Lc Lr U t1 β w n1 := h.1.2.2.2.1
theorem QW.rf (h : MV W s Lc Lr U t0 α w n) : QW W s Lc Lr w t0 α n U t0 n α := ⟨Nat.le_refl _, mch.rf, sN.rf, h, Nat.le_refl _, fun _ _ => rfl⟩
theorem QV.rf (h : MV W s Lc Lr U t0 α w n) : QV W s Lc Lr w t0 α n U t0 n α := ⟨QW.rf h, lsm.rf⟩
theorem QW.v {x : Nat} (h : QW W s Lc Lr w t0 α n U t1 n1 β) (hx : vd W s t0 x) : vd W s t1 x := hx.up h.1
theorem TM.qw {x : Nat} (h : TM W s t0 α q D S x) (hP : PO W s Lc Lr t0 α) (g : QW W s Lc Lr w t0 α n U t1 n1 β) : TM W s t1 β q D S x :=
  ⟨h.1.up g.1, by rw [g.2.2.1.d h.1]; exact h.2.1, h.2.2.1.sn hP.2.2.2 g.2.2.1 h.1, h.2.2.2.sn hP.2.2.2 g.2.2.1 h.1⟩
theorem TM.su {x q' D' : Nat} (h : TM W s t0 α q D S x) (hq : q ≤ q') (hD : D ≤ D') (hS : ∀ v, S v → S' v) : TM W s t0 α q' D' S' x := ⟨h.1, Nat.le_trans h.2.1 hD, h.2.2.1.up hq, h.2.2.2.su hS⟩
theorem VT.qw {B v : Nat} (h : VT W s t0 α n B D S v) (hP : PO W s Lc Lr t0 α) (g : QW W s Lc Lr w t0 α n U t1 n1 β) : VT W s t1 β n1 B D S v := by
  obtain ⟨⟨a, a'⟩, ty, b, c, d⟩ := h
  exact ⟨⟨Nat.lt_of_lt_of_le a g.2.2.2.2.1, a'⟩, ty, (g.2.2.2.2.2 v a).trans b, c.qw hP g, by rw [g.2.2.1.b c.1]; exact d⟩
theorem VT.su {B B' D' v : Nat} (h : VT W s t0 α n B D S v) (hB : B ≤ B') (hD : D ≤ D') (hS : ∀ v, S v → S' v) : VT W s t0 α n B' D' S' v := by
  obtain ⟨a, ty, b, c, d⟩ := h
  exact ⟨a, ty, b, c.su (Nat.le_refl _) hD hS, Nat.le_trans d hB⟩
/-- nodes were made -/
theorem MV.qn {I : List Nat} {r : Nat} (h : MV W s Lc Lr U t0 α w n) (g : QN W s Lc Lr I t0 α r t1 β) (hI : ∀ i, i ∈ I → i ∈ mI5) : QV W s Lc Lr w t0 α n U t1 n β := by
  have hc : mch mI5 mpR α β := g.2.2.1.mo hI (fun _ z => z)
  exact ⟨⟨g.1, hc.mo (by decide) (by decide), g.2.2.2.1, ⟨g.2.1, ⟨(hc.int (by decide)).trans h.2.1.1, h.2.1.2⟩, (hc.int (by decide)).trans h.2.2.1, h.2.2.2⟩, Nat.le_refl _, fun i _ => by rw [hc.arr (by decide)]⟩, hc.int (by decide), hc.int (by decide), hc.arr (by decide)⟩
theorem XN.xv {I : List Nat} (h : XN W s I t0 α β) (hI : ∀ i, i ∈ I → i ∈ vX) : XV W s t0 α β := ⟨h.1.mo hI (by decide), h.2⟩
theorem mch_v {I : List Nat} (g : mch I [] α β) (h : ∀ i, i ∈ I → i ∈ vX) : XV W s t0 α β := ⟨g.mo h (fun r z => by cases z), sN.ch g (fun r _ _ z => by cases z)⟩
/-- a new leaf -/
theorem leaf_v {k : Nat} {a b c : Int32} (hn : nrm W s) (h : MV W s Lc Lr U t0 α w n) (hk : k < 6) (h1 : k = 1 → ∃ j, a = nI j ∧ j < Lc ∧ j < 2 ^ 31) (h2 : k = 2 → ∃ j, a = nI j ∧ Lr j ∧ j < 2 ^ 31) (h3 : k = 3 → ∃ v, a = nI v ∧ v < 66000 ∧ S v) (h5 : k ≠ 5) : rI (f_Mod_node N (nI k) a b c α) (fun x β => ∃ r t1, x = nI r ∧ QV W s Lc Lr w t0 α n U t1 n β ∧ (uK β r = k ∧ β.2 3 r = a) ∧ TM W s t1 β 0 1 S r) (XV W s t0 α) := by
  refine (node_w (k := k) h.1 hn.f (fun z => z) (by omega) (fun z => absurd z (by omega)) h1 h2 (fun z => absurd z h5)).mono (fun v β q => ?_) (fun β q => mch_v q (by decide))
  obtain ⟨rfl, q1, q2, q3, q4, q5, q6, -⟩ := q
  have v0 : vd W s (t0 + 1) t0 := Or.inr ⟨h.1.2.1, by omega⟩
  obtain ⟨-, -, -, -, fl, -⟩ := q2.nw v0
  obtain ⟨fb, fd⟩ := fl (by omega)
  refine ⟨t0, t0 + 1, rfl, h.qn (I := [10]) (r := t0) ⟨by omega, q2, q3.mo (fun _ z => z) (by decide), q4, v0⟩ (by decide), ⟨q5, q6⟩, v0, by omega, fun m => ?_, AL.lf (by omega) (fun z => ?_) (by omega)⟩
  · cases m with
    | zero => trivial
    | succ m => exact fun z => by omega
  · rw [q6]; exact h3 (q5.symm.trans z)
theorem free_v {v : Nat} (hn : nrm W s) (h : MV W s Lc Lr U t0 α w n) (hv : v < 66000) (hS : S v) : rI (f_Mod_free N (nI v) α) (fun x β => ∃ r t1, x = nI r ∧ QV W s Lc Lr w t0 α n U t1 n β ∧ (uK β r = 3 ∧ β.2 3 r = nI v) ∧ TM W s t1 β 0 1 S r) (XV W s t0 α) := by
  unfold f_Mod_free
  exact (leaf_v (k := 3) hn h (by decide) (fun z => absurd z (by decide)) (fun z => absurd z (by decide)) (fun _ => ⟨v, rfl, hv, hS⟩) (by decide)).end
/-- a new application -/
theorem appl_v {x y qx qy Dx Dy : Nat} (hn : nrm W s) (h : MV W s Lc Lr U t0 α w n) (hx : TM W s t0 α qx Dx S x) (hy : TM W s t0 α qy Dy S y) (hq : qx < q ∧ qy ≤ q) (hD : Dx ≤ D ∧ Dy + 1 ≤ D) : rI (f_Mod_apply N (nI x) (nI y) α) (fun v β => ∃ r t1, v = nI r ∧ QV W s Lc Lr w t0 α n U t1 n β ∧ TM W s t1 β q D S r) (XV W s t0 α) := by
  refine (appm_ok hn h.1 hx.1 hy.1).mono (fun v β g => ?_) (fun β g => g.xv (by decide))
  obtain ⟨r, t1, rfl, g1, ⟨g2, g3, g4⟩, g5⟩ := g
  have qv := h.qn g1 (by decide)
  have hx' := hx.qw h.1 qv.1
  have hy' := hy.qw h.1 qv.1
  refine ⟨r, t1, rfl, qv, g1.2.2.2.2, ?_, fun m => ?_, g5 S hx.2.2.2 hy.2.2.2⟩
  · obtain ⟨-, -, -, -, -, a, -⟩ := g1.2.1.nw g1.2.2.2.2
    obtain ⟨-, -, -, -, a⟩ := a (by omega)
    rw [g2, g3, g4] at a
    unfold dpf at a
    rw [if_pos rfl] at a
    have := hx'.2.1
    have := hy'.2.1
    omega
  · cases m with
    | zero => trivial
    | succ m =>
      intro _
      refine ⟨fun _ => ⟨by omega, ?_, ?_⟩, fun z => absurd g2 z⟩
      · rw [g3]; exact hx'.2.2.1.up (by omega) m
      · rw [g4]; exact hy'.2.2.1.up (by omega) m
/-- a new PI or LAM -/
theorem bnd_v {k x y : Nat} (hn : nrm W s) (h : MV W s Lc Lr U t0 α w n) (hk : k = 6 ∨ k = 7) (hx : TM W s t0 α q D S x) (hy : TM W s t0 α q D S y) : rI (f_Mod_node N (nI k) (nI x) (nI y) 0 α) (fun v β => ∃ r t1, v = nI r ∧ QV W s Lc Lr w t0 α n U t1 n β ∧ TM W s t1 β q (D + 1) S r ∧ (uK β r = k ∧ uA β r = x ∧ uC β r = y)) (XV W s t0 α) := by
  have hP := h.1
  refine (node_w (k := k) hP hn.f (fun z => z) (by omega) (fun _ => ⟨x, y, rfl, rfl, ⟨hx.1, hn.lt hP hx.1⟩, ⟨hy.1, hn.lt hP hy.1⟩, fun z => by omega⟩) (fun z => by omega) (fun z => by omega) (fun z => by omega)).mono (fun v β q => ?_) (fun β q => mch_v q (by decide))
  obtain ⟨rfl, q1, q2, q3, q4, q5, q6, q7, -⟩ := q
  have v0 : vd W s (t0 + 1) t0 := Or.inr ⟨h.1.2.1, by omega⟩
  have x4 := (hP.nw hx.1).1
  have y4 := (hP.nw hy.1).1
  have ea : uA β t0 = x := by unfold uA; rw [q6, nI_clamp (by omega)]
  have ec : uC β t0 = y := by unfold uC; rw [q7, nI_clamp (by omega)]
  have qv := h.qn (I := [10]) (r := t0) ⟨by omega, q2, q3.mo (fun _ z => z) (by decide), q4, v0⟩ (by decide)
  have hx' := hx.qw h.1 qv.1
  have hy' := hy.qw h.1 qv.1
  refine ⟨t0, t0 + 1, rfl, qv, ⟨v0, ?_, fun m => ?_, AL.mk (by omega) (by rw [ea]; exact hx'.2.2.2) (by rw [ec]; exact hy'.2.2.2) (fun z => by omega)⟩, q5, ea, ec⟩
  · obtain ⟨-, -, -, -, -, a, -⟩ := q2.nw v0
    obtain ⟨-, -, -, -, a⟩ := a (by omega)
    rw [ea, ec] at a
    unfold dpf at a
    rw [if_neg (by omega), if_neg (by omega)] at a
    have := hx'.2.1
    have := hy'.2.1
    omega
  · cases m with
    | zero => trivial
    | succ m =>
      intro _
      refine ⟨fun z => by omega, fun _ => ⟨?_, ?_, fun z => by omega⟩⟩
      · rw [ea]; exact hx'.2.2.1 m
      · rw [ec]; exact hy'.2.2.1 m
/-- a new VARIABLE -/
theorem fresh_v {ty : Nat} (hn : nrm W s) (h : MV W s Lc Lr U t0 α w n) (hU : U < 6000) : rI (f_Mod_fresh N (nI ty) α) (fun x β => ∃ r t1, x = nI r ∧ QV W s Lc Lr w t0 α n (U + 1) t1 (n + 1) β ∧ (uK β r = 3 ∧ β.2 3 r = nI n) ∧ n < 66000 ∧ β.2 32 n = nI ty ∧ TM W s t1 β 0 1 (fun v => v = n) r) (XV W s t0 α) := by
  obtain ⟨h1, ⟨h2, h3⟩, h4, h5⟩ := h
  have n6 : n < 66000 := by omega
  unfold f_Mod_fresh
  rw [h4, nI_1]
  refine rI.ix (mix n6 (by decide)) ?_
  rw [nI_clamp (by omega)]
  obtain ⟨β, eβ⟩ : ∃ β, β = mSi (mSA α 32 (upd (α.2 32) n (nI ty))) 23 (nI (n + 1)) := ⟨_, rfl⟩
  rw [← eβ]
  have c1 : mch [23] [32] α β := by rw [eβ]; exact (mch.sA (by decide)).tr (mch.si (by decide))
  have s1 : sN (vd W s t0) α β := sN.ch c1 (fun r a b z => by have := List.mem_singleton.mp z; omega)
  have e32 : β.2 32 = upd (α.2 32) n (nI ty) := by rw [eβ]; rfl
  have e23 : β.1 23 = nI (n + 1) := by rw [eβ]; rfl
  have M1 : MV W s Lc Lr (U + 1) t0 β w (n + 1) := ⟨h1.sn c1 (by decide) s1, ⟨(c1.int (by decide)).trans h2, h3⟩, e23, by omega⟩
  have q0 : QV W s Lc Lr w t0 α n (U + 1) t0 (n + 1) β := ⟨⟨Nat.le_refl _, c1.mo (by decide) (by decide), s1, M1, by omega, fun i hi => by rw [e32, upd_ne (by omega)]⟩, c1.int (by decide), c1.int (by decide), c1.arr (by decide)⟩
  refine ((free_v (S := fun v => v = n) hn M1 n6 rfl).mono (fun v γ g => ?_) (fun γ g => q0.1.tx g)).end
  obtain ⟨r, t1, rfl, g1, g2, g3⟩ := g
  exact ⟨r, t1, rfl, q0.tr g1, g2, n6, by rw [g1.1.2.2.2.2.2 n (by omega), e32, upd_at], g3⟩
/-- under -/
theorem under_v {x f ℓ : Nat} {L : Nat → Nat} (hN : 400000 < N) (hn : nrm W s) (h : MV W s Lc Lr U t0 α w n) (hx : TM W s t0 α q D S x) (hq : q ≤ 8000) (hD : D ≤ 800) (hf : f ≤ ℓ) (h9 : ℓ ≤ 9000) (hL : ∀ i, f ≤ i → i < ℓ → α.2 41 i = nI (L i)) (hS : ∀ v, S v → S' v ∨ ∃ i, f ≤ i ∧ i < ℓ ∧ L i = v) : rI (f_Mod_under N (nI x) (nI f) (nI ℓ) α) (fun v β => ∃ r t1, v = nI r ∧ QV W s Lc Lr w t0 α n U t1 n β ∧ TM W s t1 β q D S' r) (XV W s t0 α) := by
  refine (under_ok hN hn hf h9 h.1 hx.1 (by have := hx.2.1; omega) (hx.2.2.1.up hq)).mono (fun v β g => ?_) (fun β g => g.xn.xv (by decide))
  obtain ⟨r, t1, rfl, g1, g2⟩ := g.qn
  have qv := h.qn g1 (by decide)
  have hx' := hx.qw h.1 qv.1
  have hW := g1.2.1.2.2.2
  obtain ⟨-, z2, z3⟩ := g2.sz hW (fun t r _ _ h1 h2 => by
    rcases h2 with ⟨rfl, -⟩ | h2
    · exact h1
    · omega) hx'.1 g1.2.2.2.2
  refine ⟨r, t1, rfl, qv, g1.2.2.2.2, by rw [z2]; exact hx'.2.1, z3 _ hx'.2.2.1, AL.rs hW hx'.1 g1.2.2.2.2 g2 (fun t r _ _ hk h1 h2 => ?_) hx'.2.2.2⟩
  rcases h2 with ⟨rfl, h2⟩ | h2
  · refine AL.lf hk (fun h3 => ?_) (h1 1).2.1
    obtain ⟨y, y1, y2, y3⟩ := h1.f3 h3
    refine ⟨y, y1, y2, ?_⟩
    rcases hS y y3 with z | ⟨i, i1, i2, i3⟩
    · exact z
    · exact absurd ((hL i i1 i2).trans (by rw [i3, y1])) (h2 h3 i i1 i2)
  · exact AL.lf (by omega) (fun z => by omega) (by omega)
/-- PUT of a VARIABLE -/
theorem put_v {x v y : Nat} (hN : 400000 < N) (hn : nrm W s) (h : MV W s Lc Lr U t0 α w n) (hx : TM W s t0 α q D S x) (hv : TM W s t0 α 0 1 S v) (hv3 : uK α v = y) (hy : y < 6) (hq : q ≤ 8000) (hD : D ≤ 800) : rI (f_Mod_put N (nI x) (nI v) α) (fun z β => ∃ r t1, z = nI r ∧ QV W s Lc Lr w t0 α n U t1 n β ∧ TM W s t1 β q D S r ∧ uD β r = uD α x ∧ Rs (RPut v) β x r) (XV W s t0 α) := by
  refine (put_ok hN hn h.1 hx.1 hv.1 (by have := hx.2.1; omega) (hx.2.2.1.up hq)).mono (fun v β g => ?_) (fun β g => g.xn.xv (by decide))
  obtain ⟨r, t1, rfl, g1, g2⟩ := g.qn
  have qv := h.qn g1 (by decide)
  have hx' := hx.qw h.1 qv.1
  have hv' := hv.qw h.1 qv.1
  have hW := g1.2.1.2.2.2
  have kv := g1.2.2.2.1.k hv.1
  obtain ⟨-, z2, z3⟩ := g2.sz hW (fun t r _ _ h1 h2 => by
    rcases h2 with rfl | ⟨-, rfl⟩
    · exact h1
    · omega) hx'.1 g1.2.2.2.2
  exact ⟨r, t1, rfl, qv, ⟨g1.2.2.2.2, by rw [z2]; exact hx'.2.1, z3 _ hx'.2.2.1, AL.put hW hx'.1 g1.2.2.2.2 g2 hv'.2.2.2 hx'.2.2.2⟩, by rw [z2, g1.2.2.2.1.d hx.1], g2⟩
end MVS
