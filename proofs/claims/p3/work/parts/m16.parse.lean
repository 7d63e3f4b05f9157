-- the reference reads TERMS
abbrev paI : List Nat := [5, 6, 7, 8, 9, 10, 19, 20, 21]
abbrev paX : List Nat := [5, 6, 7, 8, 9, 10, 19, 20, 21, 100, 101]
abbrev paR : List Nat := [2, 3, 4, 5, 6, 7, 25, 26, 27, 28, 29, 30, 31]
def PNn (α : mS) : Nat → Nat → Prop
  | 0, _ => True
  | n + 1, t => uK α t ≠ 3 ∧ (6 ≤ uK α t → PNn α n (uA α t) ∧ PNn α n (uC α t) ∧ (uK α t = 9 → PNn α n (uE α t)))
/-- no FREE variable -/
def PN (α : mS) (t : Nat) : Prop := ∀ n, PNn α n t
section PNS
variable {V : Nat → Prop} {Lc : Nat} {Lr : Nat → Prop} {t : Nat} {α β : mS}
theorem PN.p (h : PN α t) (h6 : 6 ≤ uK α t) : PN α (uA α t) ∧ PN α (uC α t) ∧ (uK α t = 9 → PN α (uE α t)) :=
  ⟨fun n => ((h (n + 1)).2 h6).1, fun n => ((h (n + 1)).2 h6).2.1, fun h9 n => ((h (n + 1)).2 h6).2.2 h9⟩
theorem PN.mk (h6 : 6 ≤ uK α t) (ha : PN α (uA α t)) (hc : PN α (uC α t)) (he : uK α t = 9 → PN α (uE α t)) : PN α t
  | 0 => trivial
  | n + 1 => ⟨by omega, fun _ => ⟨ha n, hc n, fun h9 => he h9 n⟩⟩
theorem PN.lf (h6 : uK α t < 6) (h3 : uK α t ≠ 3) : PN α t
  | 0 => trivial
  | n + 1 => ⟨h3, fun z => by omega⟩
theorem PNn_sn (hW : nWf V Lc Lr α) (hs : sN V α β) : ∀ (n t : Nat), V t → (PNn β n t ↔ PNn α n t)
  | 0, _, _ => Iff.rfl
  | n + 1, t, ht => by
    unfold PNn
    rw [hs.k ht, hs.a ht, hs.c ht, hs.e ht]
    by_cases h6 : 6 ≤ uK α t
    · rw [PNn_sn hW hs n _ (hW.p3 ht h6).2.2, PNn_sn hW hs n _ (hW.p4 ht h6).2.2]
      by_cases h9 : uK α t = 9
      · rw [PNn_sn hW hs n _ (hW.p5 ht h9).2.2]
      · exact ⟨fun z => ⟨z.1, fun y => ⟨(z.2 y).1, (z.2 y).2.1, fun w => absurd w h9⟩⟩, fun z => ⟨z.1, fun y => ⟨(z.2 y).1, (z.2 y).2.1, fun w => absurd w h9⟩⟩⟩
    · exact ⟨fun z => ⟨z.1, fun y => absurd y h6⟩, fun z => ⟨z.1, fun y => absurd y h6⟩⟩
theorem PN.sn (hW : nWf V Lc Lr α) (hs : sN V α β) (ht : V t) (h : PN α t) : PN β t := fun n => (PNn_sn hW hs n t ht).mpr (h n)
end PNS
def scf (α : mS) (i : Nat) : Prop := ∃ a z, α.2 25 i = nI a ∧ α.2 26 i = nI z ∧ a + z ≤ 65536
def hdf (α : mS) (i : Nat) : Prop := ∃ a z, α.2 30 i = nI a ∧ α.2 31 i = nI z ∧ a + z ≤ 65536
/-- the parser's state -/
def PSm (W : Nat → Prop) (s Lc : Nat) (Lr : Nat → Prop) (sz t p sc ph : Nat) (α : mS) : Prop := PO W s Lc Lr t α ∧ LK sz p α ∧ (NMs Lc α ∧ α.1 28 = nI Lc ∧ ∀ j, j < Lc → α.2 12 j = 3 → Lr j) ∧ (α.1 19 = nI sc ∧ ∀ i, i < sc → scf α i) ∧ (α.1 20 = nI ph ∧ ph ≤ 3000 ∧ ∀ i, i < ph → hdf α i) ∧ (∃ cp, α.1 21 = nI cp ∧ cp ≤ 6000)
def QP (W : Nat → Prop) (s Lc : Nat) (Lr : Nat → Prop) (sz t p sc ph : Nat) (α : mS) (sc' ph' t' p' : Nat) (β : mS) : Prop := t ≤ t' ∧ p ≤ p' ∧ PSm W s Lc Lr sz t' p' sc' ph' β ∧ mch paI paR α β ∧ sN (vd W s t) α β ∧ (∀ i, i < sc → β.2 25 i = α.2 25 i ∧ β.2 26 i = α.2 26 i ∧ β.2 27 i = α.2 27 i) ∧ (∀ i, i < ph → β.2 30 i = α.2 30 i ∧ β.2 31 i = α.2 31 i)
abbrev XP (W : Nat → Prop) (s t : Nat) (α β : mS) : Prop := mch paX paR α β ∧ sN (vd W s t) α β
section PARSE
variable {N : Nat} {W : Nat → Prop} {s Lc : Nat} {Lr : Nat → Prop} {sz t p sc ph t1 p1 sc1 ph1 t2 p2 sc2 ph2 : Nat} {α β γ : mS}
theorem QP.rf (h : PSm W s Lc Lr sz t p sc ph α) : QP W s Lc Lr sz t p sc ph α sc ph t p α := ⟨Nat.le_refl _, Nat.le_refl _, h, mch.rf, sN.rf, fun _ _ => ⟨rfl, rfl, rfl⟩, fun _ _ => ⟨rfl, rfl⟩⟩
theorem QP.tr (h : QP W s Lc Lr sz t p sc ph α sc1 ph1 t1 p1 β) (h' : QP W s Lc Lr sz t1 p1 sc1 ph1 β sc2 ph2 t2 p2 γ) (hs : sc ≤ sc1) (hp : ph ≤ ph1) : QP W s Lc Lr sz t p sc ph α sc2 ph2 t2 p2 γ := by
  obtain ⟨a1, a2, a3, a4, a5, a6, a7⟩ := h
  obtain ⟨b1, b2, b3, b4, b5, b6, b7⟩ := h'
  refine ⟨by omega, by omega, b3, a4.tr b4, a5.tr (b5.su fun _ z => z.up a1), fun i hi => ?_, fun i hi => ?_⟩
  · obtain ⟨x, y, z⟩ := a6 i hi
    obtain ⟨x', y', z'⟩ := b6 i (by omega)
    exact ⟨x'.trans x, y'.trans y, z'.trans z⟩
  · obtain ⟨x, y⟩ := a7 i hi
    obtain ⟨x', y'⟩ := b7 i (by omega)
    exact ⟨x'.trans x, y'.trans y⟩
theorem QP.tx (h : QP W s Lc Lr sz t p sc ph α sc1 ph1 t1 p1 β) (h' : XP W s t1 β γ) : XP W s t α γ := ⟨(h.2.2.2.1.mo (by decide) (fun _ z => z)).tr h'.1, h.2.2.2.2.1.tr (h'.2.su fun _ z => z.up h.1)⟩
theorem QP.ps (h : QP W s Lc Lr sz t p sc ph α sc1 ph1 t1 p1 β) : PSm W s Lc Lr sz t1 p1 sc1 ph1 β := h.2.2.1
theorem lx_x (q : mch lxX [] α β) : XP W s t α β := ⟨q.mo (by decide) (fun r z => by cases z), sN.ch q (fun r _ _ z => by cases z)⟩
theorem thr_p {x y : Int32} : XP W s t α (mTh α x y) := ⟨mch.th (by decide) (by decide), sN.ch nx_th (fun r _ _ z => by cases z)⟩
/-- words were read -/
theorem PSm.lx (h : PSm W s Lc Lr sz t p sc ph α) (hp : p ≤ p1) (hl : LK sz p1 β) (hc : mch lxI [] α β) : QP W s Lc Lr sz t p sc ph α sc ph t p1 β := by
  obtain ⟨h1, h2, ⟨h3, h4, h5⟩, ⟨h6, h7⟩, ⟨h8, h9, h10⟩, cp, h11, h12⟩ := h
  have hs : sN (vd W s t) α β := sN.ch hc (fun r _ _ z => by cases z)
  refine ⟨Nat.le_refl _, hp, ⟨h1.sn hc (by decide) hs, hl, ⟨h3.ch hc (by decide) (by decide), (hc.int (by decide)).trans h4, fun j hj => by rw [hc.arr (by decide)]; exact h5 j hj⟩, ⟨(hc.int (by decide)).trans h6, fun i hi => ?_⟩, ⟨(hc.int (by decide)).trans h8, h9, fun i hi => ?_⟩, cp, (hc.int (by decide)).trans h11, h12⟩, hc.mo (by decide) (fun r z => by cases z), hs, fun i _ => ⟨by rw [hc.arr (by decide)], by rw [hc.arr (by decide)], by rw [hc.arr (by decide)]⟩, fun i _ => ⟨by rw [hc.arr (by decide)], by rw [hc.arr (by decide)]⟩⟩
  · unfold scf; rw [hc.arr (by decide), hc.arr (by decide)]; exact h7 i hi
  · unfold hdf; rw [hc.arr (by decide), hc.arr (by decide)]; exact h10 i hi
/-- a node was made -/
theorem PSm.nd (h : PSm W s Lc Lr sz t p sc ph α) (ht : t ≤ t1) (hP : PO W s Lc Lr t1 β) (hc : mch [10] [2, 3, 4, 5, 6, 7] α β) (hs : sN (vd W s t) α β) : QP W s Lc Lr sz t p sc ph α sc ph t1 p β := by
  obtain ⟨h1, h2, ⟨h3, h4, h5⟩, ⟨h6, h7⟩, ⟨h8, h9, h10⟩, cp, h11, h12⟩ := h
  refine ⟨ht, Nat.le_refl _, ⟨hP, h2.ch hc (by decide), ⟨h3.ch hc (by decide) (by decide), (hc.int (by decide)).trans h4, fun j hj => by rw [hc.arr (by decide)]; exact h5 j hj⟩, ⟨(hc.int (by decide)).trans h6, fun i hi => ?_⟩, ⟨(hc.int (by decide)).trans h8, h9, fun i hi => ?_⟩, cp, (hc.int (by decide)).trans h11, h12⟩, hc.mo (by decide) (by decide), hs, fun i _ => ⟨by rw [hc.arr (by decide)], by rw [hc.arr (by decide)], by rw [hc.arr (by decide)]⟩, fun i _ => ⟨by rw [hc.arr (by decide)], by rw [hc.arr (by decide)]⟩⟩
  · unfold scf; rw [hc.arr (by decide), hc.arr (by decide)]; exact h7 i hi
  · unfold hdf; rw [hc.arr (by decide), hc.arr (by decide)]; exact h10 i hi
/-- a TERM was read -/
def TQr (W : Nat → Prop) (s Lc : Nat) (Lr : Nat → Prop) (sz t p sc ph : Nat) (α : mS) (x : Int32) (β : mS) : Prop := ∃ r t1 p1, x = nI r ∧ QP W s Lc Lr sz t p sc ph α sc ph t1 p1 β ∧ vd W s t1 r ∧ fit β r ∧ PN β r
theorem TQr.of (h : QP W s Lc Lr sz t p sc ph α sc1 ph1 t1 p1 β) (hs : sc ≤ sc1) (hp : ph ≤ ph1) {x : Int32} (h' : TQr W s Lc Lr sz t1 p1 sc1 ph1 β x γ) (e1 : sc1 = sc) (e2 : ph1 = ph) : TQr W s Lc Lr sz t p sc ph α x γ := by
  obtain ⟨r, t2, p2, e, a, b⟩ := h'
  subst e1 e2
  exact ⟨r, t2, p2, e, h.tr a hs hp, b⟩
theorem nest_ok {d : Nat} (hN : 400000 < N) (hd : d < 2 ^ 31) (h : LK sz p α) : rI (f_Mod_nest N (nI d) α) (fun v β => v = nI (d + 1) ∧ β = α ∧ d < 100) (fun β => mch lxX [] α β) := by
  unfold f_Mod_nest
  refine rI.ite (fun _ => ?_) fun c => ?_
  · obtain ⟨v, β, q, e, hq, hP, hc, -⟩ := peek_q hN h
    rw [e]
    exact rI.thr ((hc.mo (by decide) (fun _ z => z)).tr (mch.th (by decide) (by decide)))
  · rw [nI_1]
    exact rI.ret ⟨rfl, rfl, Nat.not_le.mp fun z => c (nI_le (a := 100) z hd)⟩
/-- a name is bound -/
theorem bind_ok {a z : Nat} (h : PSm W s Lc Lr sz t p sc ph α) (hs : sc < 3400) (haz : a + z ≤ 65536) : ∃ β, f_Mod_bindName N (nI a) (nI z) α = some (some none, β) ∧ QP W s Lc Lr sz t p sc ph α (sc + 1) ph t p β ∧ β.2 27 = α.2 27 := by
  obtain ⟨h1, h2, ⟨h3, h4, h5⟩, ⟨h6, h7⟩, ⟨h8, h9, h10⟩, cp, h11, h12⟩ := h
  have ix : ¬ (α.1 19 < 0 ∨ 3400 ≤ (α.1 19).toNatClampNeg) := by rw [h6]; exact mix hs (by decide)
  have ec : (α.1 19).toNatClampNeg = sc := by rw [h6, nI_clamp (by omega)]
  unfold f_Mod_bindName
  rw [if_neg ix, if_neg ix, ec, h6, nI_1]
  obtain ⟨β, eβ⟩ : ∃ β, β = mSA (mSi (mSA α 25 (upd (α.2 25) sc (nI a))) 19 (nI (sc + 1))) 26 (upd ((mSi (mSA α 25 (upd (α.2 25) sc (nI a))) 19 (nI (sc + 1))).2 26) sc (nI z)) := ⟨_, rfl⟩
  rw [← eβ]
  have hc : mch [19] [25, 26] α β := by rw [eβ]; exact ((mch.sA (by decide)).tr (mch.si (by decide))).tr (mch.sA (by decide))
  have e25 : β.2 25 = upd (α.2 25) sc (nI a) := by rw [eβ]; rfl
  have e26 : β.2 26 = upd (α.2 26) sc (nI z) := by rw [eβ]; rfl
  have hs' : sN (vd W s t) α β := sN.ch hc (fun r a b z => by simp at z; omega)
  refine ⟨β, rfl, ⟨Nat.le_refl _, Nat.le_refl _, ⟨h1.sn hc (by decide) hs', h2.ch hc (by decide), ⟨h3.ch hc (by decide) (by decide), (hc.int (by decide)).trans h4, fun j hj => by rw [hc.arr (by decide)]; exact h5 j hj⟩, ⟨by rw [eβ]; rfl, fun i hi => ?_⟩, ⟨(hc.int (by decide)).trans h8, h9, fun i hi => ?_⟩, cp, (hc.int (by decide)).trans h11, h12⟩, hc.mo (by decide) (by decide), hs', fun i hi => ⟨by rw [e25, upd_ne (by omega)], by rw [e26, upd_ne (by omega)], by rw [hc.arr (by decide)]⟩, fun i _ => ⟨by rw [hc.arr (by decide)], by rw [hc.arr (by decide)]⟩⟩, hc.arr (by decide)⟩
  · unfold scf
    rw [e25, e26]
    rcases Nat.lt_or_ge i sc with y | y
    · rw [upd_ne (by omega), upd_ne (by omega)]; exact h7 i y
    · have : i = sc := by omega
      rw [this, upd_at, upd_at]
      exact ⟨a, z, rfl, rfl, haz⟩
  · unfold hdf; rw [hc.arr (by decide), hc.arr (by decide)]; exact h10 i hi
/-- names are forgotten -/
theorem PSm.cut (h : PSm W s Lc Lr sz t p sc ph α) (hs : sc1 ≤ sc) : QP W s Lc Lr sz t p sc1 ph α sc1 ph t p (mSi α 19 (nI sc1)) := by
  obtain ⟨h1, h2, ⟨h3, h4, h5⟩, ⟨h6, h7⟩, ⟨h8, h9, h10⟩, cp, h11, h12⟩ := h
  have hc : mch [19] [] α (mSi α 19 (nI sc1)) := mch.si (by decide)
  have hs' : sN (vd W s t) α (mSi α 19 (nI sc1)) := sN.ch hc (fun r _ _ z => by cases z)
  exact ⟨Nat.le_refl _, Nat.le_refl _, ⟨h1.sn hc (by decide) hs', h2.ch hc (by decide), ⟨h3, (hc.int (by decide)).trans h4, h5⟩, ⟨rfl, fun i hi => h7 i (by omega)⟩, ⟨(hc.int (by decide)).trans h8, h9, h10⟩, cp, (hc.int (by decide)).trans h11, h12⟩, hc.mo (by decide) (fun r z => by cases z), hs', fun _ _ => ⟨rfl, rfl, rfl⟩, fun _ _ => ⟨rfl, rfl⟩⟩
/-- a leaf is made -/
theorem leaf_p {k : Nat} {a b : Int32} (hn : nrm W s) (h : PSm W s Lc Lr sz t p sc ph α) (hk : k < 6) (h3 : k ≠ 3) (h1 : k = 1 → ∃ j, a = nI j ∧ j < Lc ∧ j < 2 ^ 31) (h2 : k = 2 → ∃ j, a = nI j ∧ Lr j ∧ j < 2 ^ 31) (h5 : k = 5 → ∃ j, a = nI j ∧ j < 2 ^ 31) : rI (f_Mod_node N (nI k) a b 0 α) (TQr W s Lc Lr sz t p sc ph α) (XP W s t α) := by
  refine (node_w (k := k) h.1 hn.f (fun z => z) (Nat.le_trans (Nat.le_of_lt hk) (by decide)) (fun z => absurd z (Nat.not_le.mpr hk)) h1 h2 h5).mono (fun v β q => ?_) (fun β q => lx_x (q.mo (by decide) (fun _ z => z)))
  obtain ⟨rfl, q1, q2, q3, q4, q5, -⟩ := q
  have v0 : vd W s (t + 1) t := Or.inr ⟨h.1.2.1, Nat.lt_succ_self _⟩
  obtain ⟨-, -, -, -, fl, -⟩ := q2.nw v0
  obtain ⟨fb, fd⟩ := fl (by rw [q5]; exact hk)
  exact ⟨t, t + 1, p, rfl, h.nd (Nat.le_succ _) q2 q3 q4, v0, ⟨by rw [fb]; decide, by rw [fd]; decide⟩, PN.lf (by rw [q5]; exact hk) (by rw [q5]; exact h3)⟩
/-- a TERM with parts is made, within bounds -/
theorem node_p {k x y : Nat} {c : Int32} (hn : nrm W s) (h : PSm W s Lc Lr sz t p sc ph α) (hk : 6 ≤ k ∧ k ≤ 9) (hx : vd W s t x) (hy : vd W s t y) (px : PN α x) (py : PN α y) (hz : k = 9 → ∃ z, c = nI z ∧ vd W s t z ∧ PN α z) : rI (mBi (f_Mod_node N (nI k) (nI x) (nI y) c α) fun v β => f_Mod_fits N v β) (fun v β => ∃ r t1, v = nI r ∧ QP W s Lc Lr sz t p sc ph α sc ph t1 p β ∧ vd W s t1 r ∧ fit β r ∧ PN β r ∧ (uK β r = k ∧ uA β r = x ∧ uC β r = y)) (XP W s t α) := by
  have hP := h.1
  refine (node_w (k := k) (c := c) hP hn.f (fun z => z) hk.2 (fun _ => ⟨x, y, rfl, rfl, ⟨hx, hn.lt hP hx⟩, ⟨hy, hn.lt hP hy⟩, fun z => by obtain ⟨w, e, a, -⟩ := hz z; exact ⟨w, e, a, hn.lt hP a⟩⟩) (fun z => by omega) (fun z => by omega) (fun z => by omega)).bi (fun v β q => ?_) (fun β q => lx_x (q.mo (by decide) (fun _ z => z)))
  obtain ⟨rfl, q1, q2, q3, q4, q5, q6, q7, q8⟩ := q
  have v0 : vd W s (t + 1) t := Or.inr ⟨h.1.2.1, by omega⟩
  have q := h.nd (by omega) q2 q3 q4
  refine (fits_ok q2 v0).mono (fun v γ u => ?_) (fun γ u => q.tx (lx_x (u.mo (by decide) (fun _ z => z))))
  obtain ⟨rfl, rfl, u1⟩ := u
  have x4 := (hP.nw hx).1
  have y4 := (hP.nw hy).1
  have ea : uA γ t = x := by unfold uA; rw [q6, nI_clamp (by omega)]
  have ec : uC γ t = y := by unfold uC; rw [q7, nI_clamp (by omega)]
  refine ⟨t, t + 1, rfl, q, v0, u1, PN.mk (by omega) ?_ ?_ (fun h9 => ?_), q5, ea, ec⟩
  · rw [ea]; exact px.sn hP.2.2.2 q4 hx
  · rw [ec]; exact py.sn hP.2.2.2 q4 hy
  · obtain ⟨z, e, vz, pz⟩ := hz (by omega)
    have z4 := (hP.nw vz).1
    rw [show uE γ t = z by unfold uE; rw [q8, e, nI_clamp (by omega)]]
    exact pz.sn hP.2.2.2 q4 vz
theorem node_k {k x y : Nat} {c : Int32} {k' : Int32 → mS → Option (kO × mS)} {P : Int32 → mS → Prop} {X : mS → Prop} (hn : nrm W s) (h : PSm W s Lc Lr sz t p sc ph α) (hk : 6 ≤ k ∧ k ≤ 9) (hx : vd W s t x) (hy : vd W s t y) (px : PN α x) (py : PN α y) (hz : k = 9 → ∃ z, c = nI z ∧ vd W s t z ∧ PN α z) (hkk : ∀ r t1 β, QP W s Lc Lr sz t p sc ph α sc ph t1 p β → vd W s t1 r → fit β r → PN β r → (uK β r = k ∧ uA β r = x ∧ uC β r = y) → rI (k' (nI r) β) P X) (hX : ∀ β, XP W s t α β → X β) : rI (mBi (f_Mod_node N (nI k) (nI x) (nI y) c α) fun v β => mBi (f_Mod_fits N v β) fun v' γ => k' v' γ) P X := by
  rcases node_p (N := N) (k := k) (c := c) hn h hk hx hy px py hz with ⟨v, β, e, r, t1, rfl, a1, a2, a3, a4, a5⟩ | ⟨β, e, q⟩
  · rcases hnode : f_Mod_node N (nI k) (nI x) (nI y) c α with _ | ⟨_ | _ | v, γ⟩
    · rw [hnode] at e; cases e
    · rw [hnode] at e; cases e
    · rw [hnode] at e; cases e
    · rw [hnode] at e
      have e : f_Mod_fits N v γ = some (some (some (nI r)), β) := e
      show rI (mBi (f_Mod_fits N v γ) fun v' γ => k' v' γ) P X
      rw [e]
      exact hkk r t1 β a1 a2 a3 a4 a5
  · rcases hnode : f_Mod_node N (nI k) (nI x) (nI y) c α with _ | ⟨_ | _ | v, γ⟩
    · rw [hnode] at e; cases e
    · rw [hnode] at e
      injection e with e
      injection e with _ e
      exact rI.thr (hX _ (by rw [e]; exact q))
    · rw [hnode] at e; cases e
    · rw [hnode] at e
      have e : f_Mod_fits N v γ = some (none, β) := e
      show rI (mBi (f_Mod_fits N v γ) fun v' γ => k' v' γ) P X
      rw [e]
      exact rI.thr (hX β q)
end PARSE
