-- minor: the type of a minor premise
def ml (P : Nat → Nat) (a b v : Nat) : Prop := ∃ i, a ≤ i ∧ i < b ∧ P i = v
def smf (g : Nat → Nat) : Nat → Nat
  | 0 => 0
  | n + 1 => smf g n + g n
/-- the VARIABLE of an argument and its type -/
def AT (W : Nat → Prop) (s t : Nat) (α : mS) (nv nq B : Nat) (S : Nat → Prop) (r : Int32) (v : Nat) : Prop := (v < nv ∧ v < 66000) ∧ ∃ ty, α.2 32 v = nI ty ∧ TM W s t α 3000 200 S ty ∧ uB α ty ≤ B ∧ (r ≠ 0 → ∃ x, FEn α nq x ty)
/-- the FREE variables of an argument: the parameters, the arguments before it -/
def SA (np : Nat) (P G : Nat → Nat) (f i v : Nat) : Prop := ml P 0 np v ∨ ml G f (f + i) v
/-- a CONSTRUCTOR: its arguments, its end -/
def CF (W : Nat → Prop) (s t : Nat) (α : mS) (nv np nq k : Nat) (P G z : Nat → Nat) (j f m e : Nat) : Prop := α.2 36 j = nI f ∧ α.2 18 (k + 1 + j) = nI m ∧ m ≤ 199 ∧ f + m ≤ 4000 ∧ (α.2 37 j = nI e ∧ TM W s t α 3000 200 (SA np P G f m) e ∧ apn α nq e) ∧ ∀ i, i < m → α.2 38 (f + i) = nI (G (f + i)) ∧ AT W s t α nv nq (z (f + i)) (SA np P G f i) (α.2 39 (f + i)) (G (f + i)) ∧ z (f + i) ≤ 3000
/-- the parameters and the indices -/
def PF (W : Nat → Prop) (s t : Nat) (α : mS) (nv nq : Nat) (P : Nat → Nat) : Prop := ∀ i, i < nq → α.2 33 i = nI (P i) ∧ VT W s t α nv 3000 200 (ml P 0 i) (P i)
def hzf (B : Nat) : Nat := (B - 1) / 2
/-- the list and the types of its VARIABLES -/
def LF (W : Nat → Prop) (s t : Nat) (α : mS) (nv ℓ : Nat) (L : Nat → Nat) (D : Nat) (Si : Nat → Nat → Prop) : Prop := α.1 30 = nI ℓ ∧ ∀ i, i < ℓ → α.2 41 i = nI (L i) ∧ ∃ B, VT W s t α nv B D (Si i) (L i)
def SB (cv np : Nat) (P G : Nat → Nat) (f i v : Nat) : Prop := v = cv ∨ SA np P G f i v
theorem smf_le {g : Nat → Nat} {a b : Nat} (h : a ≤ b) : smf g a ≤ smf g b := by
  induction h with
  | refl => exact Nat.le_refl _
  | step _ ih => exact Nat.le_trans ih (Nat.le_add_right _ _)
section MINOR
variable {N : Nat} {W : Nat → Prop} {s Lc : Nat} {Lr : Nat → Prop} {w t0 t1 nv nv1 U U1 nq B : Nat} {S S' : Nat → Prop} {α β : mS}
theorem MV.up {U' : Nat} (h : MV W s Lc Lr U t0 α w nv) (hU : U ≤ U') : MV W s Lc Lr U' t0 α w nv := ⟨h.1, h.2.1, h.2.2.1, by have := h.2.2.2; omega⟩
theorem AT.qw {r : Int32} {v : Nat} (h : AT W s t0 α nv nq B S r v) (hP : PO W s Lc Lr t0 α) (g : QW W s Lc Lr w t0 α nv U t1 nv1 β) : AT W s t1 β nv1 nq B S r v := by
  obtain ⟨⟨a, a'⟩, ty, b, c, d, e⟩ := h
  refine ⟨⟨Nat.lt_of_lt_of_le a g.2.2.2.2.1, a'⟩, ty, (g.2.2.2.2.2 v a).trans b, c.qw hP g, by rw [g.2.2.1.b c.1]; exact d, fun z => ?_⟩
  obtain ⟨x, e⟩ := e z
  exact ⟨x, e.sn hP.2.2.2 g.2.2.1 c.1⟩
theorem AT.vt {r : Int32} {v : Nat} (h : AT W s t0 α nv nq B S r v) : VT W s t0 α nv B 200 S v := by
  obtain ⟨a, ty, b, c, d, -⟩ := h
  exact ⟨a, ty, b, c.su (by decide) (Nat.le_refl _) (fun _ z => z), d⟩
theorem CF.qw {np k j f m e : Nat} {P G z : Nat → Nat} (h : CF W s t0 α nv np nq k P G z j f m e) (hP : PO W s Lc Lr t0 α) (g : QW W s Lc Lr w t0 α nv U t1 nv1 β) : CF W s t1 β nv1 np nq k P G z j f m e := by
  obtain ⟨a, b, c, d, ⟨e1, e2, e3⟩, i⟩ := h
  have hc := g.2.1
  refine ⟨by rw [hc.arr (by decide)]; exact a, by rw [hc.arr (by decide)]; exact b, c, d, ⟨by rw [hc.arr (by decide)]; exact e1, e2.qw hP g, apn_sn hP.2.2.2 g.2.2.1 e2.1 e3⟩, fun l hl => ?_⟩
  obtain ⟨i1, i2, i3⟩ := i l hl
  exact ⟨by rw [hc.arr (by decide)]; exact i1, by rw [hc.arr (by decide)]; exact i2.qw hP g, i3⟩
theorem PF.qw {P : Nat → Nat} (h : PF W s t0 α nv nq P) (hP : PO W s Lc Lr t0 α) (g : QW W s Lc Lr w t0 α nv U t1 nv1 β) : PF W s t1 β nv1 nq P := fun i hi => by
  obtain ⟨a, b⟩ := h i hi
  exact ⟨by rw [g.2.1.arr (by decide)]; exact a, b.qw hP g⟩
/-- the hypothesis of an argument -/
theorem mi_127 {np q' ed st x i fr a cv c v0 : Nat} {y7 y1 y2 : Int32} {Sa : Nat → Prop} {k70 : Int32 → Int32 → Int32 → Int32 → Int32 → Int32 → Int32 → Int32 → mS → Option (kO × mS)} {Pi : Int32 → mS → Prop} {Px : mS → Prop} (hN : 400000 < N) (hn : nrm W s) (hnq : np + q' = nq) (hq : nq ≤ 199) (hx : x ≤ 199) (hst : st + x < 9000) (hU : U < 6000) (ha : a < 66000) (hfr : fr + i < 4000) : ∀ (d zz y nn t0 : Nat) (α : mS), zz + d = nq → np ≤ zz → d < nn → MV W s Lc Lr U t0 α w nv → α.1 30 = nI (st + x) → α.1 31 = nI x → α.2 38 (fr + i) = nI a → TM W s t0 α 3000 200 (fun v => v = cv ∨ v = a ∨ Sa v ∨ v0 ≤ v ∧ v < v0 + x) ed → apn α nq ed → TM W s t0 α (3000 + (zz - np)) 200 (fun v => v = cv ∨ v = a ∨ Sa v ∨ v0 ≤ v ∧ v < v0 + x) y → (∀ l, l < x → α.2 41 (st + l) = nI (v0 + l) ∧ VT W s t0 α nv 1000000 200 (fun v => Sa v ∨ v0 ≤ v ∧ v < v0 + l) (v0 + l)) → (∀ t1 β, QW W s Lc Lr w t0 α nv (U + 1) t1 (nv + 1) β → β.1 30 = nI (st + 1) → (∀ i, i < st → β.2 41 i = α.2 41 i) → β.2 41 st = nI nv → VT W s t1 β (nv + 1) 1000000 399 (fun v => v = cv ∨ v = a ∨ Sa v) nv → rI (k70 (nI (i + 1)) y7 (nI fr) y1 y2 (nI np) (nI q') (nI c) β) Pi Px) → (∀ β, XV W s t0 α β → Px β) → rI (f_Mod_minor_127 N k70 nn (nI zz) (nI y) (nI ed) (nI st) (nI i) y7 (nI fr) y1 y2 (nI np) (nI q') (nI c) α) Pi Px
  | 0, zz, y, nn, t0, α, hd, hz, hm, h, h30, h31, h38, hed, hap, hy, hL, hk, hX => by
    obtain ⟨nn, rfl⟩ : ∃ n', nn = n' + 1 := ⟨nn - 1, by omega⟩
    have ez : zz = nq := by omega
    subst ez
    rw [f_Mod_minor_127, nI_add, hnq, if_pos (nI_le (by omega) (by omega)), nI_add, nI_clamp (show fr + i < 2 ^ 31 by omega), h38]
    refine rI.ix (mix' hfr (by decide)) ?_
    have vl : ∀ l, l < x → v0 + l < 66000 := fun l hl => (hL l hl).2.1.2
    refine (app2_ok (L := fun l => v0 + (l - st)) (S := fun v => v = cv ∨ v = a ∨ Sa v ∨ v0 ≤ v ∧ v < v0 + x) hN hn (by omega) (Nat.le_add_left x st) h h30 h31 ⟨ha, Or.inr (Or.inl rfl)⟩ (fun l l1 l2 => ?_)).bi (fun v β g => ?_) hX
    · have := (hL (l - st) (by omega)).1
      rw [show st + (l - st) = l by omega] at this
      exact ⟨this, vl _ (by omega), Or.inr (Or.inr (Or.inr ⟨by omega, by omega⟩))⟩
    obtain ⟨r, t1, rfl, g1, g2⟩ := g
    refine (appl_v (q := 4000) (D := 200) hn g1.mv (hy.qw h.1 g1.1) g2 (by omega) (by omega)).bi (fun v γ u => ?_) (fun γ u => hX _ (g1.1.tx u))
    obtain ⟨r2, t2, rfl, u1, u2⟩ := u
    have q2 := g1.tr u1
    refine (chain_ok' (ℓ := st + x) (k := 6) (f := st) (L := fun l => v0 + (l - st)) (Si := fun l v => Sa v ∨ v0 ≤ v ∧ v < v0 + (l - st)) (S := fun v => v = cv ∨ v = a ∨ Sa v) hN hn (Or.inl rfl) (Nat.le_refl _) (by decide) (by decide) (by omega) (by omega) (fun l l1 l2 v z => ?_) (fun v z => ?_) u1.mv (q2.2.1.trans h30) (fun l l1 l2 => ?_) (fun l l1 l2 => ?_) u2).bi (fun v δ z => ?_) (fun δ z => hX _ (q2.1.tx z))
    · rcases z with z | z
      · exact Or.inl (Or.inr (Or.inr z))
      · exact Or.inr ⟨st + (v - v0), by omega, by omega, by show v0 + (st + (v - v0) - st) = v; omega⟩
    · rcases z with z | z | z | z
      · exact Or.inl (Or.inl z)
      · exact Or.inl (Or.inr (Or.inl z))
      · exact Or.inl (Or.inr (Or.inr z))
      · exact Or.inr ⟨st + (v - v0), by omega, by omega, by show v0 + (st + (v - v0) - st) = v; omega⟩
    · rw [q2.2.2.2]
      have := (hL (l - st) (by omega)).1
      rw [show st + (l - st) = l by omega] at this
      exact this
    · exact ⟨_, (hL (l - st) (by omega)).2.qw h.1 q2.1⟩
    obtain ⟨r3, t3, rfl, z1, z2, z3, z4⟩ := z
    have q3 := q2.1.tr z1
    refine (fresh_v hn z1.mv hU).bi (fun v ε o => ?_) (fun δ z => hX _ (q3.tx z))
    obtain ⟨r4, t4, rfl, o1, ⟨o2, o3⟩, o4, o5, o6⟩ := o
    have hW4 := o1.mv.1.2.2.2
    obtain ⟨ζ, eζ, p1, p2, p3, p4, p5⟩ := push_q (X := ε.2 3 r4) o1.mv (o1.2.1.trans z3) (by omega)
    rw [hW4.cl o6.1, nI_1]
    refine rI.ix (hW4.ix o6.1) (rI.ix p1 ?_)
    rw [eζ]
    have q5 := (q3.tr o1.1).tr p3
    have e41 : ε.2 41 = α.2 41 := by rw [o1.2.2.2, z4, q2.2.2.2]
    refine hk t4 ζ q5 p4 (fun i hi => ?_) ?_ ?_
    · rw [p5, upd_ne (by omega), e41]
    · rw [p5, upd_at, o3]
    · exact VT.qw (n := nv + 1) ⟨⟨by omega, o4⟩, r3, o5, (z2.qw z1.mv.1 o1.1).su (Nat.le_refl _) (by omega) (fun _ z => z), (hW4 _ (z2.qw z1.mv.1 o1.1).1).2.2.1.2.2⟩ o1.mv.1 p3
  | d + 1, zz, y, nn, t0, α, hd, hz, hm, h, h30, h31, h38, hed, hap, hy, hL, hk, hX => by
    obtain ⟨nn, rfl⟩ : ∃ n', nn = n' + 1 := ⟨nn - 1, by omega⟩
    rw [f_Mod_minor_127, nI_add, hnq, if_neg (nI_ge (by omega) (by omega))]
    obtain ⟨r, er, tr⟩ := nth_v (D := 199) hN h.1 hed hap (show zz < nq by omega)
    refine rI.ob er ((appl_v (q := 3000 + (zz + 1 - np)) (D := 200) hn h hy tr (by omega) (by omega)).bi (fun v β g => ?_) hX)
    obtain ⟨r1, t1, rfl, g1, g2⟩ := g
    rw [nI_1]
    refine mi_127 hN hn hnq hq hx hst hU ha hfr d (zz + 1) r1 nn t1 β (by omega) (by omega) (by omega) g1.mv (g1.2.1.trans h30) (g1.2.2.1.trans h31) (by rw [g1.1.2.1.arr (by decide)]; exact h38) (hed.qw h.1 g1.1) (apn_sn h.1.2.2.2 g1.1.2.2.1 hed.1 hap) g2 (fun l hl => ?_) (fun t2 γ u1 u2 u3 u4 u5 => ?_) (fun γ u => hX γ (g1.1.tx u))
    · obtain ⟨l1, l2⟩ := hL l hl
      exact ⟨by rw [g1.2.2.2]; exact l1, l2.qw h.1 g1.1⟩
    · exact hk t2 γ (g1.1.tr u1) u2 (fun i hi => by rw [u3 i hi, g1.2.2.2]) u4 u5
theorem LF.qv {ℓ D : Nat} {L : Nat → Nat} {Si : Nat → Nat → Prop} (h : LF W s t0 α nv ℓ L D Si) (hP : PO W s Lc Lr t0 α) (g : QV W s Lc Lr w t0 α nv U t1 nv1 β) : LF W s t1 β nv1 ℓ L D Si :=
  ⟨g.2.1.trans h.1, fun i hi => by
    obtain ⟨a, B, b⟩ := h.2 i hi
    exact ⟨by rw [g.2.2.2]; exact a, B, b.qw hP g.1⟩⟩
theorem ml_up {P : Nat → Nat} {a b c v : Nat} (h : b ≤ c) (z : ml P a b v) : ml P a c v := by
  obtain ⟨i, a, b, c⟩ := z
  exact ⟨i, a, by omega, c⟩
theorem SA_up {np f i j v : Nat} {P G : Nat → Nat} (h : i ≤ j) (z : SA np P G f i v) : SA np P G f j v := z.imp id (ml_up (by omega))
def GF (α : mS) (f m : Nat) (G : Nat → Nat) : Prop := ∀ l, l < m → α.2 38 (f + l) = nI (G (f + l)) ∧ G (f + l) < 66000
theorem GF.qw {f m : Nat} {G : Nat → Nat} (h : GF α f m G) (g : QW W s Lc Lr w t0 α nv U t1 nv1 β) : GF β f m G := fun l hl => by rw [g.2.1.arr (by decide)]; exact h l hl
theorem mi_298 {f m ℓ cv np x : Nat} {P G L : Nat → Nat} (hN : 400000 < N) (hn : nrm W s) (hm9 : m ≤ 199) (hf4 : f + m ≤ 4000) (hp : np ≤ 199) (hℓ : ℓ ≤ 398) (hmℓ : m ≤ ℓ) (hL : ∀ i, i < m → L i = G (f + i)) : ∀ (d i sf nn t0 : Nat) (α : mS), i + d = m → d < nn → MV W s Lc Lr U t0 α w nv → LF W s t0 α nv ℓ L 399 (fun i => SB cv np P G f (min i m)) → GF α f m G → TM W s t0 α 3999 200 (SB cv np P G f m) x → TM W s t0 α (np + i) 2 (SB cv np P G f m) sf → rI (f_Mod_minor_298 N nn (nI i) (nI sf) (nI x) (nI m) (nI f) α) (fun v β => ∃ r t1, v = nI r ∧ QW W s Lc Lr w t0 α nv U t1 nv β ∧ TM W s t1 β 4000 797 (fun v => v = cv ∨ ml P 0 np v) r) (XV W s t0 α)
  | 0, i, sf, nn, t0, α, hd, hm, h, hl, hg, hx, hs => by
    obtain ⟨nn, rfl⟩ : ∃ n', nn = n' + 1 := ⟨nn - 1, by omega⟩
    rw [f_Mod_minor_298, if_pos (nI_le (by omega) (by omega))]
    refine (appl_v (q := 4000) (D := 200) hn h hx hs (by omega) (by omega)).bi (fun v β g => ?_) (fun _ g => g)
    obtain ⟨r, t1, rfl, g1, g2⟩ := g
    have hl1 := hl.qv h.1 g1
    have gj : ∀ b v, ml G f (f + min b m) v → b ≤ ℓ → ∃ j, 0 ≤ j ∧ j < b ∧ L j = v := fun b v z _ => by
      obtain ⟨l, l1, l2, l3⟩ := z
      refine ⟨l - f, Nat.zero_le _, by omega, ?_⟩
      rw [hL (l - f) (by omega), show f + (l - f) = l by omega]; exact l3
    refine (chain_ok' (ℓ := ℓ) (k := 6) (f := 0) (D := 399) (L := L) (Si := fun i => SB cv np P G f (min i m)) (S := fun v => v = cv ∨ ml P 0 np v) hN hn (Or.inl rfl) (Nat.le_refl _) (by decide) (by decide) (by omega) (by omega) (fun l l1 l2 v z => ?_) (fun v z => ?_) g1.mv hl1.1 (fun l _ l2 => (hl1.2 l l2).1) (fun l _ l2 => (hl1.2 l l2).2) (g2.su (Nat.le_refl _) (by decide) (fun _ z => z))).bi (fun v γ u => ?_) (fun γ u => g1.1.tx u)
    · rcases z with z | z | z
      · exact Or.inl (Or.inl z)
      · exact Or.inl (Or.inr z)
      · exact Or.inr (gj l v z (by omega))
    · rcases z with z | z | z
      · exact Or.inl (Or.inl z)
      · exact Or.inl (Or.inr z)
      · exact Or.inr (gj ℓ v (by rw [Nat.min_eq_right hmℓ]; exact z) (Nat.le_refl _))
    obtain ⟨r2, t2, rfl, u1, u2, -⟩ := u
    exact rI.ret ⟨r2, t2, rfl, g1.1.tr u1, u2.su (Nat.le_refl _) (by omega) (fun _ z => z)⟩
  | d + 1, i, sf, nn, t0, α, hd, hm, h, hl, hg, hx, hs => by
    obtain ⟨nn, rfl⟩ : ∃ n', nn = n' + 1 := ⟨nn - 1, by omega⟩
    obtain ⟨e1, e2⟩ := hg i (by omega)
    rw [f_Mod_minor_298, if_neg (nI_ge (by omega) (by omega)), nI_add, nI_clamp (show f + i < 2 ^ 31 by omega), e1]
    refine rI.ix (mix' (show f + i < 4000 by omega) (by decide)) ((free_v (S := SB cv np P G f m) hn h e2 (Or.inr (Or.inr ⟨f + i, by omega, by omega, rfl⟩))).bi (fun v β g => ?_) (fun _ g => g))
    obtain ⟨r, t1, rfl, g1, -, g2⟩ := g
    refine (appl_v (q := np + (i + 1)) (D := 2) hn g1.mv (hs.qw h.1 g1.1) g2 (by omega) (by omega)).bi (fun v γ u => ?_) (fun γ u => g1.1.tx u)
    obtain ⟨r2, t2, rfl, u1, u2⟩ := u
    have q2 := g1.tr u1
    rw [nI_1]
    refine (mi_298 hN hn hm9 hf4 hp hℓ hmℓ hL d (i + 1) r2 nn t2 γ (by omega) (by omega) u1.mv (hl.qv h.1 q2) (hg.qw q2.1) (hx.qw h.1 q2.1) u2).mono (fun v δ z => ?_) (fun δ z => q2.1.tx z)
    obtain ⟨r3, t3, e3, z1, z2⟩ := z
    exact ⟨r3, t3, e3, q2.1.tr z1, z2⟩
theorem mi_236 {k j f m ℓ cv np q' e : Nat} {P G L z : Nat → Nat} (hN : 400000 < N) (hn : nrm W s) (hnq : np + q' = nq) (hq9 : nq ≤ 199) (hj : j < 301) (hkL : k + 1 + j < Lc) (hL3 : Lc ≤ 301) (hℓ : ℓ ≤ 398) (hmℓ : m ≤ ℓ) (hL : ∀ i, i < m → L i = G (f + i)) : ∀ (d zz x nn t0 : Nat) (α : mS), zz + d = nq → np ≤ zz → d < nn → MV W s Lc Lr U t0 α w nv → LF W s t0 α nv ℓ L 399 (fun i => SB cv np P G f (min i m)) → CF W s t0 α nv np nq k P G z j f m e → PF W s t0 α nv nq P → TM W s t0 α (3000 + (zz - np)) 200 (SB cv np P G f m) x → rI (f_Mod_minor_236 N nn (nI zz) (nI x) (nI m) (nI f) (nI k) (nI j) (nI np) (nI q') α) (fun v β => ∃ r t1, v = nI r ∧ QW W s Lc Lr w t0 α nv U t1 nv β ∧ TM W s t1 β 4000 797 (fun v => v = cv ∨ ml P 0 np v) r) (XV W s t0 α)
  | 0, zz, x, nn, t0, α, hd, hzz, hm, h, hl, hc, hp, hx => by
    obtain ⟨nn, rfl⟩ : ∃ n', nn = n' + 1 := ⟨nn - 1, by omega⟩
    obtain ⟨c1, c2, c3, c4, c5, c6⟩ := hc
    have hg : GF α f m G := fun l hl => ⟨(c6 l hl).1, (c6 l hl).2.1.1.2⟩
    rw [f_Mod_minor_236, nI_add, hnq, if_pos (nI_le (by omega) (by omega)), nI_1, nI_add]
    refine (leaf_v (k := 1) (S := SB cv np P G f m) hn h (by decide) (fun _ => ⟨k + 1 + j, rfl, hkL, by omega⟩) (fun z => absurd z (by decide)) (fun z => absurd z (by decide)) (by decide)).bi (fun v β g => ?_) (fun _ g => g)
    obtain ⟨r, t1, rfl, g1, -, g2⟩ := g
    refine (of_ok (f := 0) (P := P) (D := 2) (q := 0) (S := SB cv np P G f m) hN hn (by decide) (by omega) g1.mv (fun l hl => ?_) (g2.su (Nat.le_refl _) (by decide) (fun _ z => z))).bi (fun v γ u => ?_) (fun γ u => g1.1.tx u)
    · rw [Nat.zero_add, g1.1.2.1.arr (by decide)]
      obtain ⟨p1, p2⟩ := hp l (by omega)
      exact ⟨p1, p2.1.2, Or.inr (Or.inl ⟨l, by omega, hl, rfl⟩)⟩
    obtain ⟨r2, t2, rfl, u1, u2⟩ := u
    have q2 := g1.tr u1
    refine (mi_298 hN hn c3 c4 (by omega) hℓ hmℓ hL m 0 r2 N t2 γ (by omega) (by omega) u1.mv (hl.qv h.1 q2) (hg.qw q2.1) ((hx.qw h.1 q2.1).su (by omega) (Nat.le_refl _) (fun _ z => z)) (u2.su (by omega) (Nat.le_refl _) (fun _ z => z))).mono (fun v δ z => ?_) (fun δ z => q2.1.tx z)
    obtain ⟨r3, t3, e3, z1, z2⟩ := z
    exact ⟨r3, t3, e3, q2.1.tr z1, z2⟩
  | d + 1, zz, x, nn, t0, α, hd, hzz, hm, h, hl, hc, hp, hx => by
    obtain ⟨nn, rfl⟩ : ∃ n', nn = n' + 1 := ⟨nn - 1, by omega⟩
    have hc' := hc
    obtain ⟨c1, c2, c3, c4, ⟨c5, c5', c5''⟩, c6⟩ := hc'
    rw [f_Mod_minor_236, nI_add, hnq, if_neg (nI_ge (by omega) (by omega)), nI_clamp (show j < 2 ^ 31 by omega), c5]
    refine rI.ix (mix' hj (by decide)) ?_
    obtain ⟨r, er, tr⟩ := nth_v (D := 199) hN h.1 c5' c5'' (show zz < nq by omega)
    refine rI.ob er ((appl_v (q := 3000 + (zz + 1 - np)) (D := 200) hn h hx (tr.su (Nat.le_refl _) (Nat.le_refl _) (fun _ z => Or.inr z)) (by omega) (by omega)).bi (fun v β g => ?_) (fun _ g => g))
    obtain ⟨r1, t1, rfl, g1, g2⟩ := g
    rw [nI_1]
    refine (mi_236 hN hn hnq hq9 hj hkL hL3 hℓ hmℓ hL d (zz + 1) r1 nn t1 β (by omega) (by omega) (by omega) g1.mv (hl.qv h.1 g1) (hc.qw h.1 g1.1) (hp.qw h.1 g1.1) g2).mono (fun v δ z => ?_) (fun δ z => g1.1.tx z)
    obtain ⟨r3, t3, e3, z1, z2⟩ := z
    exact ⟨r3, t3, e3, g1.1.tr z1, z2⟩
theorem hz_le {B x b : Nat} (h : 2 * x + 1 ≤ b) (hb : b ≤ B) : x ≤ hzf B := by unfold hzf; omega
theorem mi_70 {k j f m cv np q' e c U0 UM : Nat} {P G z : Nat → Nat} (hN : 400000 < N) (hn : nrm W s) (hnq : np + q' = nq) (hq9 : nq ≤ 199) (hj : j < 301) (hkL : k + 1 + j < Lc) (hL3 : Lc ≤ 301) (hUM : U0 + smf (fun i => hzf (z (f + i)) + 1) m ≤ UM) (hUM6 : UM ≤ 6000) : ∀ (d i nn t0 nv ℓ : Nat) (L : Nat → Nat) (α : mS), i + d = m → d < nn → m ≤ ℓ → ℓ ≤ m + i → (∀ i, i < m → L i = G (f + i)) → U0 + smf (fun i => hzf (z (f + i)) + 1) i + (smf (fun i => hzf (z (f + i)) + 1) m - smf (fun i => hzf (z (f + i)) + 1) i) ≤ UM → MV W s Lc Lr (U0 + smf (fun i => hzf (z (f + i)) + 1) i) t0 α w nv → LF W s t0 α nv ℓ L 399 (fun i => SB cv np P G f (min i m)) → CF W s t0 α nv np nq k P G z j f m e → PF W s t0 α nv nq P → TM W s t0 α 0 1 (fun v => v = cv) c → rI (f_Mod_minor_70 N nn (nI i) (nI m) (nI f) (nI k) (nI j) (nI np) (nI q') (nI c) α) (fun v β => ∃ r t1 nv1, v = nI r ∧ QW W s Lc Lr w t0 α nv (U0 + smf (fun i => hzf (z (f + i)) + 1) m) t1 nv1 β ∧ TM W s t1 β 4000 797 (fun v => v = cv ∨ ml P 0 np v) r) (XV W s t0 α)
  | 0, i, nn, t0, nv, ℓ, L, α, hd, hm, hmℓ, hℓi, hL, hUi, h, hl, hc, hp, hcv => by
    obtain ⟨nn, rfl⟩ : ∃ n', nn = n' + 1 := ⟨nn - 1, by omega⟩
    have ei : i = m := by omega
    subst ei
    rw [f_Mod_minor_70, if_pos (nI_le (by omega) (by have := hc.2.2.1; omega))]
    have m9 := hc.2.2.1
    refine (mi_236 hN hn hnq hq9 hj hkL hL3 (by omega) hmℓ hL q' np c N t0 α hnq (Nat.le_refl _) (by omega) h hl hc hp (hcv.su (by omega) (by decide) (fun _ z => Or.inl z))).mono (fun v δ z => ?_) (fun δ z => z)
    obtain ⟨r3, t3, e3, z1, z2⟩ := z
    exact ⟨r3, t3, nv, e3, z1, z2⟩
  | d + 1, i, nn, t0, nv, ℓ, L, α, hd, hm, hmℓ, hℓi, hL, hUi, h, hl, hc, hp, hcv => by
    obtain ⟨nn, rfl⟩ : ∃ n', nn = n' + 1 := ⟨nn - 1, by omega⟩
    have hc' := hc
    obtain ⟨c1, c2, c3, c4, -, c6⟩ := hc'
    obtain ⟨a1, a2, a3⟩ := c6 i (by omega)
    have sstep : smf (fun i => hzf (z (f + i)) + 1) (i + 1) = smf (fun i => hzf (z (f + i)) + 1) i + (hzf (z (f + i)) + 1) := rfl
    have smono : smf (fun i => hzf (z (f + i)) + 1) (i + 1) ≤ smf (fun i => hzf (z (f + i)) + 1) m := smf_le (by omega)
    rw [f_Mod_minor_70, if_neg (nI_ge (by omega) (by omega)), nI_add, nI_clamp (show f + i < 2 ^ 31 by omega)]
    have ix := mix' (show f + i < 4000 by omega) (by decide)
    refine rI.ix ix (rI.ite (fun _ => ?_) fun ne => rI.ix ix ?_)
    · rw [nI_1]
      exact mi_70 hN hn hnq hq9 hj hkL hL3 hUM hUM6 d (i + 1) nn t0 nv ℓ L α (by omega) (by omega) hmℓ (by omega) hL (by omega) (h.up (by omega)) hl hc hp hcv
    · obtain ⟨⟨b1, b2⟩, ty, b3, b4, b5, b6⟩ := a2
      obtain ⟨x, fx⟩ := b6 ne
      have sz := FEn.sz h.1.2.2.2 b4.1 fx (by omega)
      have hxz := hz_le sz.2 b5
      have x9 : x ≤ 199 := by have := b4.2.1; omega
      rw [a1, nI_clamp (show G (f + i) < 2 ^ 31 by omega), b3]
      refine rI.ix (mix' b2 (by decide)) ?_
      refine (ended_ok (x := x) (by decide) hN hn h hl.1 (by omega) (by omega) (by omega) fx b4).bi (fun v β g => ?_) (fun _ g => g)
      obtain ⟨r, t1, rfl, g1, g2, g3, g4, g5, g6, g7⟩ := g
      rw [hl.1]
      refine mi_127 (U := U0 + smf (fun i => hzf (z (f + i)) + 1) i + x) (cv := cv) (a := G (f + i)) (Sa := SA np P G f i) (v0 := nv) (nv := nv + x) hN hn hnq hq9 x9 (show ℓ + x < 9000 by omega) (by omega) b2 (show f + i < 4000 by omega) q' np c N t1 β hnq (Nat.le_refl _) (by omega) g1.mv g4 g5 (by rw [g1.2.1.arr (by decide)]; exact a1) (g2.su (Nat.le_refl _) (Nat.le_refl _) (fun v z => Or.inr (Or.inr z))) g3 ((hcv.qw h.1 g1).su (by omega) (by decide) (fun _ z => Or.inl z)) (fun l hl' => g7 l hl') (fun t2 γ u1 u2 u3 u4 u5 => ?_) (fun γ u => g1.tx u)
      have q2 := g1.tr u1
      have hMV : MV W s Lc Lr (U0 + smf (fun i => hzf (z (f + i)) + 1) (i + 1)) t2 γ w (nv + x + 1) := u1.mv.up (by omega)
      refine (mi_70 hN hn hnq hq9 hj hkL hL3 hUM hUM6 d (i + 1) nn t2 (nv + x + 1) (ℓ + 1) (fun l => if l < ℓ then L l else nv + x) γ (by omega) (by omega) (by omega) (by omega) (fun l hl' => ?_) (by omega) hMV ⟨u2, fun l hl' => ?_⟩ (hc.qw h.1 q2) (hp.qw h.1 q2) (hcv.qw h.1 q2)).mono (fun v δ z => ?_) (fun δ z => q2.tx z)
      · show (if l < ℓ then L l else nv + x) = _
        rw [if_pos (by omega)]; exact hL l hl'
      · show γ.2 41 l = nI (if l < ℓ then L l else nv + x) ∧ ∃ B, VT W s t2 γ (nv + x + 1) B 399 _ (if l < ℓ then L l else nv + x)
        rcases Nat.lt_or_ge l ℓ with y | y
        · rw [if_pos y]
          obtain ⟨y1, B, y2⟩ := hl.2 l y
          exact ⟨by rw [u3 l y, g6 l y]; exact y1, B, y2.qw h.1 q2⟩
        · have el : l = ℓ := by omega
          rw [if_neg (by omega), el]
          refine ⟨u4, _, u5.su (Nat.le_refl _) (Nat.le_refl _) (fun v z => ?_)⟩
          show SB cv np P G f (min ℓ m) v
          rw [Nat.min_eq_right hmℓ]
          rcases z with z | z | z
          · exact Or.inl z
          · exact Or.inr (Or.inr ⟨f + i, by omega, by omega, z.symm⟩)
          · exact Or.inr (SA_up (by omega) z)
      · obtain ⟨r3, t3, n3, e3, z1, z2⟩ := z
        exact ⟨r3, t3, n3, e3, q2.tr z1, z2⟩
theorem mi_28 {f m : Nat} {G : Nat → Nat} {y1 y2 y3 y4 y5 : Int32} (hm9 : m ≤ 199) (hf4 : f + m ≤ 4000) : ∀ (d i nn t0 : Nat) (α : mS) (Pi : Int32 → mS → Prop) (Px : mS → Prop), i + d = m → d < nn → MV W s Lc Lr U t0 α w nv → α.1 30 = nI i → (∀ l, l < i → α.2 41 l = nI (G (f + l))) → (∀ l, l < m → α.2 38 (f + l) = nI (G (f + l))) → (∀ β, QW W s Lc Lr w t0 α nv U t0 nv β → β.1 30 = nI m → (∀ l, l < m → β.2 41 l = nI (G (f + l))) → rI (f_Mod_minor_70 N N 0 (nI m) (nI f) y1 y2 y3 y4 y5 β) Pi Px) → rI (f_Mod_minor_28 N nn (nI i) (nI m) (nI f) y1 y2 y3 y4 y5 α) Pi Px
  | 0, i, nn, t0, α, Pi, Px, hd, hm, h, h30, hl, hg, hk => by
    obtain ⟨nn, rfl⟩ : ∃ n', nn = n' + 1 := ⟨nn - 1, by omega⟩
    have ei : i = m := by omega
    subst ei
    rw [f_Mod_minor_28, if_pos (nI_le (by omega) (by omega))]
    exact hk α (QW.rf h) h30 hl
  | d + 1, i, nn, t0, α, Pi, Px, hd, hm, h, h30, hl, hg, hk => by
    obtain ⟨nn, rfl⟩ : ∃ n', nn = n' + 1 := ⟨nn - 1, by omega⟩
    rw [f_Mod_minor_28, if_neg (nI_ge (by omega) (by omega)), nI_add, nI_clamp (show f + i < 2 ^ 31 by omega)]
    obtain ⟨γ, eγ, p1, p2, p3, p4, p5⟩ := push_q (X := α.2 38 (f + i)) h h30 (by omega)
    refine rI.ix (mix' (show f + i < 4000 by omega) (by decide)) (rI.ix p1 ?_)
    show rI (f_Mod_minor_28 N nn (nI i + 1) (nI m) (nI f) y1 y2 y3 y4 y5 (mSA (mSi α 30 (α.1 30 + 1)) 41 (upd ((mSi α 30 (α.1 30 + 1)).2 41) (α.1 30).toNatClampNeg (α.2 38 (f + i))))) _ _
    rw [eγ, nI_1]
    refine mi_28 hm9 hf4 d (i + 1) nn t0 γ Pi Px (by omega) (by omega) p3.mv p4 (fun l hl' => ?_) (fun l hl' => by rw [p2.arr (by decide)]; exact hg l hl') (fun β b1 b2 b3 => hk β (p3.tr b1) b2 b3)
    rw [p5]
    rcases Nat.lt_or_ge l i with y | y
    · rw [upd_ne (by omega)]; exact hl l y
    · have el : l = i := by omega
      rw [el, upd_at]; exact hg i (by omega)
/-- the type of a minor premise -/
theorem minor_m {k j f m cv np q' e c : Nat} {P G z : Nat → Nat} (hN : 400000 < N) (hn : nrm W s) (hnq : np + q' = nq) (hq9 : nq ≤ 199) (hj : j < 301) (hkL : k + 1 + j < Lc) (hL3 : Lc ≤ 301) (hU6 : U + smf (fun i => hzf (z (f + i)) + 1) m ≤ 6000) (h : MV W s Lc Lr U t0 α w nv) (hc : CF W s t0 α nv np nq k P G z j f m e) (hp : PF W s t0 α nv nq P) (hcv : TM W s t0 α 0 1 (fun v => v = cv) c) : rI (f_Mod_minor N (nI k) (nI j) (nI np) (nI q') (nI c) α) (fun v β => ∃ r t1 nv1, v = nI r ∧ QW W s Lc Lr w t0 α nv (U + smf (fun i => hzf (z (f + i)) + 1) m) t1 nv1 β ∧ TM W s t1 β 4000 797 (fun v => v = cv ∨ ml P 0 np v) r) (XV W s t0 α) := by
  have hc' := hc
  obtain ⟨c1, c2, c3, c4, -, c6⟩ := hc'
  unfold f_Mod_minor
  rw [nI_1, nI_add, nI_clamp (show j < 2 ^ 31 by omega), nI_clamp (show k + 1 + j < 2 ^ 31 by omega)]
  refine rI.ix (mix' hj (by decide)) (rI.ix (mix' (show k + 1 + j < 301 by omega) (by decide)) ?_)
  obtain ⟨ε, eε⟩ : ∃ ε, ε = mSi α 30 0 := ⟨_, rfl⟩
  rw [← eε]
  have ce : mch [30] [] α ε := by rw [eε]; exact mch.si (by decide)
  have se : ∀ V : Nat → Prop, sN V α ε := fun V => sN.ch ce (fun r _ _ z => by cases z)
  have q4 : QW W s Lc Lr w t0 α nv U t0 nv ε := ⟨Nat.le_refl _, ce.mo (by decide) (fun r z => by cases z), se _, ⟨h.1.sn ce (by decide) (se _), by rw [eε]; exact h.2⟩, Nat.le_refl _, fun i _ => by rw [ce.arr (fun z => by cases z)]⟩
  have hcε := hc.qw h.1 q4
  rw [hcε.2.1, hcε.1]
  refine mi_28 c3 c4 m 0 N t0 ε _ _ (by omega) (by omega) q4.mv (by rw [eε]; rfl) (fun l hl => by omega) (fun l hl => (hcε.2.2.2.2.2 l hl).1) (fun β b1 b2 b3 => ?_)
  have q5 := q4.tr b1
  have hcβ := hc.qw h.1 q5
  refine (mi_70 (cv := cv) (U0 := U) (UM := 6000) hN hn hnq hq9 hj hkL hL3 hU6 (by decide) m 0 N t0 nv m (fun l => G (f + l)) β (by omega) (by omega) (Nat.le_refl _) (by omega) (fun _ _ => rfl) (by show U + 0 + (_ - 0) ≤ _; omega) b1.mv ⟨b2, fun l hl => ⟨b3 l hl, _, ((hcβ.2.2.2.2.2 l hl).2.1.vt).su (Nat.le_refl _) (by decide) (fun v y => ?_)⟩⟩ hcβ (hp.qw h.1 q5) (hcv.qw h.1 q5)).mono (fun v δ z => ?_) (fun δ z => q5.tx z)
  · show SB cv np P G f (min l m) v
    rw [Nat.min_eq_left (by omega)]; exact Or.inr y
  · obtain ⟨r3, t3, n3, e3, z1, z2⟩ := z
    exact ⟨r3, t3, n3, e3, q5.tr z1, z2⟩
end MINOR
