-- minor: the type of a minor premise
def ml (P : Nat → Nat) (a b v : Nat) : Prop := ∃ i, a ≤ i ∧ i < b ∧ P i = v
def smf (g : Nat → Nat) : Nat → Nat
  | 0 => 0
  | n + 1 => smf g n + g n
/-- the VARIABLE of an argument and its type -/
def AT (W : Nat → Prop) (s t : Nat) (α : mS) (nv nq B : Nat) (S : Nat → Prop) (r : Int32) (v : Nat) : Prop := (v < nv ∧ v < 66000) ∧ ∃ ty, α.2 32 v = nI ty ∧ TM W s t α 3000 200 S ty ∧ uB α ty ≤ B ∧ (r ≠ 0 → ∃ x, FEn α nq x ty)
/-- the FREE variables of an argument: the parameters, the arguments before it -/
def SA (np : Nat) (P G : Nat → Nat) (f i v : Nat) : Prop := ml P 0 np v ∨ ml G f (f + i) v
/-- a CONSTRUCTOR: its arguments, its end -/
def CF (W : Nat → Prop) (s t : Nat) (α : mS) (nv np nq k : Nat) (P G z : Nat → Nat) (j f m e : Nat) : Prop := α.2 36 j = nI f ∧ α.2 18 (k + 1 + j) = nI m ∧ m ≤ 199 ∧ f + m ≤ 4000 ∧ (α.2 37 j = nI e ∧ TM W s t α 3000 200 (SA np P G f m) e ∧ apn α nq e) ∧ ∀ i, i < m → α.2 38 (f + i) = nI (G (f + i)) ∧ AT W s t α nv nq (z (f + i)) (SA np P G f i) (α.2 39 (f + i)) (G (f + i)) ∧ z (f + i) ≤ 3000
/-- the parameters and the indices -/
def PF (W : Nat → Prop) (s t : Nat) (α : mS) (nv nq : Nat) (P : Nat → Nat) : Prop := ∀ i, i < nq → α.2 33 i = nI (P i) ∧ VT W s t α nv 3000 200 (ml P 0 i) (P i)
def hzf (B : Nat) : Nat := (B - 1) / 2
section MINOR
variable {N : Nat} {W : Nat → Prop} {s Lc : Nat} {Lr : Nat → Prop} {w t0 t1 nv nv1 U U1 nq B : Nat} {S S' : Nat → Prop} {α β : mS}
theorem MV.up {U' : Nat} (h : MV W s Lc Lr U t0 α w nv) (hU : U ≤ U') : MV W s Lc Lr U' t0 α w nv := ⟨h.1, h.2.1, h.2.2.1, by have := h.2.2.2; omega⟩
theorem AT.qw {r : Int32} {v : Nat} (h : AT W s t0 α nv nq B S r v) (hP : PO W s Lc Lr t0 α) (g : QW W s Lc Lr w t0 α nv U t1 nv1 β) : AT W s t1 β nv1 nq B S r v := by
  obtain ⟨⟨a, a'⟩, ty, b, c, d, e⟩ := h
  refine ⟨⟨Nat.lt_of_lt_of_le a g.2.2.2.2.1, a'⟩, ty, (g.2.2.2.2.2 v a).trans b, c.qw hP g, by rw [g.2.2.1.b c.1]; exact d, fun z => ?_⟩
  obtain ⟨x, e⟩ := e z
  exact ⟨x, e.sn hP.2.2.2 g.2.2.1 c.1⟩
theorem AT.vt {r : Int32} {v : Nat} (h : AT W s t0 α nv nq B S r v) : VT W s t0 α nv B 200 S v := by
  obtain ⟨a, ty, b, c, d, -⟩ := h
  exact ⟨a, ty, b, c.su (by decide) (Nat.le_refl _) (fun _ z => z), d⟩
theorem CF.qw {np k j f m e : Nat} {P G z : Nat → Nat} (h : CF W s t0 α nv np nq k P G z j f m e) (hP : PO W s Lc Lr t0 α) (g : QW W s Lc Lr w t0 α nv U t1 nv1 β) : CF W s t1 β nv1 np nq k P G z j f m e := by
  obtain ⟨a, b, c, d, ⟨e1, e2, e3⟩, i⟩ := h
  have hc := g.2.1
  refine ⟨by rw [hc.arr (by decide)]; exact a, by rw [hc.arr (by decide)]; exact b, c, d, ⟨by rw [hc.arr (by decide)]; exact e1, e2.qw hP g, apn_sn hP.2.2.2 g.2.2.1 e2.1 e3⟩, fun l hl => ?_⟩
  obtain ⟨i1, i2, i3⟩ := i l hl
  exact ⟨by rw [hc.arr (by decide)]; exact i1, by rw [hc.arr (by decide)]; exact i2.qw hP g, i3⟩
theorem PF.qw {P : Nat → Nat} (h : PF W s t0 α nv nq P) (hP : PO W s Lc Lr t0 α) (g : QW W s Lc Lr w t0 α nv U t1 nv1 β) : PF W s t1 β nv1 nq P := fun i hi => by
  obtain ⟨a, b⟩ := h i hi
  exact ⟨by rw [g.2.1.arr (by decide)]; exact a, b.qw hP g⟩
/-- the hypothesis of an argument -/
theorem mi_127 {np q' ed st x i fr a cv c v0 : Nat} {y7 y1 y2 : Int32} {Sa : Nat → Prop} {k70 : Int32 → Int32 → Int32 → Int32 → Int32 → Int32 → Int32 → Int32 → mS → Option (kO × mS)} {Pi : Int32 → mS → Prop} {Px : mS → Prop} (hN : 400000 < N) (hn : nrm W s) (hnq : np + q' = nq) (hq : nq ≤ 199) (hx : x ≤ 199) (hst : st + x < 9000) (hU : U < 6000) (ha : a < 66000) (hfr : fr + i < 4000) : ∀ (d zz y nn t0 : Nat) (α : mS), zz + d = nq → np ≤ zz → d < nn → MV W s Lc Lr U t0 α w nv → α.1 30 = nI (st + x) → α.1 31 = nI x → α.2 38 (fr + i) = nI a → TM W s t0 α 3000 200 (fun v => v = cv ∨ v = a ∨ Sa v ∨ v0 ≤ v ∧ v < v0 + x) ed → apn α nq ed → TM W s t0 α (3000 + (zz - np)) 200 (fun v => v = cv ∨ v = a ∨ Sa v ∨ v0 ≤ v ∧ v < v0 + x) y → (∀ l, l < x → α.2 41 (st + l) = nI (v0 + l) ∧ VT W s t0 α nv 1000000 200 (fun v => Sa v ∨ v0 ≤ v ∧ v < v0 + l) (v0 + l)) → (∀ t1 β, QW W s Lc Lr w t0 α nv (U + 1) t1 (nv + 1) β → β.1 30 = nI (st + 1) → (∀ i, i < st → β.2 41 i = α.2 41 i) → β.2 41 st = nI nv → VT W s t1 β (nv + 1) 1000000 399 (fun v => v = cv ∨ v = a ∨ Sa v) nv → rI (k70 (nI (i + 1)) y7 (nI fr) y1 y2 (nI np) (nI q') (nI c) β) Pi Px) → (∀ β, XV W s t0 α β → Px β) → rI (f_Mod_minor_127 N k70 nn (nI zz) (nI y) (nI ed) (nI st) (nI i) y7 (nI fr) y1 y2 (nI np) (nI q') (nI c) α) Pi Px
  | 0, zz, y, nn, t0, α, hd, hz, hm, h, h30, h31, h38, hed, hap, hy, hL, hk, hX => by
    obtain ⟨nn, rfl⟩ : ∃ n', nn = n' + 1 := ⟨nn - 1, by omega⟩
    have ez : zz = nq := by omega
    subst ez
    rw [f_Mod_minor_127, nI_add, hnq, if_pos (nI_le (by omega) (by omega)), nI_add, nI_clamp (show fr + i < 2 ^ 31 by omega), h38]
    refine rI.ix (mix' hfr (by decide)) ?_
    have vl : ∀ l, l < x → v0 + l < 66000 := fun l hl => (hL l hl).2.1.2
    refine (app2_ok (L := fun l => v0 + (l - st)) (S := fun v => v = cv ∨ v = a ∨ Sa v ∨ v0 ≤ v ∧ v < v0 + x) hN hn (by omega) (Nat.le_add_left x st) h h30 h31 ⟨ha, Or.inr (Or.inl rfl)⟩ (fun l l1 l2 => ?_)).bi (fun v β g => ?_) hX
    · have := (hL (l - st) (by omega)).1
      rw [show st + (l - st) = l by omega] at this
      exact ⟨this, vl _ (by omega), Or.inr (Or.inr (Or.inr ⟨by omega, by omega⟩))⟩
    obtain ⟨r, t1, rfl, g1, g2⟩ := g
    refine (appl_v (q := 4000) (D := 200) hn g1.mv (hy.qw h.1 g1.1) g2 (by omega) (by omega)).bi (fun v γ u => ?_) (fun γ u => hX _ (g1.1.tx u))
    obtain ⟨r2, t2, rfl, u1, u2⟩ := u
    have q2 := g1.tr u1
    refine (chain_ok' (ℓ := st + x) (k := 6) (f := st) (L := fun l => v0 + (l - st)) (Si := fun l v => Sa v ∨ v0 ≤ v ∧ v < v0 + (l - st)) (S := fun v => v = cv ∨ v = a ∨ Sa v) hN hn (Or.inl rfl) (Nat.le_refl _) (by decide) (by decide) (by omega) (by omega) (fun l l1 l2 v z => ?_) (fun v z => ?_) u1.mv (q2.2.1.trans h30) (fun l l1 l2 => ?_) (fun l l1 l2 => ?_) u2).bi (fun v δ z => ?_) (fun δ z => hX _ (q2.1.tx z))
    · rcases z with z | z
      · exact Or.inl (Or.inr (Or.inr z))
      · exact Or.inr ⟨st + (v - v0), by omega, by omega, by show v0 + (st + (v - v0) - st) = v; omega⟩
    · rcases z with z | z | z | z
      · exact Or.inl (Or.inl z)
      · exact Or.inl (Or.inr (Or.inl z))
      · exact Or.inl (Or.inr (Or.inr z))
      · exact Or.inr ⟨st + (v - v0), by omega, by omega, by show v0 + (st + (v - v0) - st) = v; omega⟩
    · rw [q2.2.2.2]
      have := (hL (l - st) (by omega)).1
      rw [show st + (l - st) = l by omega] at this
      exact this
    · exact ⟨_, (hL (l - st) (by omega)).2.qw h.1 q2.1⟩
    obtain ⟨r3, t3, rfl, z1, z2, z3, z4⟩ := z
    have q3 := q2.1.tr z1
    refine (fresh_v hn z1.mv hU).bi (fun v ε o => ?_) (fun δ z => hX _ (q3.tx z))
    obtain ⟨r4, t4, rfl, o1, ⟨o2, o3⟩, o4, o5, o6⟩ := o
    have hW4 := o1.mv.1.2.2.2
    obtain ⟨ζ, eζ, p1, p2, p3, p4, p5⟩ := push_q (X := ε.2 3 r4) o1.mv (o1.2.1.trans z3) (by omega)
    rw [hW4.cl o6.1, nI_1]
    refine rI.ix (hW4.ix o6.1) (rI.ix p1 ?_)
    rw [eζ]
    have q5 := (q3.tr o1.1).tr p3
    have e41 : ε.2 41 = α.2 41 := by rw [o1.2.2.2, z4, q2.2.2.2]
    refine hk t4 ζ q5 p4 (fun i hi => ?_) ?_ ?_
    · rw [p5, upd_ne (by omega), e41]
    · rw [p5, upd_at, o3]
    · exact VT.qw (n := nv + 1) ⟨⟨by omega, o4⟩, r3, o5, (z2.qw z1.mv.1 o1.1).su (Nat.le_refl _) (by omega) (fun _ z => z), (hW4 _ (z2.qw z1.mv.1 o1.1).1).2.2.1.2.2⟩ o1.mv.1 p3
  | d + 1, zz, y, nn, t0, α, hd, hz, hm, h, h30, h31, h38, hed, hap, hy, hL, hk, hX => by
    obtain ⟨nn, rfl⟩ : ∃ n', nn = n' + 1 := ⟨nn - 1, by omega⟩
    rw [f_Mod_minor_127, nI_add, hnq, if_neg (nI_ge (by omega) (by omega))]
    obtain ⟨r, er, tr⟩ := nth_v (D := 199) hN h.1 hed hap (show zz < nq by omega)
    refine rI.ob er ((appl_v (q := 3000 + (zz + 1 - np)) (D := 200) hn h hy tr (by omega) (by omega)).bi (fun v β g => ?_) hX)
    obtain ⟨r1, t1, rfl, g1, g2⟩ := g
    rw [nI_1]
    refine mi_127 hN hn hnq hq hx hst hU ha hfr d (zz + 1) r1 nn t1 β (by omega) (by omega) (by omega) g1.mv (g1.2.1.trans h30) (g1.2.2.1.trans h31) (by rw [g1.1.2.1.arr (by decide)]; exact h38) (hed.qw h.1 g1.1) (apn_sn h.1.2.2.2 g1.1.2.2.1 hed.1 hap) g2 (fun l hl => ?_) (fun t2 γ u1 u2 u3 u4 u5 => ?_) (fun γ u => hX γ (g1.1.tx u))
    · obtain ⟨l1, l2⟩ := hL l hl
      exact ⟨by rw [g1.2.2.2]; exact l1, l2.qw h.1 g1.1⟩
    · exact hk t2 γ (g1.1.tr u1) u2 (fun i hi => by rw [u3 i hi, g1.2.2.2]) u4 u5
end MINOR
