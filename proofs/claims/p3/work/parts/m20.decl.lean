-- what the reference keeps; DECLARATIONS
/-- what is kept: c CONSTANTS, κ nodes, the families Lr -/
def MD (c κ : Nat) (Lr : Nat → Prop) (α : mS) : Prop := (α.1 16 = nI c ∧ c ≤ 300) ∧ (α.1 17 = nI κ ∧ ∃ z, α.1 18 = nI z ∧ κ ≤ z ∧ z ≤ 30000) ∧ (∃ wu, α.1 15 = nI wu ∧ wu ≤ 31 * c) ∧ NMs c α ∧ nWf (· < κ) c Lr α ∧ EN (· < κ) c Lr α ∧ (∀ j, j < c → ∃ v, α.2 13 j = nI v ∧ v < κ ∧ fit α v ∧ clo α v) ∧ (∀ j, j < c → α.2 14 j = -1 ∨ ∃ v, α.2 14 j = nI v ∧ v < κ ∧ fit α v ∧ clo α v) ∧ (∀ j, Lr j ↔ j < c ∧ α.2 12 j = 3)
/-- what a fault leaves -/
def XD (c κ : Nat) (α β : mS) : Prop := (∀ i, i ∈ [0, 1, 2, 25, 26, 27] → β.1 i = α.1 i) ∧ (∀ r, 10 ≤ r → r ≤ 24 → ∀ j, j < c → β.2 r j = α.2 r j) ∧ sN (· < κ) α β
section DECL
variable {N c κ : Nat} {Lr : Nat → Prop} {α β γ : mS}
theorem XD.tr (h : XD c κ α β) (h' : XD c κ β γ) : XD c κ α γ := ⟨fun i hi => (h'.1 i hi).trans (h.1 i hi), fun r a b j hj => (h'.2.1 r a b j hj).trans (h.2.1 r a b j hj), h.2.2.tr h'.2.2⟩
theorem XD.rf : XD c κ α α := ⟨fun _ _ => rfl, fun _ _ _ _ _ => rfl, sN.rf⟩
theorem XD.of {I R : List Nat} (hc : mch I R α β) (hI : ∀ i, i ∈ [0, 1, 2, 25, 26, 27] → i ∉ I) (hR : ∀ r, 10 ≤ r → r ≤ 24 → r ∉ R) (hs : sN (· < κ) α β) : XD c κ α β := ⟨fun i hi => hc.int (hI i hi), fun r a b j _ => by rw [hc.arr (hR r a b)], hs⟩
theorem r1024 {P : Nat → Prop} (h : ∀ r, r ∈ [10, 11, 12, 13, 14, 15, 16, 17, 18, 19, 20, 21, 22, 23, 24] → P r) (r : Nat) (a : 10 ≤ r) (b : r ≤ 24) : P r := h r (by
  have : r = 10 ∨ r = 11 ∨ r = 12 ∨ r = 13 ∨ r = 14 ∨ r = 15 ∨ r = 16 ∨ r = 17 ∨ r = 18 ∨ r = 19 ∨ r = 20 ∨ r = 21 ∨ r = 22 ∨ r = 23 ∨ r = 24 := by omega
  rcases this with e | e | e | e | e | e | e | e | e | e | e | e | e | e | e <;> subst e <;> decide)
theorem XD.pa {W : Nat → Prop} {s t : Nat} (h : XP W s t α β) (hW : ∀ i, i < κ → vd W s t i) : XD c κ α β := XD.of h.1 (by decide) (r1024 (by decide)) (h.2.su hW)
theorem XD.in {W : Nat → Prop} {s t : Nat} (h : XI W s t α β) (hW : ∀ i, i < κ → vd W s t i) : XD c κ α β := XD.of h.1 (by decide) (r1024 (by decide)) (h.2.su hW)
/-- what is kept stays -/
theorem EN.xd {W : Nat → Prop} {Lc : Nat} (h : EN W c Lr α) (hW : nWf W Lc Lr α) (hx : ∀ r, 10 ≤ r → r ≤ 24 → ∀ j, j < c → β.2 r j = α.2 r j) (hL : ∀ j, Lr j → j < c) (hs : sN W α β) : EN W c Lr β := by
  obtain ⟨h0, h1, h2⟩ := h
  have cl : ∀ v, W v → clo α v ∧ fit α v → clo β v ∧ fit β v := fun v hv q => ⟨q.1.sn hW hs hv, q.2.sn hs hv⟩
  refine ⟨h0, fun j hj => ?_, fun j hj => ?_⟩
  · rw [hx 12 (by decide) (by decide) j hj, hx 14 (by decide) (by decide) j hj, hx 23 (by decide) (by decide) j hj, hx 18 (by decide) (by decide) j hj, hx 22 (by decide) (by decide) j hj]
    refine ⟨fun z => ?_, fun z => ?_⟩
    · obtain ⟨v, a, b, c⟩ := (h1 j hj).1 z
      exact ⟨v, a, b, cl v b c⟩
    · obtain ⟨f, a, a', b⟩ := (h1 j hj).2 z
      refine ⟨f, a, a', fun y => ⟨(b y).1, ?_⟩⟩
      obtain ⟨r, c, d, e⟩ := (b y).2
      exact ⟨r, c, d, cl r d e⟩
  · have hj' := hL j hj
    rw [hx 15 (by decide) (by decide) j hj', hx 17 (by decide) (by decide) j hj', hx 16 (by decide) (by decide) j hj', hx 21 (by decide) (by decide) j hj']
    obtain ⟨a, r, c, d, e⟩ := h2 j hj
    exact ⟨a, r, c, d, cl r d e⟩
theorem MD.xd {wu : Nat} (h : MD c κ Lr α) (hx : ∀ r, 10 ≤ r → r ≤ 24 → ∀ j, j < c → β.2 r j = α.2 r j) (hs : sN (· < κ) α β) (h16 : β.1 16 = α.1 16) (h17 : β.1 17 = α.1 17) (h18 : β.1 18 = α.1 18) (h15 : β.1 15 = nI wu) (hwu : wu ≤ 31 * c) : MD c κ Lr β := by
  obtain ⟨a1, a2, a3, a4, a5, a6, a7, a8, a9⟩ := h
  refine ⟨by rw [h16]; exact a1, by rw [h17, h18]; exact a2, ⟨wu, h15, hwu⟩, ⟨a4.1, fun j hj => ?_⟩, a5.sn hs, a6.xd a5 hx (fun j hj => ((a9 j).mp hj).1) hs, fun j hj => ?_, fun j hj => ?_, fun j => ?_⟩
  · rw [hx 10 (by decide) (by decide) j hj, hx 11 (by decide) (by decide) j hj]; exact a4.2 j hj
  · obtain ⟨v, b1, b2, b3, b4⟩ := a7 j hj
    exact ⟨v, by rw [hx 13 (by decide) (by decide) j hj]; exact b1, b2, b3.sn hs b2, b4.sn a5 hs b2⟩
  · rw [hx 14 (by decide) (by decide) j hj]
    rcases a8 j hj with b | ⟨v, b1, b2, b3, b4⟩
    · exact Or.inl b
    · exact Or.inr ⟨v, b1, b2, b3.sn hs b2, b4.sn a5 hs b2⟩
  · rw [a9 j]
    refine and_congr_right fun hj => ?_
    rw [hx 12 (by decide) (by decide) j hj]
theorem nW.up2 {V V' : Nat → Prop} {Lc Mc i : Nat} {Lr Mr : Nat → Prop} {α : mS} (h : nW V Lc Lr α i) (hV : ∀ j, j < i → V j → V' j) (h1 : Lc ≤ Mc) (h2 : ∀ j, Lr j → Mr j) : nW V' Mc Mr α i := by
  obtain ⟨a1, a2, a3, a4, a5, a6, a7, a8, a9⟩ := h
  refine ⟨a1, a2, a3, a4, a5, fun h6 => ?_, fun z => ⟨(a7 z).1, by have := (a7 z).2; omega⟩, fun z => ⟨(a8 z).1, h2 _ (a8 z).2⟩, a9⟩
  obtain ⟨⟨b1, b2, b3⟩, ⟨c1, c2, c3⟩, b5, b6⟩ := a6 h6
  exact ⟨⟨b1, b2, hV _ b2 b3⟩, ⟨c1, c2, hV _ c2 c3⟩, fun z => ⟨(b5 z).1, (b5 z).2.1, hV _ (b5 z).2.1 (b5 z).2.2⟩, b6⟩
/-- the nodes kept, alone -/
theorem PO.kept {Lc Mc t : Nat} {Mr : Nat → Prop} (h : PO (· < κ) 32000 Lc Lr t α) (h1 : Lc ≤ Mc) (h2 : ∀ j, Lr j → Mr j) : nWf (· < κ) Mc Mr α := fun i (hi : i < κ) => (h.2.2.2 i (Or.inl hi)).up2 (fun j hj _ => (show j < κ by omega)) h1 h2
theorem vk {t : Nat} : ∀ i, i < κ → vd (· < κ) 32000 t i := fun _ h => Or.inl h
theorem nrmk (hκ : κ ≤ 32000) : nrm (· < κ) 32000 := fun i (h : i < κ) => Nat.lt_of_lt_of_le h hκ
theorem MD.k (h : MD c κ Lr α) : κ ≤ 30000 := by
  obtain ⟨-, ⟨-, z, -, a, b⟩, -⟩ := h
  omega
/-- the start of a DECLARATION: nothing parsed, nothing checked -/
def D0 (c κ : Nat) (Lr : Nat → Prop) (sz p : Nat) (α : mS) : Prop := MD c κ Lr α ∧ PSm (· < κ) 32000 c Lr sz 32000 p 0 0 α ∧ IS (· < κ) 32000 c Lr 0 32000 α 0 0
theorem IS.qp {W : Nat → Prop} {s Lc sz U t p sc ph sc1 ph1 t1 p1 w n : Nat} (h : IS W s Lc Lr U t α w n) (q : QP W s Lc Lr sz t p sc ph α sc1 ph1 t1 p1 β) : IS W s Lc Lr U t1 β w n := by
  have hc := q.2.2.2.1
  have hs := q.2.2.2.2.1
  exact ⟨⟨q.ps.1, h.1.2.1.ch h.1.1 hc (by decide) hs, (hc.int (by decide)).trans h.1.2.2.1, h.1.2.2.2⟩, ⟨(hc.int (by decide)).trans h.2.1.1, h.2.1.2⟩, (hc.int (by decide)).trans h.2.2⟩
/-- whole of a TERM without FREE variables: those of the first ones only -/
theorem AL.wh {V S : Nat → Prop} {Lc f : Nat} {A : Nat → Int32} {t r : Nat} (hW : nWf V Lc Lr α) (ht : V t) (hr : V r) (h : Rs (RWh f A) α t r) (hA : ∀ l, l < f → ∃ v, A l = nI v ∧ v < 66000 ∧ S v) (hp : PN α t) : AL S α r := by
  have go : ∀ (n t r : Nat), V t → V r → Rn (RWh f A) α n t r → PN α t → AL S α r := by
    intro n
    induction n with
    | zero => intro t r _ _ h; exact h.elim
    | succ n ih =>
      intro t r ht hr h hp
      rcases h with ⟨h1, h2⟩ | ⟨h1, h2, h3, h4, h5⟩
      · rcases h2 with ⟨rfl, h2⟩ | h2 | ⟨h2, h3, h4, h5⟩
        · exact AL.lf h1 (fun z => absurd z (hp 1).1) h2
        · exact AL.lf (by omega) (fun z => by omega) (by omega)
        · refine AL.lf (by omega) (fun _ => ?_) (by omega)
          rw [h5]
          exact hA _ h3
      · obtain ⟨p1, p2, p3⟩ := hp.p h1
        exact AL.mk (by omega) (ih _ _ (hW.p3 ht h1).2.2 (hW.p3 hr (by omega)).2.2 h3 p1) (ih _ _ (hW.p4 ht h1).2.2 (hW.p4 hr (by omega)).2.2 h4 p2) (fun h9 => ih _ _ (hW.p5 ht (by omega)).2.2 (hW.p5 hr h9).2.2 (h5 (by omega)) (p3 (by omega)))
  obtain ⟨n, h⟩ := h
  exact go n t r ht hr h hp
theorem RWh.lf {f : Nat} {A : Nat → Int32} {t r : Nat} (h1 : uK α t < 6) (h : RWh f A α t r) : uK α r < 6 := by
  rcases h with ⟨rfl, -⟩ | h | ⟨-, -, h, -⟩
  · exact h1
  · omega
  · omega
/-- whole -/
theorem whole_i {W : Nat → Prop} {s Lc U t0 w n t f : Nat} {ar : Int32} (hN : 400000 < N) (hn : nrm W s) (h : IS W s Lc Lr U t0 α w n) (hf5 : f ≤ 5000) (ht : vd W s t0 t) (hft : fit α t) (hp : PN α t) : rI (f_Mod_whole N (nI t) ar (nI f) α) (fun x β => ∃ r t1, x = nI r ∧ QI W s Lc Lr U t0 α w n t1 w n β ∧ vd W s t1 r ∧ fit β r ∧ Rs (RWh f (α.2 33)) β t r ∧ (uB β r = uB α t ∧ uD β r = uD α t) ∧ ∀ S : Nat → Prop, (∀ l, l < f → ∃ v, α.2 33 l = nI v ∧ v < 66000 ∧ S v) → AL S β r) (XI W s t0 α) := by
  obtain ⟨d1, d2⟩ := hft.sp h.1.1 ht
  refine (whole_ok hN hn hf5 h.1.1 ht d1 d2).mono (fun x β q => ?_) (fun β q => q.xn.xi (by decide))
  obtain ⟨r, t1, e, q1, q2⟩ := q.qn
  have hW := q1.2.1.2.2.2
  obtain ⟨z1, z2, -⟩ := q2.sz hW (fun t r _ _ h1 h2 => RWh.lf h1 h2) (ht.up q1.1) q1.2.2.2.2
  have hs := q1.2.2.2.1
  rw [hs.b ht] at z1
  rw [hs.d ht] at z2
  exact ⟨r, t1, e, h.qn q1 (fun _ z => z), q1.2.2.2.2, ⟨by rw [z1]; exact hft.1, by rw [z2]; exact hft.2⟩, q2, ⟨z1, z2⟩, fun S hS => AL.wh hW (ht.up q1.1) q1.2.2.2.2 q2 hS (hp.sn h.1.1.2.2.2 hs ht)⟩
theorem alone_i {W : Nat → Prop} {s Lc U t0 w n t : Nat} (hN : 400000 < N) (hn : nrm W s) (h : IS W s Lc Lr U t0 α w n) (ht : vd W s t0 t) (hp : PN α t) : rI (f_Mod_alone N (nI t) α) (fun x β => ∃ r t1, x = nI r ∧ QI W s Lc Lr U t0 α w n t1 w n β ∧ vd W s t1 r ∧ fit β r ∧ clo β r ∧ uB β r = uB α t) (XI W s t0 α) := by
  unfold f_Mod_alone
  refine (fits_ok h.1.1 ht).bi (fun v β q => ?_) (fun β q => mch_i q (by decide))
  obtain ⟨rfl, rfl, q1⟩ := q
  refine ((whole_i (f := 0) hN hn h (by decide) ht q1 hp).mono (fun x γ u => ?_) (fun _ u => u)).end
  obtain ⟨r, t1, e, u1, u2, u3, -, ⟨u4, -⟩, u5⟩ := u
  exact ⟨r, t1, e, u1, u2, u3, u5 _ (fun l hl => by omega), u4⟩
theorem AL.cp {S V : Nat → Prop} {Lc t r : Nat} (hW : nWf V Lc Lr α) (ht : V t) (hr : V r) (h : Rs RCp α t r) (ha : AL S α t) : AL S α r :=
  AL.rs hW ht hr h (fun t r _ _ hk h1 h2 => AL.lf (by rw [h2.1]; exact hk) (fun z => by rw [h2.2]; exact h1.f3 (h2.1.symm.trans z)) (by rw [h2.1]; exact (h1 1).2.1)) ha
/-- a TERM is kept -/
theorem keep_m {Lc t x : Nat} (hN : 400000 < N) (hP : PO (· < κ) 32000 Lc Lr t α) (h17 : α.1 17 = nI κ) (hx : vd (· < κ) 32000 t x) (hf : fit α x) (hκ : κ + uB α x ≤ 32000) : rI (f_Mod_keep N (nI x) α) (fun v β => ∃ r κ', v = nI r ∧ κ ≤ κ' ∧ κ' ≤ κ + uB α x ∧ r < κ' ∧ PO (· < κ') 32000 Lc Lr t β ∧ β.1 17 = nI κ' ∧ mch [10, 11, 12, 13, 14, 17] mpR α β ∧ β.1 10 = α.1 10 ∧ sN (vd (· < κ) 32000 t) α β ∧ fit β r ∧ uB β r = uB α x ∧ ∀ S, AL S α x → AL S β r) (fun β => mch [10, 11, 12, 13, 14, 100, 101] mpR α β ∧ sN (vd (· < κ) 32000 t) α β) := by
  have hs32 := hP.2.1
  have b1 := big_pos hP.2.2.2 hx
  unfold f_Mod_keep
  rw [h17]
  obtain ⟨α1, e1⟩ : ∃ α1, α1 = mSi α 10 (nI κ) := ⟨_, rfl⟩
  rw [← e1]
  have c1 : mch [10] [] α α1 := by rw [e1]; exact mch.si (by decide)
  have s1 : ∀ V : Nat → Prop, sN V α α1 := fun V => sN.ch c1 (fun r _ _ z => by cases z)
  have iff1 : ∀ κ' i, vd (fun i => i < κ ∨ 32000 ≤ i ∧ i < t) κ κ' i ↔ (i < κ ∨ 32000 ≤ i ∧ i < t) ∨ κ ≤ i ∧ i < κ' := fun κ' i => Iff.rfl
  have P1 : PO (fun i => i < κ ∨ 32000 ≤ i ∧ i < t) κ Lc Lr κ α1 := by
    refine ⟨by rw [e1]; rfl, Nat.le_refl _, by omega, fun i hi => ?_⟩
    have hi' : vd (· < κ) 32000 t i := hi.elim id fun z => by omega
    exact (nW.sn hP.2.2.2 (s1 _) hi').up (fun j hj => Or.inl hj) (Nat.le_refl _) (fun _ z => z)
  have hx' : vd (fun i => i < κ ∨ 32000 ≤ i ∧ i < t) κ κ x := Or.inl hx
  obtain ⟨d1, d2⟩ := hf.sp hP hx
  have fb := hf.1
  refine (copy_ok (lim := 32000) hN (fun m hm hl z => by have z : m < κ ∨ 32000 ≤ m ∧ m < t := z; omega) P1 hx' (by rw [(s1 _).d hx']; exact d1) (d2.sn hP.2.2.2 (s1 _) hx) (by rw [(s1 _).b hx']; exact ⟨by omega, by omega⟩)).bi (fun v β q => ?_) (fun β q => ⟨(c1.mo (by decide) (fun r z => by cases z)).tr q.1, (s1 _).tr (q.2.su fun _ z => Or.inl z)⟩)
  obtain ⟨r, κ', rfl, q1, q2, q3, q4, q5, q6, q7, q8⟩ := q
  rw [(s1 _).b hx'] at q2
  have q2 : κ' ≤ κ + uB α x := q2.resolve_left (by decide)
  rw [q3.1]
  obtain ⟨γ, eγ⟩ : ∃ γ, γ = mSi (mSi β 17 (nI κ')) 10 (α.1 10) := ⟨_, rfl⟩
  rw [← eγ]
  have c2 : mch [10, 17] [] β γ := by rw [eγ]; exact (mch.si (by decide)).tr (mch.si (by decide))
  have s2 : ∀ V : Nat → Prop, sN V β γ := fun V => sN.ch c2 (fun r _ _ z => by cases z)
  have vv : ∀ i, vd (· < κ') 32000 t i ↔ vd (fun i => i < κ ∨ 32000 ≤ i ∧ i < t) κ κ' i := fun i => by
    constructor
    · rintro (z | z)
      · rcases Nat.lt_or_ge i κ with y | y
        · exact Or.inl (Or.inl y)
        · exact Or.inr ⟨y, z⟩
      · exact Or.inl (Or.inr z)
    · rintro ((z | z) | z)
      · exact Or.inl (show i < κ' by omega)
      · exact Or.inr z
      · exact Or.inl z.2
  have W3 : nWf (vd (fun i => i < κ ∨ 32000 ≤ i ∧ i < t) κ κ') Lc Lr γ := q3.2.2.2.sn (s2 _)
  have rk : r < κ' := q7
  have hW := q3.2.2.2
  have hx2 : vd (fun i => i < κ ∨ 32000 ≤ i ∧ i < t) κ κ' x := hx'.up q1
  obtain ⟨z1, z2, -⟩ := q8.sz hW (fun t r _ _ h1 h2 => by rw [h2.1]; exact h1) hx2 q6
  have sx : sN (vd (· < κ) 32000 t) α β := (s1 _).tr (q5.su fun _ z => Or.inl z)
  rw [sx.b hx] at z1
  rw [sx.d hx] at z2
  have zb : uB γ r = uB α x := by rw [(s2 (fun _ => True)).b trivial]; exact z1
  have zd : uD γ r = uD α x := by rw [(s2 (fun _ => True)).d trivial]; exact z2
  refine rI.ret ⟨r, κ', rfl, q1, q2, rk, ⟨?_, hs32, hP.2.2.1, fun i hi => ?_⟩, by rw [eγ]; rfl, (c1.mo (by decide) (fun r z => by cases z)).tr ((q4.mo (by decide) (fun _ z => z)).tr (c2.mo (by decide) (fun r z => by cases z))), by rw [eγ]; rfl, sx.tr (s2 _), ⟨by rw [zb]; exact hf.1, by rw [zd]; exact hf.2⟩, zb, fun S hS => ?_⟩
  · rw [eγ]; exact hP.1
  · exact (W3 i ((vv i).mp hi)).up (fun j hj => (vv j).mpr hj) (Nat.le_refl _) (fun _ z => z)
  · exact (AL.cp hW hx2 q6 q8 (hS.sn hP.2.2.2 sx hx)).sn hW (s2 _) q6
theorem XD.qi {U t w n t1 w1 n1 Lc : Nat} (h : XD c κ α β) (q : QI (· < κ) 32000 Lc Lr U t β w n t1 w1 n1 γ) : XD c κ α γ := h.tr (XD.of q.2.1 (by decide) (r1024 (by decide)) (q.2.2.1.su vk))
theorem MD.tc {t j : Nat} (h : MD c κ Lr α) (hx : XD c κ α β) (hj : j < c) : tcm (· < κ) 32000 t β j := by
  obtain ⟨-, -, -, -, -, -, a7, -, -⟩ := h
  obtain ⟨v, b1, b2, b3, b4⟩ := a7 j hj
  exact ⟨v, by rw [hx.2.1 13 (by decide) (by decide) j hj]; exact b1, Or.inl b2, b3.sn hx.2.2 b2⟩
/-- of a TERM without FREE variables the types stand -/
theorem MD.ax {t n x : Nat} (h : MD c κ Lr α) (hx : XD c κ α β) (hP : PO (· < κ) 32000 c Lr t β) (vx : vd (· < κ) 32000 t x) (cx : clo β x) : AX (· < κ) 32000 t β n x :=
  ⟨cx.su fun _ z => z.elim, AC.all hP.2.2.2 (fun _ hj => h.tc hx hj) vx⟩
end DECL
