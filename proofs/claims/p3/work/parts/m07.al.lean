-- the FREE variables of a TERM; what is made of nodes
def ALn (S : Nat → Prop) (α : mS) : Nat → Nat → Prop
  | 0, _ => True
  | n + 1, t => (uK α t = 3 → ∃ v, α.2 3 t = nI v ∧ v < 66000 ∧ S v) ∧ uK α t ≠ 5 ∧ (6 ≤ uK α t → ALn S α n (uA α t) ∧ ALn S α n (uC α t) ∧ (uK α t = 9 → ALn S α n (uE α t)))
/-- the FREE variables of t are of S, and it has no LEVEL -/
def AL (S : Nat → Prop) (α : mS) (t : Nat) : Prop := ∀ n, ALn S α n t
section ALS
variable {S S' V : Nat → Prop} {Lc : Nat} {Lr : Nat → Prop} {t r : Nat} {α β : mS}
theorem AL.p (h : AL S α t) (h6 : 6 ≤ uK α t) : AL S α (uA α t) ∧ AL S α (uC α t) ∧ (uK α t = 9 → AL S α (uE α t)) :=
  ⟨fun n => ((h (n + 1)).2.2 h6).1, fun n => ((h (n + 1)).2.2 h6).2.1, fun h9 n => ((h (n + 1)).2.2 h6).2.2 h9⟩
theorem AL.mk (h6 : 6 ≤ uK α t) (ha : AL S α (uA α t)) (hc : AL S α (uC α t)) (he : uK α t = 9 → AL S α (uE α t)) : AL S α t
  | 0 => trivial
  | n + 1 => ⟨fun z => by omega, by omega, fun _ => ⟨ha n, hc n, fun h9 => he h9 n⟩⟩
theorem AL.lf (h6 : uK α t < 6) (h3 : uK α t = 3 → ∃ v, α.2 3 t = nI v ∧ v < 66000 ∧ S v) (h5 : uK α t ≠ 5) : AL S α t
  | 0 => trivial
  | n + 1 => ⟨h3, h5, fun z => by omega⟩
theorem AL.f3 (h : AL S α t) (h3 : uK α t = 3) : ∃ v, α.2 3 t = nI v ∧ v < 66000 ∧ S v := (h 1).1 h3
theorem ALn_sn (hW : nWf V Lc Lr α) (hs : sN V α β) : ∀ (n t : Nat), V t → (ALn S β n t ↔ ALn S α n t)
  | 0, _, _ => Iff.rfl
  | n + 1, t, ht => by
    unfold ALn
    rw [hs.k ht, hs.a ht, hs.c ht, hs.e ht, hs t ht 3 (by decide) (by decide)]
    by_cases h6 : 6 ≤ uK α t
    · rw [ALn_sn hW hs n _ (hW.p3 ht h6).2.2, ALn_sn hW hs n _ (hW.p4 ht h6).2.2]
      by_cases h9 : uK α t = 9
      · rw [ALn_sn hW hs n _ (hW.p5 ht h9).2.2]
      · exact ⟨fun z => ⟨z.1, z.2.1, fun y => ⟨(z.2.2 y).1, (z.2.2 y).2.1, fun w => absurd w h9⟩⟩, fun z => ⟨z.1, z.2.1, fun y => ⟨(z.2.2 y).1, (z.2.2 y).2.1, fun w => absurd w h9⟩⟩⟩
    · exact ⟨fun z => ⟨z.1, z.2.1, fun y => absurd y h6⟩, fun z => ⟨z.1, z.2.1, fun y => absurd y h6⟩⟩
theorem AL.sn (hW : nWf V Lc Lr α) (hs : sN V α β) (ht : V t) (h : AL S α t) : AL S β t := fun n => (ALn_sn hW hs n t ht).mpr (h n)
theorem ALn_su (hS : ∀ v, S v → S' v) : ∀ (n t : Nat), ALn S α n t → ALn S' α n t
  | 0, _, _ => trivial
  | n + 1, t, h => ⟨fun z => by obtain ⟨v, a, b, c⟩ := h.1 z; exact ⟨v, a, b, hS v c⟩, h.2.1, fun h6 => ⟨ALn_su hS n _ (h.2.2 h6).1, ALn_su hS n _ (h.2.2 h6).2.1, fun h9 => ALn_su hS n _ ((h.2.2 h6).2.2 h9)⟩⟩
theorem AL.su (hS : ∀ v, S v → S' v) (h : AL S α t) : AL S' α t := fun n => ALn_su hS n t (h n)
theorem AL_rn {Rl : mS → Nat → Nat → Prop} (hW : nWf V Lc Lr α) (hl : ∀ t r, V t → V r → uK α t < 6 → AL S α t → Rl α t r → AL S' α r) : ∀ (n t r : Nat), V t → V r → Rn Rl α n t r → AL S α t → AL S' α r
  | 0, _, _, _, _, h, _ => h.elim
  | n + 1, t, r, ht, hr, h, ha => by
    rcases h with ⟨h1, h2⟩ | ⟨h1, h2, h3, h4, h5⟩
    · exact hl t r ht hr h1 ha h2
    · obtain ⟨a1, a2, a3⟩ := ha.p h1
      exact AL.mk (by omega) (AL_rn hW hl n _ _ (hW.p3 ht h1).2.2 (hW.p3 hr (by omega)).2.2 h3 a1) (AL_rn hW hl n _ _ (hW.p4 ht h1).2.2 (hW.p4 hr (by omega)).2.2 h4 a2) (fun h9 => AL_rn hW hl n _ _ (hW.p5 ht (by omega)).2.2 (hW.p5 hr h9).2.2 (h5 (by omega)) (a3 (by omega)))
theorem AL.rs {Rl : mS → Nat → Nat → Prop} (hW : nWf V Lc Lr α) (ht : V t) (hr : V r) (h : Rs Rl α t r) (hl : ∀ t r, V t → V r → uK α t < 6 → AL S α t → Rl α t r → AL S' α r) (ha : AL S α t) : AL S' α r := by
  obtain ⟨n, h⟩ := h
  exact AL_rn hW hl n t r ht hr h ha
theorem AL.put {v : Nat} (hW : nWf V Lc Lr α) (ht : V t) (hr : V r) (h : Rs (RPut v) α t r) (hv : AL S α v) (ha : AL S α t) : AL S α r :=
  AL.rs hW ht hr h (fun t r _ _ _ h1 h2 => by
    rcases h2 with rfl | ⟨-, rfl⟩
    · exact h1
    · exact hv) ha
theorem AL.itr (hW : nWf V Lc Lr α) (h : AL S α t) : ∀ (b : Nat), apn α b t → AL S α (itr α b t)
  | 0, _ => h
  | b + 1, hb => ((AL.itr hW h b (fun j hj => hb j (by omega))).p (by rw [hb b (by omega)]; decide)).1
end ALS
/-- the CONSTANTS of t are of P -/
def ACn (P : Nat → Prop) (α : mS) : Nat → Nat → Prop
  | 0, _ => True
  | n + 1, t => (uK α t = 1 → P (uA α t)) ∧ (6 ≤ uK α t → ACn P α n (uA α t) ∧ ACn P α n (uC α t) ∧ (uK α t = 9 → ACn P α n (uE α t)))
def AC (P : Nat → Prop) (α : mS) (t : Nat) : Prop := ∀ n, ACn P α n t
section ACS
variable {P P' V : Nat → Prop} {Lc : Nat} {Lr : Nat → Prop} {t r : Nat} {α β : mS}
theorem AC.p (h : AC P α t) (h6 : 6 ≤ uK α t) : AC P α (uA α t) ∧ AC P α (uC α t) ∧ (uK α t = 9 → AC P α (uE α t)) :=
  ⟨fun n => ((h (n + 1)).2 h6).1, fun n => ((h (n + 1)).2 h6).2.1, fun h9 n => ((h (n + 1)).2 h6).2.2 h9⟩
theorem AC.mk (h6 : 6 ≤ uK α t) (ha : AC P α (uA α t)) (hc : AC P α (uC α t)) (he : uK α t = 9 → AC P α (uE α t)) : AC P α t
  | 0 => trivial
  | n + 1 => ⟨fun z => by omega, fun _ => ⟨ha n, hc n, fun h9 => he h9 n⟩⟩
theorem AC.lf (h6 : uK α t < 6) (h1 : uK α t = 1 → P (uA α t)) : AC P α t
  | 0 => trivial
  | n + 1 => ⟨h1, fun z => by omega⟩
theorem AC.f1 (h : AC P α t) (h1 : uK α t = 1) : P (uA α t) := (h 1).1 h1
theorem ACn_sn (hW : nWf V Lc Lr α) (hs : sN V α β) : ∀ (n t : Nat), V t → (ACn P β n t ↔ ACn P α n t)
  | 0, _, _ => Iff.rfl
  | n + 1, t, ht => by
    unfold ACn
    rw [hs.k ht, hs.a ht, hs.c ht, hs.e ht]
    by_cases h6 : 6 ≤ uK α t
    · rw [ACn_sn hW hs n _ (hW.p3 ht h6).2.2, ACn_sn hW hs n _ (hW.p4 ht h6).2.2]
      by_cases h9 : uK α t = 9
      · rw [ACn_sn hW hs n _ (hW.p5 ht h9).2.2]
      · exact ⟨fun z => ⟨z.1, fun y => ⟨(z.2 y).1, (z.2 y).2.1, fun w => absurd w h9⟩⟩, fun z => ⟨z.1, fun y => ⟨(z.2 y).1, (z.2 y).2.1, fun w => absurd w h9⟩⟩⟩
    · exact ⟨fun z => ⟨z.1, fun y => absurd y h6⟩, fun z => ⟨z.1, fun y => absurd y h6⟩⟩
theorem AC.sn (hW : nWf V Lc Lr α) (hs : sN V α β) (ht : V t) (h : AC P α t) : AC P β t := fun n => (ACn_sn hW hs n t ht).mpr (h n)
theorem ACn_su (hS : ∀ v, P v → P' v) : ∀ (n t : Nat), ACn P α n t → ACn P' α n t
  | 0, _, _ => trivial
  | n + 1, t, h => ⟨fun z => hS _ (h.1 z), fun h6 => ⟨ACn_su hS n _ (h.2 h6).1, ACn_su hS n _ (h.2 h6).2.1, fun h9 => ACn_su hS n _ ((h.2 h6).2.2 h9)⟩⟩
theorem AC.su (hS : ∀ v, P v → P' v) (h : AC P α t) : AC P' α t := fun n => ACn_su hS n t (h n)
theorem AC_rn {Rl : mS → Nat → Nat → Prop} (hW : nWf V Lc Lr α) (hl : ∀ t r, V t → V r → uK α t < 6 → AC P α t → Rl α t r → AC P α r) : ∀ (n t r : Nat), V t → V r → Rn Rl α n t r → AC P α t → AC P α r
  | 0, _, _, _, _, h, _ => h.elim
  | n + 1, t, r, ht, hr, h, ha => by
    rcases h with ⟨h1, h2⟩ | ⟨h1, h2, h3, h4, h5⟩
    · exact hl t r ht hr h1 ha h2
    · obtain ⟨a1, a2, a3⟩ := ha.p h1
      exact AC.mk (by omega) (AC_rn hW hl n _ _ (hW.p3 ht h1).2.2 (hW.p3 hr (by omega)).2.2 h3 a1) (AC_rn hW hl n _ _ (hW.p4 ht h1).2.2 (hW.p4 hr (by omega)).2.2 h4 a2) (fun h9 => AC_rn hW hl n _ _ (hW.p5 ht (by omega)).2.2 (hW.p5 hr h9).2.2 (h5 (by omega)) (a3 (by omega)))
theorem AC.rs {Rl : mS → Nat → Nat → Prop} (hW : nWf V Lc Lr α) (ht : V t) (hr : V r) (h : Rs Rl α t r) (hl : ∀ t r, V t → V r → uK α t < 6 → AC P α t → Rl α t r → AC P α r) (ha : AC P α t) : AC P α r := by
  obtain ⟨n, h⟩ := h
  exact AC_rn hW hl n t r ht hr h ha
theorem AC.put {v : Nat} (hW : nWf V Lc Lr α) (ht : V t) (hr : V r) (h : Rs (RPut v) α t r) (hv : AC P α v) (ha : AC P α t) : AC P α r :=
  AC.rs hW ht hr h (fun t r _ _ _ h1 h2 => by
    rcases h2 with rfl | ⟨-, rfl⟩
    · exact h1
    · exact hv) ha
theorem ACn_all (hW : nWf V Lc Lr α) (hP : ∀ j, j < Lc → P j) : ∀ (n t : Nat), V t → ACn P α n t
  | 0, _, _ => trivial
  | n + 1, t, ht => by
    refine ⟨fun k1 => ?_, fun h6 => ⟨ACn_all hW hP n _ (hW.p3 ht h6).2.2, ACn_all hW hP n _ (hW.p4 ht h6).2.2, fun h9 => ACn_all hW hP n _ (hW.p5 ht h9).2.2⟩⟩
    obtain ⟨-, -, -, -, -, -, a7, -, -⟩ := hW t ht
    exact hP _ (a7 k1).2
theorem AC.all (hW : nWf V Lc Lr α) (hP : ∀ j, j < Lc → P j) (ht : V t) : AC P α t := fun n => ACn_all hW hP n t ht
theorem AC.itr (h : AC P α t) : ∀ (b : Nat), apn α b t → AC P α (itr α b t)
  | 0, _ => h
  | b + 1, hb => ((AC.itr h b (fun j hj => hb j (by omega))).p (by rw [hb b (by omega)]; decide)).1
end ACS
section WITH
variable {N : Nat} {W : Nat → Prop} {s Lc : Nat} {Lr : Nat → Prop} {t0 : Nat} {α : mS}
/-- nodes were made -/
def QN (W : Nat → Prop) (s Lc : Nat) (Lr : Nat → Prop) (I : List Nat) (t0 : Nat) (α : mS) (r t1 : Nat) (β : mS) : Prop := t0 ≤ t1 ∧ PO W s Lc Lr t1 β ∧ mch I mpR α β ∧ sN (vd W s t0) α β ∧ vd W s t1 r
def XN (W : Nat → Prop) (s : Nat) (I : List Nat) (t0 : Nat) (α β : mS) : Prop := mch I mpR α β ∧ sN (vd W s t0) α β
theorem QN.tr {I : List Nat} {t1 t2 r r' : Nat} {β γ : mS} (h : QN W s Lc Lr I t0 α r t1 β) (h' : QN W s Lc Lr I t1 β r' t2 γ) : QN W s Lc Lr I t0 α r' t2 γ := ⟨Nat.le_trans h.1 h'.1, h'.2.1, h.2.2.1.tr h'.2.2.1, h.2.2.2.1.tr (h'.2.2.2.1.su fun _ z => z.up h.1), h'.2.2.2.2⟩
theorem QN.tx {I J : List Nat} {t1 r : Nat} {β γ : mS} (h : QN W s Lc Lr I t0 α r t1 β) (h' : XN W s J t1 β γ) (hI : ∀ i, i ∈ I → i ∈ J) : XN W s J t0 α γ := ⟨(h.2.2.1.mo hI (fun _ z => z)).tr h'.1, h.2.2.2.1.tr (h'.2.su fun _ z => z.up h.1)⟩
theorem QN.mo {I J : List Nat} {t1 r : Nat} {β : mS} (h : QN W s Lc Lr I t0 α r t1 β) (hI : ∀ i, i ∈ I → i ∈ J) : QN W s Lc Lr J t0 α r t1 β := ⟨h.1, h.2.1, h.2.2.1.mo hI (fun _ z => z), h.2.2.2⟩
theorem XN.mo {I J : List Nat} {β : mS} (h : XN W s I t0 α β) (hI : ∀ i, i ∈ I → i ∈ J) : XN W s J t0 α β := ⟨h.1.mo hI (fun _ z => z), h.2⟩
theorem QN.al {I : List Nat} {S : Nat → Prop} {t1 r x : Nat} {β : mS} (h : QN W s Lc Lr I t0 α r t1 β) (hP : PO W s Lc Lr t0 α) (hx : vd W s t0 x) (ha : AL S α x) : AL S β x := ha.sn hP.2.2.2 h.2.2.2.1 hx
/-- a new application -/
theorem appm_ok {x y : Nat} (hn : nrm W s) (hP : PO W s Lc Lr t0 α) (hx : vd W s t0 x) (hy : vd W s t0 y) : rI (f_Mod_apply N (nI x) (nI y) α) (fun v β => ∃ r t1, v = nI r ∧ QN W s Lc Lr [10] t0 α r t1 β ∧ (uK β r = 8 ∧ uA β r = x ∧ uC β r = y) ∧ ∀ S, AL S α x → AL S α y → AL S β r) (XN W s [10, 100, 101] t0 α) := by
  refine (apply_w hP hn.f (fun z => z) ⟨hx, hn.lt hP hx⟩ ⟨hy, hn.lt hP hy⟩).mono (fun v β q => ?_) (fun β q => ⟨q.mo (by decide) (fun r z => by cases z), sN.ch q (fun r _ _ z => by cases z)⟩)
  obtain ⟨rfl, q1, q2, q3, q4, q5, q6, q7⟩ := q
  have x4 := (hP.nw hx).1
  have y4 := (hP.nw hy).1
  have ea : uA β t0 = x := by unfold uA; rw [q6, nI_clamp (by omega)]
  have ec : uC β t0 = y := by unfold uC; rw [q7, nI_clamp (by omega)]
  refine ⟨t0, t0 + 1, rfl, ⟨by omega, q2, q3.mo (fun _ z => z) (by decide), q4, Or.inr ⟨hP.2.1, by omega⟩⟩, ⟨q5, ea, ec⟩, fun S hx' hy' => AL.mk (by omega) ?_ ?_ (fun z => by omega)⟩
  · rw [ea]; exact hx'.sn hP.2.2.2 q4 hx
  · rw [ec]; exact hy'.sn hP.2.2.2 q4 hy
theorem with_go {t n : Nat} (hN : 400000 < N) (hn : nrm W s) : ∀ (m k f nn t0 : Nat) (α : mS), k + m = n → m < nn → PO W s Lc Lr t0 α → vd W s t0 t → vd W s t0 f → apn α n t → rI (f_Mod_with_7 N nn (nI k) (nI f) (nI t) (nI n) α) (fun v β => ∃ r t1, v = nI r ∧ QN W s Lc Lr [10] t0 α r t1 β ∧ ∀ S, AL S α f → AL S α t → AL S β r) (XN W s [10, 100, 101] t0 α)
  | 0, k, f, nn, t0, α, hk, hm, hP, ht, hf, ha => by
    obtain ⟨nn, rfl⟩ : ∃ n', nn = n' + 1 := ⟨nn - 1, by omega⟩
    have l := (itr_v hP.2.2.2 ht n ha).2
    have t4 := (hP.nw ht).1
    rw [f_Mod_with_7, if_pos (nI_le (by omega) (by omega))]
    exact rI.ret ⟨f, t0, rfl, ⟨Nat.le_refl _, hP, mch.rf, sN.rf, hf⟩, fun S h _ => h⟩
  | m + 1, k, f, nn, t0, α, hk, hm, hP, ht, hf, ha => by
    obtain ⟨nn, rfl⟩ : ∃ n', nn = n' + 1 := ⟨nn - 1, by omega⟩
    have l := (itr_v hP.2.2.2 ht n ha).2
    have t4 := (hP.nw ht).1
    rw [f_Mod_with_7, if_neg (nI_ge (by omega) (by omega))]
    obtain ⟨r, er, er2, vr, -⟩ := nth_m hN hP.2.2.2 ht ha (show k < n by omega)
    refine rI.ob er ((appm_ok hn hP hf vr).bi (fun v β q => ?_) (fun _ q => q))
    obtain ⟨r1, t1, rfl, q1, -, q2⟩ := q
    rw [nI_1]
    refine (with_go hN hn m (k + 1) r1 nn t1 β (by omega) (by omega) q1.2.1 (ht.up q1.1) q1.2.2.2.2 (apn_sn hP.2.2.2 q1.2.2.2.1 ht ha)).mono (fun v γ u => ?_) (fun γ u => q1.tx u (by decide))
    obtain ⟨r2, t2, e2, u1, u2⟩ := u
    refine ⟨r2, t2, e2, q1.tr u1, fun S h1 h2 => u2 S (q2 S h1 ?_) (q1.al hP ht h2)⟩
    rw [er2]
    have a1 : apn α (n - 1 - k) t := fun j hj => ha j (by omega)
    exact ((h2.itr hP.2.2.2 _ a1).p (by rw [ha (n - 1 - k) (by omega)]; decide)).2.1
theorem with_ok {t n k f : Nat} (hN : 400000 < N) (hn : nrm W s) (hP : PO W s Lc Lr t0 α) (ht : vd W s t0 t) (hf : vd W s t0 f) (ha : apn α n t) (hk : k ≤ n) : rI (f_Mod_with N (nI f) (nI t) (nI n) (nI k) α) (fun v β => ∃ r t1, v = nI r ∧ QN W s Lc Lr [10] t0 α r t1 β ∧ ∀ S, AL S α f → AL S α t → AL S β r) (XN W s [10, 100, 101] t0 α) := by
  have l := (itr_v hP.2.2.2 ht n ha).2
  have t4 := (hP.nw ht).1
  unfold f_Mod_with
  exact with_go hN hn (n - k) k f N t0 α (by omega) (by omega) hP ht hf ha
/-- a TERM within bounds -/
def fit (α : mS) (t : Nat) : Prop := uB α t ≤ 3000 ∧ uD α t ≤ 200
theorem fit.sn {V : Nat → Prop} {β : mS} {t : Nat} (hs : sN V α β) (ht : V t) (h : fit α t) : fit β t := ⟨by rw [hs.b ht]; exact h.1, by rw [hs.d ht]; exact h.2⟩
theorem fit.p {V : Nat → Prop} {t : Nat} (hW : nWf V Lc Lr α) (ht : V t) (h6 : 6 ≤ uK α t) (h : fit α t) : fit α (uA α t) ∧ fit α (uC α t) ∧ (uK α t = 9 → fit α (uE α t)) := by
  have e := big_eq hW ht h6 (by have := h.1; omega)
  have d := hW.dd ht h6
  have h1 := h.1
  have h2 := h.2
  refine ⟨⟨by omega, by omega⟩, ⟨by omega, by omega⟩, fun h9 => ?_⟩
  rw [if_pos h9] at e
  exact ⟨by omega, by have := d.2.2.2 h9; omega⟩
theorem fit.sp {t : Nat} (hP : PO W s Lc Lr t0 α) (ht : vd W s t0 t) (h : fit α t) : uD α t ≤ 800 ∧ SP α 8000 t := ⟨by have := h.2; omega, SP_big hP.2.2.2 ht (by have := h.1; omega) (by decide)⟩
theorem fit.itr {V : Nat → Prop} {t : Nat} (hW : nWf V Lc Lr α) (ht : V t) (h : fit α t) : ∀ (b : Nat), apn α b t → fit α (itr α b t)
  | 0, _ => h
  | b + 1, hb => by
    have h1 : apn α b t := fun j hj => hb j (by omega)
    exact ((fit.itr hW ht h b h1).p hW (itr_v hW ht b h1).1 (by rw [hb b (by omega)]; decide)).1
theorem fits_ok {t : Nat} (hP : PO W s Lc Lr t0 α) (ht : vd W s t0 t) : rI (f_Mod_fits N (nI t) α) (fun v β => v = nI t ∧ β = α ∧ fit α t) (fun β => mch [100, 101] [] α β) := by
  have hW := hP.2.2.2
  obtain ⟨-, -, ⟨b1, b2, b3⟩, ⟨d1, d2, d3⟩, -⟩ := hW t ht
  have t4 := (hP.nw ht).1
  unfold f_Mod_fits
  rw [hW.cl ht, b1, d1]
  refine rI.ix (hW.ix ht) (rI.ite (fun _ => rI.thr nx_th) fun c1 => rI.ix (hW.ix ht) (rI.ite (fun c2 => rI.ret ⟨rfl, rfl, ?_, ?_⟩) fun _ => rI.thr nx_th))
  · exact Nat.not_lt.mp fun z => c1 (nI_lt (a := 3000) z (by omega))
  · exact Nat.not_lt.mp fun z => absurd c2 (nI_ge (a := 200) z (by omega))
end WITH
