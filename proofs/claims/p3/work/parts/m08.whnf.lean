-- WHNF of the reference
/-- no FREE variable, no LEVEL -/
abbrev clo (α : mS) (t : Nat) : Prop := AL (fun _ => False) α t
/-- what is kept of the CONSTANTS: those below Lc, and families below Lr -/
def EN (W : Nat → Prop) (Lc : Nat) (Lr : Nat → Prop) (α : mS) : Prop := (Lc ≤ 301 ∧ ∀ j, Lr j → j < 301) ∧ (∀ j, j < Lc → (α.2 12 j = 1 → ∃ v, α.2 14 j = nI v ∧ W v ∧ clo α v ∧ fit α v) ∧ (α.2 12 j = 4 → ∃ f, α.2 23 j = nI f ∧ f < Lc ∧ (Lr f → (∃ m, α.2 18 j = nI m ∧ m ≤ 4096) ∧ ∃ r, α.2 22 j = nI r ∧ W r ∧ clo α r ∧ fit α r))) ∧ (∀ j, Lr j → (∃ a b c, α.2 15 j = nI a ∧ α.2 17 j = nI b ∧ α.2 16 j = nI c ∧ a ≤ 4096 ∧ b ≤ 4096 ∧ c ≤ 4096) ∧ ∃ r, α.2 21 j = nI r ∧ W r ∧ clo α r ∧ fit α r)
abbrev whI : List Nat := [10, 11, 12, 13, 14, 22, 24]
abbrev whX : List Nat := [10, 11, 12, 13, 14, 22, 24, 100, 101]
section EN
variable {W : Nat → Prop} {s Lc : Nat} {Lr : Nat → Prop} {t0 : Nat} {α β : mS}
theorem EN.ch {I R : List Nat} (h : EN W Lc Lr α) (hP : PO W s Lc Lr t0 α) (hc : mch I R α β) (hR : ∀ r, r ∈ [12, 14, 15, 16, 17, 18, 21, 22, 23] → r ∉ R) (hs : sN (vd W s t0) α β) : EN W Lc Lr β := by
  have hr : ∀ r, r ∈ [12, 14, 15, 16, 17, 18, 21, 22, 23] → β.2 r = α.2 r := fun r hr => hc.arr (hR r hr)
  obtain ⟨h0, h1, h2⟩ := h
  have cl : ∀ v, W v → clo α v ∧ fit α v → clo β v ∧ fit β v := fun v hv q => ⟨q.1.sn hP.2.2.2 hs (Or.inl hv), q.2.sn hs (Or.inl hv)⟩
  refine ⟨h0, fun j hj => ?_, fun j hj => ?_⟩
  · rw [hr 12 (by decide), hr 14 (by decide), hr 23 (by decide), hr 18 (by decide), hr 22 (by decide)]
    refine ⟨fun z => ?_, fun z => ?_⟩
    · obtain ⟨v, a, b, c⟩ := (h1 j hj).1 z
      exact ⟨v, a, b, cl v b c⟩
    · obtain ⟨f, a, a', b⟩ := (h1 j hj).2 z
      refine ⟨f, a, a', fun y => ⟨(b y).1, ?_⟩⟩
      obtain ⟨r, c, d, e⟩ := (b y).2
      exact ⟨r, c, d, cl r d e⟩
  · rw [hr 15 (by decide), hr 17 (by decide), hr 16 (by decide), hr 21 (by decide)]
    obtain ⟨a, r, c, d, e⟩ := h2 j hj
    exact ⟨a, r, c, d, cl r d e⟩
end EN
/-- before and after WHNF -/
def WS (W : Nat → Prop) (s Lc : Nat) (Lr : Nat → Prop) (t : Nat) (α : mS) (w : Nat) : Prop := PO W s Lc Lr t α ∧ EN W Lc Lr α ∧ α.1 22 = nI w ∧ w ≤ 60000
section WHM
variable {N : Nat} {W : Nat → Prop} {s Lc : Nat} {Lr : Nat → Prop} {t0 : Nat} {α : mS}
theorem WS.ch {I R : List Nat} {t w : Nat} {β : mS} (h : WS W s Lc Lr t α w) (hc : mch I R α β) (hI : 10 ∉ I ∧ 22 ∉ I) (hR : ∀ r, r ∈ [2, 3, 4, 5, 6, 7, 12, 14, 15, 16, 17, 18, 21, 22, 23] → r ∉ R) : WS W s Lc Lr t β w := by
  have hs : sN (vd W s t) α β := sN.ch hc fun r a b => hR r (by
    have : r = 2 ∨ r = 3 ∨ r = 4 ∨ r = 5 ∨ r = 6 ∨ r = 7 := by omega
    rcases this with e | e | e | e | e | e <;> subst e <;> decide)
  exact ⟨h.1.sn hc hI.1 hs, h.2.1.ch h.1 hc (fun r hr => hR r (by revert hr; revert r; decide)) hs, (hc.int hI.2).trans h.2.2.1, h.2.2.2⟩
/-- after nodes were made -/
theorem WS.qn {I : List Nat} {w r t1 : Nat} {β : mS} (h : WS W s Lc Lr t0 α w) (q : QN W s Lc Lr I t0 α r t1 β) (hI : 22 ∉ I) : WS W s Lc Lr t1 β w := ⟨q.2.1, h.2.1.ch h.1 q.2.2.1 (by decide) q.2.2.2.1, (q.2.2.1.int hI).trans h.2.2.1, h.2.2.2⟩
def WQ (W : Nat → Prop) (s Lc : Nat) (Lr : Nat → Prop) (t0 : Nat) (α : mS) (w t : Nat) (x : Int32) (β : mS) : Prop := ∃ r t1 w', x = nI r ∧ QN W s Lc Lr whI t0 α r t1 β ∧ WS W s Lc Lr t1 β w' ∧ w ≤ w' ∧ β.1 24 = α.1 24 ∧ fit β r ∧ ∀ S, AL S α t → AL S β r
abbrev WX (W : Nat → Prop) (s t0 : Nat) (α β : mS) : Prop := XN W s whX t0 α β
theorem XM.xn {β : mS} (h : XM W s t0 α β) : WX W s t0 α β := ⟨h.1.mo (by decide) (fun _ z => z), h.2⟩
theorem thr_x {I : List Nat} {x y : Int32} (h : ∀ i, i ∈ [100, 101] → i ∈ I) : XN W s I t0 α (mTh α x y) := ⟨nx_th.mo h (fun r z => by cases z), sN.ch nx_th (fun r _ _ z => by cases z)⟩
theorem mch_x {I : List Nat} {β : mS} (q : mch [100, 101] [] α β) (h : ∀ i, i ∈ [100, 101] → i ∈ I) : XN W s I t0 α β := ⟨q.mo h (fun r z => by cases z), sN.ch q (fun r _ _ z => by cases z)⟩
theorem QM.qn {Rl : mS → Nat → Nat → Prop} {t : Nat} {x : Int32} {β : mS} (h : QM W s 400000 Lc Lr Rl t0 t α x β) : ∃ r t1, x = nI r ∧ QN W s Lc Lr mI5 t0 α r t1 β ∧ Rs Rl β t r := by
  obtain ⟨r, t1, e, a, -, b, c, d, f, -, g⟩ := h
  exact ⟨r, t1, e, ⟨a, b, c, d, f⟩, g⟩
theorem opened_ok {b v : Nat} (hN : 400000 < N) (hn : nrm W s) (hP : PO W s Lc Lr t0 α) (hb : vd W s t0 b) (hv : vd W s t0 v) (hf : fit α b) : rI (f_Mod_opened N (nI b) (nI v) α) (fun x β => ∃ r t1, x = nI r ∧ QN W s Lc Lr mI5 t0 α r t1 β ∧ Rs (RPut v) β b r ∧ ∀ S, AL S α v → AL S α b → AL S β r) (XN W s mI7 t0 α) := by
  unfold f_Mod_opened
  obtain ⟨z, ez⟩ := szw_ok hN hP.2.2.2 hv dp_sizeWith b 0 hb (by have := hf.2; show _ ≤ 260; omega)
  refine rI.ob ez (rI.ite (fun _ => ?_) fun _ => rI.thr (thr_x (by decide)))
  obtain ⟨h1, h2⟩ := hf.sp hP hb
  refine ((put_ok hN hn hP hb hv h1 h2).mono (fun x β q => ?_) (fun β q => q)).end
  obtain ⟨r, t1, e, q1, q2⟩ := q.qn
  exact ⟨r, t1, e, q1, q2, fun S h1 h2 => AL.put q1.2.1.2.2.2 (hb.up q1.1) q1.2.2.2.2 q2 (q1.al hP hv h1) (q1.al hP hb h2)⟩
theorem costs_ok {w b : Nat} (hw : α.1 22 = nI w) (h6 : w ≤ 60000) (hb : b ≤ 1000000) : rV (f_Mod_costs N (nI b) α) (fun β => β = mSi α 22 (nI (w + b)) ∧ w + b ≤ 60000) (fun β => mch [22, 100, 101] [] α β) := by
  unfold f_Mod_costs
  rw [hw, nI_add]
  refine rV.ite (fun c => rV.ret ⟨rfl, Nat.not_lt.mp fun z => absurd c (nI_ge (a := 60000) z (by omega))⟩) fun _ => rV.thr ((mch.si (by decide)).tr (mch.th (by decide) (by decide)))
/-- what step gives: the next TERM, or none -/
def SQ (W : Nat → Prop) (s Lc : Nat) (Lr : Nat → Prop) (t0 : Nat) (α : mS) (w t : Nat) (x : Int32) (β : mS) : Prop := ∃ r t1 w', QN W s Lc Lr whI t0 α r t1 β ∧ WS W s Lc Lr t1 β w' ∧ w ≤ w' ∧ β.1 24 = α.1 24 ∧ (x = -1 ∨ x = nI r ∧ ∀ S, AL S α t → AL S β r)
def WhS (W : Nat → Prop) (s Lc : Nat) (Lr : Nat → Prop) (e : Nat) (f : Int32 → mS → Option (kO × mS)) : Prop := ∀ (t0 t w : Nat) (α : mS), WS W s Lc Lr t0 α w → α.1 24 = nI (60 - e) → vd W s t0 t → fit α t → rI (f (nI t) α) (WQ W s Lc Lr t0 α w t) (WX W s t0 α)
def StS (W : Nat → Prop) (s Lc : Nat) (Lr : Nat → Prop) (e : Nat) (f : Int32 → mS → Option (kO × mS)) : Prop := ∀ (t0 t w : Nat) (α : mS), WS W s Lc Lr t0 α w → α.1 24 = nI (60 - e) → vd W s t0 t → fit α t → rI (f (nI t) α) (SQ W s Lc Lr t0 α w t) (WX W s t0 α)
def RcS (W : Nat → Prop) (s Lc : Nat) (Lr : Nat → Prop) (e : Nat) (f : Int32 → Int32 → Int32 → mS → Option (kO × mS)) : Prop := ∀ (t0 t b w : Nat) (α : mS), WS W s Lc Lr t0 α w → α.1 24 = nI (60 - e) → vd W s t0 t → fit α t → apn α b t → uK α (itr α b t) = 2 → rI (f (nI t) (nI (itr α b t)) (nI b) α) (SQ W s Lc Lr t0 α w t) (WX W s t0 α)
theorem whnf_2 {e : Nat} {kk : (Int32 → Int32 → Int32 → mS → Option (kO × mS)) × (Int32 → mS → Option (kO × mS)) × (Int32 → mS → Option (kO × mS))} (hS : StS W s Lc Lr e kk.2.1) : ∀ (d nn t0 t w : Nat) (α : mS), 60000 - w < d → d ≤ nn → WS W s Lc Lr t0 α w → α.1 24 = nI (60 - e) → vd W s t0 t → fit α t → rI (f_Mod_whnf_2 N kk nn (nI t) α) (WQ W s Lc Lr t0 α w t) (WX W s t0 α)
  | 0, nn, t0, t, w, α, hd, hn, hw, hm, ht, hf => by omega
  | d + 1, nn, t0, t, w, α, hd, hn, hw, hm, ht, hf => by
    obtain ⟨nn, rfl⟩ : ∃ n', nn = n' + 1 := ⟨nn - 1, by omega⟩
    rw [f_Mod_whnf_2]
    refine (hS t0 t w α hw hm ht hf).bi (fun x β q => ?_) (fun _ q => q)
    obtain ⟨r, t1, w', q1, q2, q3, q4, q5⟩ := q
    rcases q5 with rfl | ⟨rfl, q5⟩
    · rw [if_neg (by decide)]
      have q1' : QN W s Lc Lr whI t0 α t t1 β := ⟨q1.1, q1.2.1, q1.2.2.1, q1.2.2.2.1, ht.up q1.1⟩
      exact rI.ret ⟨t, t1, w', rfl, q1', q2, q3, q4, hf.sn q1.2.2.2.1 ht, fun S h => q1.al hw.1 ht h⟩
    · have r4 := (q2.1.nw q1.2.2.2.2).1
      rw [if_pos (show (0 : Int32) ≤ nI r from nI_le (a := 0) (Nat.zero_le _) (by omega))]
      refine (fits_ok q2.1 q1.2.2.2.2).bi (fun x γ u => ?_) (fun γ u => q1.tx (mch_x u (by decide)) (by decide))
      obtain ⟨rfl, rfl, u1⟩ := u
      obtain ⟨-, -, ⟨b1, b2, b3⟩, -⟩ := q2.1.nw q1.2.2.2.2
      rw [q2.1.2.2.2.cl q1.2.2.2.2, b1]
      refine rI.ix (q2.1.2.2.2.ix q1.2.2.2.2) ((costs_ok q2.2.2.1 q2.2.2.2 b3).bi (fun δ u => ?_) (fun δ u => q1.tx ⟨u.mo (by decide) (fun r z => by cases z), sN.ch u (fun r _ _ z => by cases z)⟩ (by decide)))
      obtain ⟨rfl, u2⟩ := u
      have cs : mch [22] [] γ (mSi γ 22 (nI (w' + uB γ r))) := mch.si (by decide)
      have ss : sN (vd W s t1) γ (mSi γ 22 (nI (w' + uB γ r))) := sN.ch cs (fun r _ _ z => by cases z)
      have w2 : WS W s Lc Lr t1 (mSi γ 22 (nI (w' + uB γ r))) (w' + uB γ r) := ⟨q2.1.sn cs (by decide) ss, q2.2.1.ch q2.1 cs (by decide) ss, rfl, u2⟩
      have qn2 : QN W s Lc Lr whI t0 α r t1 (mSi γ 22 (nI (w' + uB γ r))) := q1.tr ⟨Nat.le_refl _, w2.1, cs.mo (by decide) (fun r z => by cases z), ss, q1.2.2.2.2⟩
      refine (whnf_2 hS d nn t1 r (w' + uB γ r) _ (by omega) (by omega) w2 (q4.trans hm) q1.2.2.2.2 (u1.sn ss q1.2.2.2.2)).mono (fun x ε v => ?_) (fun ε v => qn2.tx v (by decide))
      obtain ⟨r2, t2, w3, e2, v1, v2, v3, v4, v5, v6⟩ := v
      exact ⟨r2, t2, w3, e2, qn2.tr v1, v2, by omega, v4.trans q4, v5, fun S h => v6 S ((q5 S h).sn q2.1.2.2.2 ss q1.2.2.2.2)⟩
theorem whnf_st {e : Nat} {kk : (Int32 → Int32 → Int32 → mS → Option (kO × mS)) × (Int32 → mS → Option (kO × mS)) × (Int32 → mS → Option (kO × mS))} (hN : 400000 < N) (hS : StS W s Lc Lr e kk.2.1) : WhS W s Lc Lr e (f_Mod_whnf N kk) := fun t0 t w α hw hm ht hf => by
  unfold f_Mod_whnf
  exact whnf_2 hS 60001 N t0 t w α (by omega) (by omega) hw hm ht hf
end WHM
