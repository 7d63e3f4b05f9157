-- constructor
/-- what stands while the CONSTRUCTORS are checked -/
def HB (κ k np : Nat) (Lr : Nat → Prop) (t : Nat) (α : mS) (w nv : Nat) (P : Nat → Nat) : Prop := IS (· < κ) 32000 (k + 1) Lr np t α w nv ∧ (∀ j, j < k + 1 → tcm (· < κ) 32000 t α j) ∧ PF (· < κ) 32000 t α nv np P
abbrev cI : List Nat := [10, 11, 12, 13, 14, 22, 23, 24, 29]
abbrev cR : List Nat := [2, 3, 4, 5, 6, 7, 8, 12, 14, 15, 16, 17, 18, 19, 23, 32, 35, 36, 37, 38, 39, 40, 43]
/-- what a CONSTRUCTOR changes -/
def CR (j c f : Nat) (α β : mS) : Prop := mch cI cR α β ∧ (∀ r, r ∈ [35, 36, 37, 43] → ∀ l, l ≠ j → β.2 r l = α.2 r l) ∧ (∀ r, r ∈ [38, 39] → ∀ l, l < f → β.2 r l = α.2 r l) ∧ ∀ r, r ∈ [12, 14, 15, 16, 17, 18, 19, 23] → ∀ l, l ≠ c → β.2 r l = α.2 r l
section CON
variable {N : Nat} {κ k np : Nat} {Lr : Nat → Prop} {t0 t1 w w1 nv nv1 U : Nat} {P : Nat → Nat} {α β γ : mS} {j c f : Nat}
theorem CR.rf : CR j c f α α := ⟨mch.rf, fun _ _ _ _ => rfl, fun _ _ _ _ => rfl, fun _ _ _ _ => rfl⟩
theorem CR.tr (h : CR j c f α β) (h' : CR j c f β γ) : CR j c f α γ := ⟨h.1.tr h'.1, fun r hr l hl => (h'.2.1 r hr l hl).trans (h.2.1 r hr l hl), fun r hr l hl => (h'.2.2.1 r hr l hl).trans (h.2.2.1 r hr l hl), fun r hr l hl => (h'.2.2.2 r hr l hl).trans (h.2.2.2 r hr l hl)⟩
theorem CR.ch {I R : List Nat} (h : mch I R α β) (hI : ∀ i, i ∈ I → i ∈ cI) (hR : ∀ r, r ∈ R → r ∈ [2, 3, 4, 5, 6, 7, 8, 32, 40]) : CR j c f α β := ⟨h.mo hI (fun r z => (by decide : ∀ r, r ∈ [2, 3, 4, 5, 6, 7, 8, 32, 40] → r ∈ cR) r (hR r z)), fun r hr l _ => by rw [h.arr (fun z => (by decide : ∀ r, r ∈ [35, 36, 37, 43] → r ∉ [2, 3, 4, 5, 6, 7, 8, 32, 40]) r hr (hR r z))], fun r hr l _ => by rw [h.arr (fun z => (by decide : ∀ r, r ∈ [38, 39] → r ∉ [2, 3, 4, 5, 6, 7, 8, 32, 40]) r hr (hR r z))], fun r hr l _ => by rw [h.arr (fun z => (by decide : ∀ r, r ∈ [12, 14, 15, 16, 17, 18, 19, 23] → r ∉ [2, 3, 4, 5, 6, 7, 8, 32, 40]) r hr (hR r z))]⟩
theorem CR.xd {V : Nat → Prop} (h : CR j c f α β) (hc : k < c) (hs : sN V α β) (hV : ∀ i, i < κ → V i) : XD k κ α β := by
  refine ⟨fun i hi => h.1.int (by revert hi; revert i; decide), fun r a b l hl => ?_, hs.su hV⟩
  by_cases e : r ∈ [12, 14, 15, 16, 17, 18, 19, 23]
  · exact h.2.2.2 r e l (by omega)
  · rw [h.1.arr (fun z => e (by simp at z ⊢; omega))]
theorem QI.gr {W : Nat → Prop} {s Lc : Nat} (g : QI W s Lc Lr U t0 α w nv t1 w1 nv1 β) : GR W s t0 α nv W t1 nv1 β := ⟨fun _ z => z.up g.1, g.2.2.1, g.2.2.2.2.2.1, g.2.2.2.2.2.2⟩
theorem IS.po {W : Nat → Prop} {s Lc : Nat} (h : IS W s Lc Lr U t0 α w nv) : PO W s Lc Lr t0 α := h.1.1
theorem tcm.gr {W W' : Nat → Prop} {s j : Nat} (h : tcm W s t0 α j) (g : GR W s t0 α nv W' t1 nv1 β) (e : β.2 13 j = α.2 13 j) : tcm W' s t1 β j := by
  obtain ⟨v, a, b, d⟩ := h
  exact ⟨v, e.trans a, g.1 _ b, d.sn g.2.1 b⟩
theorem HB.gr (h : HB κ k np Lr t0 α w nv P) (hI : IS (· < κ) 32000 (k + 1) Lr np t1 β w1 nv1) (g : GR (· < κ) 32000 t0 α nv (· < κ) t1 nv1 β) (e13 : β.2 13 = α.2 13) (e33 : β.2 33 = α.2 33) : HB κ k np Lr t1 β w1 nv1 P :=
  ⟨hI, fun j hj => (h.2.1 j hj).gr g (by rw [e13]), fun i hi => ⟨by rw [e33]; exact (h.2.2 i hi).1, (h.2.2 i hi).2.gr h.1.po g⟩⟩
theorem VT.lv {W : Nat → Prop} {s n v : Nat} {S : Nat → Prop} (h : VT W s t0 α n 3000 200 S v) : lvm W s t0 α n v := by
  obtain ⟨a, ty, b, d, e⟩ := h
  exact ⟨a.1, ty, b, d.1, e, d.2.1⟩
theorem AT.lv {W : Nat → Prop} {s n v nq B : Nat} {S : Nat → Prop} {r : Int32} (h : AT W s t0 α n nq B S r v) (hB : B ≤ 3000) : lvm W s t0 α n v := by
  obtain ⟨a, ty, b, d, e, -⟩ := h
  exact ⟨a.1, ty, b, d.1, Nat.le_trans e hB, d.2.1⟩
/-- the arguments so far -/
def AF (κ t : Nat) (α : mS) (nv np nq : Nat) (P G z : Nat → Nat) (f i : Nat) : Prop := ∀ l, l < i → α.2 38 (f + l) = nI (G (f + l)) ∧ AT (· < κ) 32000 t α nv nq (z (f + l)) (SA np P G f l) (α.2 39 (f + l)) (G (f + l)) ∧ z (f + l) ≤ 3000
theorem AF.gr {nq i : Nat} {G z : Nat → Nat} {Lc : Nat} (h : AF κ t0 α nv np nq P G z f i) (hP : PO (· < κ) 32000 Lc Lr t0 α) (g : GR (· < κ) 32000 t0 α nv (· < κ) t1 nv1 β) (e : ∀ l, l < i → β.2 38 (f + l) = α.2 38 (f + l) ∧ β.2 39 (f + l) = α.2 39 (f + l)) : AF κ t1 β nv1 np nq P G z f i := fun l hl => by
  obtain ⟨a, b, d⟩ := h l hl
  exact ⟨(e l hl).1.trans a, by rw [(e l hl).2]; exact b.gr hP g, d⟩
theorem SA_cg {G G' : Nat → Nat} {i : Nat} (h : ∀ l, l < f + i → G' l = G l) : SA np P G' f i = SA np P G f i := by
  funext v
  apply propext
  constructor
  · rintro (y | ⟨l, a, b, d⟩)
    · exact Or.inl y
    · exact Or.inr ⟨l, a, b, by rw [← h l b]; exact d⟩
  · rintro (y | ⟨l, a, b, d⟩)
    · exact Or.inl y
    · exact Or.inr ⟨l, a, b, by rw [h l b]; exact d⟩
theorem AF.cg {nq i : Nat} {G G' z z' : Nat → Nat} (h : AF κ t0 α nv np nq P G z f i) (hG : ∀ l, l < f + i → G' l = G l ∧ z' l = z l) : AF κ t0 α nv np nq P G' z' f i := fun l hl => by
  rw [(hG (f + l) (by omega)).1, (hG (f + l) (by omega)).2, SA_cg (G := G) (fun l' hl' => (hG l' (by omega)).1)]
  exact h l hl
theorem CF.cg {W : Nat → Prop} {s nq m e : Nat} {G G' z z' : Nat → Nat} (h : CF W s t0 α nv np nq k P G z j f m e) (hG : ∀ l, l < f + m → G' l = G l ∧ z' l = z l) : CF W s t0 α nv np nq k P G' z' j f m e := by
  obtain ⟨a, b, d, d', ⟨e1, e2, e3⟩, i⟩ := h
  refine ⟨a, b, d, d', ⟨e1, by rw [SA_cg (G := G) (fun l hl => (hG l hl).1)]; exact e2, e3⟩, fun l hl => ?_⟩
  rw [(hG (f + l) (by omega)).1, (hG (f + l) (by omega)).2, SA_cg (G := G) (fun l' hl' => (hG l' (by omega)).1)]
  exact i l hl
/-- of a TERM over the parameters and the arguments all types stand -/
theorem HB.ax {nq i x : Nat} {G z : Nat → Nat} (h : HB κ k np Lr t0 α w nv P) (ha : AF κ t0 α nv np nq P G z f i) (vx : vd (· < κ) 32000 t0 x) (ax : AL (SA np P G f i) α x) : AX (· < κ) 32000 t0 α nv x := by
  refine ⟨ax.su fun v y => ?_, AC.all h.1.po.2.2.2 h.2.1 vx⟩
  rcases y with ⟨l, -, y1, y2⟩ | ⟨l, y0, y1, y2⟩
  · rw [← y2]; exact (h.2.2 l y1).2.lv
  · obtain ⟨-, b, d⟩ := ha (l - f) (by omega)
    have := b.lv d
    rw [show f + (l - f) = l by omega, y2] at this
    exact this
/-- the end of a recursive argument -/
theorem con_110 {nq q : Nat} {k44 : Int32 → Int32 → Int32 → Int32 → Int32 → Int32 → Int32 → mS → Option (kO × mS)} {y11 y10 y9 y8 y3 y4 : Int32} {Qv Qx : mS → Prop} (hN : 400000 < N) (hP : PO (· < κ) 32000 (k + 1) Lr t0 α) (hnq : np + q = nq) (hq5 : nq ≤ 5000) (hc : c < 301) (hX : ∀ x y, Qx (mTh α x y)) : ∀ (b en nn : Nat), uB α en ≤ b → b < nn → vd (· < κ) 32000 t0 en → fit α en → (∀ x, FEn α nq x en → rV (f_Mod_constructor_j185 N k44 y11 y10 y9 y8 (nI k) (nI c) y3 y4 (nI np) (nI q) (mSA α 19 (upd (α.2 19) c (α.2 19 c + 1)))) Qv Qx) → rV (f_Mod_constructor_110 N k44 nn (nI en) y11 y10 y9 y8 (nI k) (nI c) y3 y4 (nI np) (nI q) α) Qv Qx
  | 0, en, nn, hb, hm, ve, fe, hk => by
    have := big_pos hP.2.2.2 ve
    omega
  | b + 1, en, nn, hb, hm, ve, fe, hk => by
    obtain ⟨nn, rfl⟩ : ∃ n', nn = n' + 1 := ⟨nn - 1, by omega⟩
    have hW := hP.2.2.2
    rw [f_Mod_constructor_110, hW.cl ve, nI_clamp (show c < 2 ^ 31 by omega)]
    refine rV.ix (hW.ix ve) (rV.ite (fun k6 => rV.ix (hW.ix ve) ?_) fun nk => ?_)
    · have k6 : uK α en = 6 := (hW.is ve (m := 6) (by decide)).mp k6
      have h6 : 6 ≤ uK α en := by omega
      have p3 := hW.p3 ve h6
      have p4 := hW.p4 ve h6
      have fp := fe.p hW ve h6
      obtain ⟨x, ex⟩ := hasm_ok hN hW dp_has (uA α en) (nI k) p3.2.2 (Nat.le_trans fp.1.2 (by decide))
      rw [p3.1]
      refine rV.ob ex (rV.ite (fun _ => rV.ix (hW.ix ve) ?_) fun _ => rV.thr (hX _ _))
      rw [p4.1]
      have be := big_eq hW ve h6 (by have := fe.1; omega)
      exact con_110 hN hP hnq hq5 hc hX b (uC α en) nn (by omega) (by omega) p4.2.2 fp.2.1 (fun x hx => hk (x + 1) ⟨k6, hx⟩)
    · obtain ⟨v, ev, hv⟩ := isf_ok (k := k) hN hP ve fe (show np + q ≤ 5000 by omega)
      refine rV.ob ev (rV.ite (fun _ => rV.thr (hX _ _)) fun ne => ?_)
      refine rV.ix (mix' hc (by decide)) (rV.ix (mix' hc (by decide)) ?_)
      rw [hnq] at hv
      exact hk 0 (hv ne)
/-- what is known in the midst of a CONSTRUCTOR -/
def CI (κ k np nq j c f B : Nat) (Lr : Nat → Prop) (t : Nat) (α : mS) (w nv : Nat) (P G z : Nat → Nat) (i tm oc : Nat) : Prop := HB κ k np Lr t α w nv P ∧ (α.1 29 = nI (f + i) ∧ α.2 36 j = nI f ∧ f ≤ 3300) ∧ AF κ t α nv np nq P G z f i ∧ (vd (· < κ) 32000 t tm ∧ fit α tm ∧ AL (SA np P G f i) α tm) ∧ (uB α tm + i + smf (fun l => z (f + l)) i = B ∧ uD α tm + i ≤ 200) ∧ α.2 43 j = nI oc ∧ oc ≤ 3000 * i
/-- what is known of a CONSTRUCTOR checked -/
def CP (κ k np nq j c f B : Nat) (Lr : Nat → Prop) (P G z : Nat → Nat) (i t0 nv : Nat) (α β : mS) : Prop := ∃ t1 w1 nv1 m e wh G' z', (∀ l, l < f + i → G' l = G l ∧ z' l = z l) ∧ HB κ k np Lr t1 β w1 nv1 P ∧ β.1 29 = nI (f + m) ∧ CF (· < κ) 32000 t1 β nv1 np nq k P G' z' j f m e ∧ (β.2 35 j = nI wh ∧ vd (· < κ) 32000 t1 wh ∧ fit β wh ∧ clo β wh) ∧ (∃ oc, β.2 43 j = nI oc ∧ oc ≤ 1000000) ∧ 1 + m + smf (fun l => z' (f + l)) m ≤ B ∧ (β.2 12 c = 4 ∧ β.2 23 c = nI k ∧ β.2 15 c = nI np ∧ β.2 14 c = -1) ∧ GR (· < κ) 32000 t0 α nv (· < κ) t1 nv1 β ∧ CR j c f α β
theorem smf_cg {g g' : Nat → Nat} : ∀ {n : Nat}, (∀ l, l < n → g' l = g l) → smf g' n = smf g n
  | 0, _ => rfl
  | n + 1, h => by
    show smf g' n + g' n = smf g n + g n
    rw [smf_cg (n := n) (fun l hl => h l (by omega)), h n (by omega)]
theorem upd_CR {r l : Nat} {x : Int32} (hr : r ∈ [35, 36, 37, 43]) (hl : l = j) : CR j c f α (mSA α r (upd (α.2 r) l x)) := by
  subst hl
  have hc : mch [] [r] α (mSA α r (upd (α.2 r) l x)) := mch.sA (List.mem_singleton.mpr rfl)
  refine ⟨hc.mo (fun _ z => by cases z) (fun r' z => by have := List.mem_singleton.mp z; subst this; exact (by decide : ∀ r, r ∈ [35, 36, 37, 43] → r ∈ cR) r' hr), fun r' hr' l' hl' => ?_, fun r' hr' l' hl' => ?_, fun r' hr' l' hl' => ?_⟩
  · by_cases e : r' = r
    · subst e
      rw [show (mSA α r' (upd (α.2 r') l x)).2 r' = upd (α.2 r') l x from if_pos rfl, upd_ne hl']
    · rw [hc.arr (fun z => e (List.mem_singleton.mp z))]
  · rw [hc.arr (fun z => by have := List.mem_singleton.mp z; subst this; exact (by decide : ∀ r, r ∈ [35, 36, 37, 43] → r ∉ [38, 39]) r' hr hr')]
  · rw [hc.arr (fun z => by have := List.mem_singleton.mp z; subst this; exact (by decide : ∀ r, r ∈ [35, 36, 37, 43] → r ∉ [12, 14, 15, 16, 17, 18, 19, 23]) r' hr hr')]
/-- the state after a new argument -/
theorem con_185 {nq q i tm oc B : Nat} {G z : Nat → Nat} {k44 : Int32 → Int32 → Int32 → Int32 → Int32 → Int32 → Int32 → mS → Option (kO × mS)} {u y4 y11 : Int32} {Qv Qx : mS → Prop} (hN : 400000 < N) (hκ : κ ≤ 32000) (hnp : np < 5000) (hj : j < 301) (h : CI κ k np nq j c f B Lr t0 α w nv P G z i tm oc) (h6 : uK α tm = 6) (hi : i < 199) (hr : vp_nar .boolean y11 ≠ 0 → ∃ x, FEn α nq x (uA α tm)) (hX : ∀ β, CR j c f α β → sN (vd (· < κ) 32000 t0) α β → Qx β) (hXX : ∀ β, mch inX inR α β → sN (vd (· < κ) 32000 t0) α β → Qx β) (hXC : ∀ β γ, CR j c f α β → sN (vd (· < κ) 32000 t0) α β → XI (· < κ) 32000 t0 β γ → Qx γ) (hk : ∀ t1 β w1 r oc' G' z', (∀ l, l < f + i → G' l = G l ∧ z' l = z l) → CI κ k np nq j c f B Lr t1 β w1 (nv + 1) P G' z' (i + 1) r oc' → uB β r < uB α tm → GR (· < κ) 32000 t0 α nv (· < κ) t1 (nv + 1) β → CR j c f α β → rV (k44 (nI r) (nI k) (nI c) (nI j) y4 (nI np) (nI q) β) Qv Qx) : rV (f_Mod_constructor_j185 N k44 y11 u (nI (uA α tm)) (nI tm) (nI k) (nI c) (nI j) y4 (nI np) (nI q) α) Qv Qx := by
  obtain ⟨hb, ⟨h29, h36, hf3⟩, ha, ⟨vt, ft, at'⟩, ⟨hB, hD⟩, h43, hoc⟩ := h
  have hn := nrmk hκ
  have hI := hb.1
  have hW := hI.po.2.2.2
  have p3 := hW.p3 vt (by omega)
  have p4 := hW.p4 vt (by omega)
  have fp := ft.p hW vt (by omega)
  have ap := at'.p (by omega)
  have be := big_eq hW vt (by omega) (by have := ft.1; omega)
  have dd := hW.dd vt (by omega)
  rw [if_neg (by omega)] at be
  unfold f_Mod_constructor_j185
  refine (fresh_g hn hI (by omega)).bv (fun v β g => ?_) (fun β g => hXX β g.1 g.2)
  obtain ⟨v, t1, rfl, g1, g2, g3, ⟨g4, g5⟩, g6, g7⟩ := g
  have hW1 := g1.is.1.1.2.2.2
  have b29 : β.1 29 = nI (f + i) := (g1.2.1.int (by decide)).trans h29
  rw [hW1.cl g2, b29, nI_clamp (show f + i < 2 ^ 31 by omega), nI_1, g5]
  refine rV.ix (hW1.ix g2) (rV.ix (mix' (show f + i < 4000 by omega) (by decide)) (rV.ix (mix' (show f + i < 4000 by omega) (by decide)) ?_))
  obtain ⟨γ, eγ⟩ : ∃ γ, γ = mSi (mSA (mSA β 38 (upd (β.2 38) (f + i) (nI nv))) 39 (upd ((mSA β 38 (upd (β.2 38) (f + i) (nI nv))).2 39) (f + i) (vp_nar .boolean y11))) 29 (nI (f + i + 1)) := ⟨_, rfl⟩
  rw [← eγ]
  have c1 : mch [29] [38, 39] β γ := by rw [eγ]; exact ((mch.sA (by decide)).tr (mch.sA (by decide))).tr (mch.si (by decide))
  have s1 : ∀ V : Nat → Prop, sN V β γ := fun V => sN.ch c1 (fun r a b z => by simp at z; omega)
  have e38 : γ.2 38 = upd (β.2 38) (f + i) (nI nv) := by rw [eγ]; rfl
  have e39 : γ.2 39 = upd (β.2 39) (f + i) (vp_nar .boolean y11) := by rw [eγ]; rfl
  have k1 : CR j c f β γ := ⟨c1.mo (by decide) (by decide), fun r hr l _ => by rw [c1.arr (by revert hr; revert r; decide)], fun r hr l hl => by
    have : r = 38 ∨ r = 39 := by simpa using hr
    rcases this with rfl | rfl
    · rw [e38, upd_ne (by omega)]
    · rw [e39, upd_ne (by omega)], fun r hr l _ => by rw [c1.arr (by revert hr; revert r; decide)]⟩
  have k0 : CR j c f α β := CR.ch g1.2.1 (by decide) (by decide)
  have I1 : IS (· < κ) 32000 (k + 1) Lr (np + 1) t1 γ w (nv + 1) := g1.is.ch c1 (by decide) (by decide)
  -- both ways
  have two : ∀ x, rV (f_Mod_constructor_j245 N k44 (nI v) (nI tm) (nI k) (nI c) (nI j) y4 (nI np) (nI q) x (nI (f + i)) γ) Qv Qx := fun x => by
    unfold f_Mod_constructor_j245
    rw [nI_clamp (show f + i < 2 ^ 31 by omega), nI_clamp (show j < 2 ^ 31 by omega), hW.cl vt]
    refine rV.ix (mix' (show f + i < 4000 by omega) (by decide)) (rV.ix (hW.ix vt) ?_)
    obtain ⟨δ, eδ⟩ : ∃ δ, δ = mSA γ 40 (upd (γ.2 40) (f + i) (vp_nar .boolean x)) := ⟨_, rfl⟩
    rw [← eδ]
    have c2 : mch [] [40] γ δ := by rw [eδ]; exact mch.sA (by decide)
    have s2 : ∀ V : Nat → Prop, sN V γ δ := fun V => sN.ch c2 (fun r a b z => by have := List.mem_singleton.mp z; omega)
    have I2 := I1.ch c2 (fun i _ z => by cases z) (by decide)
    have sA : sN (vd (· < κ) 32000 t0) α δ := g1.2.2.1.tr ((s1 _).tr (s2 _))
    have k2 : CR j c f α δ := k0.tr (k1.tr (CR.ch c2 (fun i z => by cases z) (by decide)))
    rw [sA tm vt 4 (by decide) (by decide), p4.1]
    have vC : vd (· < κ) 32000 t1 (uC α tm) := p4.2.2.up g1.1
    refine (open_ok (U := np) hN hn I2 vC g2 (fp.2.1.sn sA p4.2.2)).bv (fun r ε y => ?_) (fun ε y => hXC δ ε k2 sA ⟨y.1, y.2.su fun _ z => z.up g1.1⟩)
    obtain ⟨r, t2, w2, rfl, y1, y2, y3, y4', y5, y6⟩ := y
    have hW2 := y1.is.1.1.2.2.2
    have kv : uK δ v = 3 := by rw [(s2 (fun _ => True)).k trivial, (s1 (fun _ => True)).k trivial]; exact g4
    have vv2 : vd (· < κ) 32000 t2 v := y1.v g2
    obtain ⟨z1, z2, -⟩ := y5.sz hW2 (fun t r _ _ h1 h2 => by
      rcases h2 with rfl | ⟨-, rfl⟩
      · exact h1
      · rw [y1.2.2.1.k g2, kv]; decide) (y1.v vC) y3
    have sB : sN (vd (· < κ) 32000 t0) α ε := sA.tr (y1.2.2.1.su fun _ z => z.up g1.1)
    rw [sB.b p4.2.2] at z1
    rw [sB.d p4.2.2] at z2
    have e43 : ε.2 43 j = nI oc := by rw [y1.2.1.arr (by decide), c2.arr (by decide), c1.arr (by decide), g1.2.1.arr (by decide)]; exact h43
    obtain ⟨-, -, ⟨br, -⟩, -⟩ := hW2 r y3
    rw [hW2.cl y3, e43, br, nI_add]
    refine rV.ix (mix' hj (by decide)) (rV.ix (hW2.ix y3) (rV.ix (mix' hj (by decide)) ?_))
    obtain ⟨ζ, eζ⟩ : ∃ ζ, ζ = mSA ε 43 (upd (ε.2 43) j (nI (oc + uB ε r))) := ⟨_, rfl⟩
    rw [← eζ]
    have c3 : mch [] [43] ε ζ := by rw [eζ]; exact mch.sA (by decide)
    have s3 : ∀ V : Nat → Prop, sN V ε ζ := fun V => sN.ch c3 (fun r a b z => by have := List.mem_singleton.mp z; omega)
    have k3 : CR j c f ε ζ := by rw [eζ]; exact upd_CR (by decide) rfl
    have kA : CR j c f α ζ := k2.tr ((CR.ch y1.2.1 (by decide) (by decide)).tr k3)
    have sC : sN (vd (· < κ) 32000 t0) α ζ := sB.tr (s3 _)
    have I3 : IS (· < κ) 32000 (k + 1) Lr np t2 ζ w2 (nv + 1) := y1.is.ch c3 (fun i _ z => by cases z) (by decide)
    have e32 : ∀ l, l < nv + 1 → ζ.2 32 l = β.2 32 l := fun l hl => by rw [c3.arr (by decide), y1.2.2.2.2.2.2 l hl, c2.arr (by decide), c1.arr (by decide)]
    have gg : GR (· < κ) 32000 t0 α nv (· < κ) t2 (nv + 1) ζ := ⟨fun _ z => (z.up g1.1).up y1.1, sC, by omega, fun l hl => by rw [e32 l (by omega)]; exact g1.2.2.2.2.2.2 l hl⟩
    have f38 : ζ.2 38 = upd (β.2 38) (f + i) (nI nv) := by rw [c3.arr (by decide), y1.2.1.arr (by decide), c2.arr (by decide), e38]
    have f39 : ζ.2 39 = upd (β.2 39) (f + i) (vp_nar .boolean y11) := by rw [c3.arr (by decide), y1.2.1.arr (by decide), c2.arr (by decide), e39]
    have hb3 : HB κ k np Lr t2 ζ w2 (nv + 1) P := hb.gr I3 gg (kA.1.arr (by decide)) (kA.1.arr (by decide))
    have fe := ft.1
    have fz : fit ζ r := y4'.sn (s3 (fun _ => True)) trivial
    have bz : uB ζ r = uB ε r := (s3 (fun _ => True)).b trivial
    have dz : uD ζ r = uD ε r := (s3 (fun _ => True)).d trivial
    have hG : ∀ l, l < f + i → (fun l => if l = f + i then nv else G l) l = G l ∧ (fun l => if l = f + i then uB α (uA α tm) else z l) l = z l := fun l hl => ⟨if_neg (by omega), if_neg (by omega)⟩
    have SAe := SA_cg (np := np) (P := P) (f := f) (i := i) (G := G) (G' := fun l => if l = f + i then nv else G l) (fun l hl => (hG l hl).1)
    have nvS : SA np P (fun l => if l = f + i then nv else G l) f (i + 1) nv := Or.inr ⟨f + i, by omega, by omega, if_pos rfl⟩
    have atA : TM (· < κ) 32000 t0 α 3000 200 (SA np P G f i) (uA α tm) := ⟨p3.2.2, by omega, SP_big hW p3.2.2 (by omega) (by decide), ap.1⟩
    have AFn : AF κ t2 ζ (nv + 1) np nq P (fun l => if l = f + i then nv else G l) (fun l => if l = f + i then uB α (uA α tm) else z l) f (i + 1) := fun l hl => by
      rcases Nat.lt_or_ge l i with y | y
      · have := (ha.cg hG).gr hI.po gg (fun l hl => ⟨by rw [f38, upd_ne (by omega), g1.2.1.arr (by decide)], by rw [f39, upd_ne (by omega), g1.2.1.arr (by decide)]⟩)
        exact this l y
      · have el : l = i := by omega
        subst el
        refine ⟨?_, ?_, ?_⟩
        · show ζ.2 38 (f + l) = nI (if f + l = f + l then nv else G (f + l))
          rw [if_pos rfl, f38, upd_at]
        · show AT (· < κ) 32000 t2 ζ (nv + 1) nq (if f + l = f + l then uB α (uA α tm) else z (f + l)) (SA np P (fun l_1 => if l_1 = f + l then nv else G l_1) f l) (ζ.2 39 (f + l)) (if f + l = f + l then nv else G (f + l))
          rw [if_pos rfl, if_pos rfl, f39, upd_at, SAe]
          refine ⟨⟨by omega, g6⟩, uA α tm, by rw [e32 nv (by omega)]; exact g7, atA.gr hI.po gg, by rw [sC.b p3.2.2]; exact Nat.le_refl _, fun y => ?_⟩
          obtain ⟨x, hx⟩ := hr y
          exact ⟨x, hx.sn hW sC p3.2.2⟩
        · show (if f + l = f + l then uB α (uA α tm) else z (f + l)) ≤ 3000
          rw [if_pos rfl]; exact fp.1.1
    have al : AL (SA np P (fun l => if l = f + i then nv else G l) f (i + 1)) ζ r := by
      refine (y6 (SA np P (fun l => if l = f + i then nv else G l) f (i + 1)) (AL.lf (by omega) (fun _ => ⟨nv, ?_, g6, nvS⟩) (by omega)) ((ap.2.1.sn hW sA p4.2.2).su fun v y => ?_)).sn hW2 (s3 _) y3
      · rw [s2 (fun _ => True) v trivial 3 (by decide) (by decide), s1 (fun _ => True) v trivial 3 (by decide) (by decide)]; exact g5
      · exact SA_up (i := i) (by omega) (by rw [SAe]; exact y)
    have sme : smf (fun l => (fun l => if l = f + i then uB α (uA α tm) else z l) (f + l)) (i + 1) = smf (fun l => z (f + l)) i + uB α (uA α tm) := by
      show smf _ i + _ = _
      rw [smf_cg (g := fun l => z (f + l)) (fun l hl => (hG (f + l) (by omega)).2)]
      show _ + (if f + i = f + i then uB α (uA α tm) else z (f + i)) = _
      rw [if_pos rfl]
    refine hk t2 ζ w2 r (oc + uB ε r) _ _ hG ⟨hb3, ⟨?_, ?_, hf3⟩, AFn, ⟨y3, fz, al⟩, ⟨by rw [sme, bz, z1]; omega, by rw [dz, z2]; omega⟩, by rw [eζ]; exact upd_at, ?_⟩ (by rw [bz, z1]; omega) gg kA
    · rw [c3.int (fun z => by cases z), y1.2.1.int (by decide), c2.int (fun z => by cases z), eγ]; rfl
    · rw [c3.arr (by decide), y1.2.1.arr (by decide), c2.arr (by decide), c1.arr (by decide), g1.2.1.arr (by decide)]; exact h36
    · have := y4'.1
      omega
  exact rV.ite (fun _ => two 1) fun _ => two 0
end CON
