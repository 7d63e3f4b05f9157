-- map: a TERM with its leaves changed
def SPn (α : mS) : Nat → Nat → Nat → Prop
  | 0, _, _ => True
  | n + 1, q, t => 6 ≤ uK α t → (uK α t = 8 → 1 ≤ q ∧ SPn α n (q - 1) (uA α t) ∧ SPn α n q (uC α t)) ∧ (uK α t ≠ 8 → SPn α n q (uA α t) ∧ SPn α n q (uC α t) ∧ (uK α t = 9 → SPn α n q (uE α t)))
/-- of the spine no more than q is needed for t -/
def SP (α : mS) (q t : Nat) : Prop := ∀ n, SPn α n q t
theorem SP.app {α : mS} {q t : Nat} (h : SP α q t) (h8 : uK α t = 8) : 1 ≤ q ∧ SP α (q - 1) (uA α t) ∧ SP α q (uC α t) :=
  ⟨((h 1 (by omega)).1 h8).1, fun n => ((h (n + 1) (by omega)).1 h8).2.1, fun n => ((h (n + 1) (by omega)).1 h8).2.2⟩
theorem SP.bnd {α : mS} {q t : Nat} (h : SP α q t) (h6 : 6 ≤ uK α t) (h8 : uK α t ≠ 8) : SP α q (uA α t) ∧ SP α q (uC α t) ∧ (uK α t = 9 → SP α q (uE α t)) :=
  ⟨fun n => ((h (n + 1) h6).2 h8).1, fun n => ((h (n + 1) h6).2 h8).2.1, fun h9 n => ((h (n + 1) h6).2 h8).2.2 h9⟩
section SPS
variable {V : Nat → Prop} {Lc : Nat} {Lr : Nat → Prop} {α β : mS}
theorem SPn_sn (hW : nWf V Lc Lr α) (hs : sN V α β) : ∀ (n q t : Nat), V t → (SPn β n q t ↔ SPn α n q t)
  | 0, _, _, _ => Iff.rfl
  | n + 1, q, t, ht => by
    unfold SPn
    rw [hs.k ht, hs.a ht, hs.c ht, hs.e ht]
    by_cases h6 : 6 ≤ uK α t
    · obtain ⟨-, -, -, -, -, a6, -⟩ := hW t ht
      obtain ⟨b1, b2, b3, -⟩ := a6 h6
      rw [SPn_sn hW hs n _ _ b1.2.2, SPn_sn hW hs n q _ b1.2.2, SPn_sn hW hs n _ _ b2.2.2]
      by_cases h9 : uK α t = 9
      · rw [SPn_sn hW hs n _ _ (b3 h9).2.2]
      · exact ⟨fun z y => ⟨(z y).1, fun x => ⟨((z y).2 x).1, ((z y).2 x).2.1, fun w => absurd w h9⟩⟩, fun z y => ⟨(z y).1, fun x => ⟨((z y).2 x).1, ((z y).2 x).2.1, fun w => absurd w h9⟩⟩⟩
    · exact ⟨fun _ y => absurd y h6, fun _ y => absurd y h6⟩
theorem SP.sn (hW : nWf V Lc Lr α) (hs : sN V α β) {q t : Nat} (ht : V t) (h : SP α q t) : SP β q t := fun n => (SPn_sn hW hs n q t ht).mpr (h n)
theorem SPn_up : ∀ (n q q' t : Nat), q ≤ q' → SPn α n q t → SPn α n q' t
  | 0, _, _, _, _, _ => trivial
  | n + 1, q, q', t, hq, h => fun h6 => ⟨fun h8 => by
      obtain ⟨a, b, c⟩ := (h h6).1 h8
      exact ⟨by omega, SPn_up n _ _ _ (by omega) b, SPn_up n _ _ _ hq c⟩, fun h8 => by
      obtain ⟨a, b, c⟩ := (h h6).2 h8
      exact ⟨SPn_up n _ _ _ hq a, SPn_up n _ _ _ hq b, fun h9 => SPn_up n _ _ _ hq (c h9)⟩⟩
theorem SP.up {q q' t : Nat} (hq : q ≤ q') (h : SP α q t) : SP α q' t := fun n => SPn_up n q q' t hq (h n)
/-- SIZES below the cap are exact -/
theorem big_eq (hW : nWf V Lc Lr α) {t : Nat} (ht : V t) (h6 : 6 ≤ uK α t) (hb : uB α t < 1000000) : uB α t = 1 + uB α (uA α t) + uB α (uC α t) + (if uK α t = 9 then uB α (uE α t) else 0) := by
  obtain ⟨-, -, -, -, -, a6, -⟩ := hW t ht
  obtain ⟨-, -, -, b4, -⟩ := a6 h6
  unfold bgf at b4
  omega
theorem big_pos (hW : nWf V Lc Lr α) {t : Nat} (ht : V t) : 1 ≤ uB α t := (hW t ht).2.2.1.2.1
theorem SPn_big (hW : nWf V Lc Lr α) : ∀ (n q t : Nat), V t → uB α t ≤ q → q < 1000000 → SPn α n q t
  | 0, _, _, _, _, _ => trivial
  | n + 1, q, t, ht, hb, hq => fun h6 => by
    have e := big_eq hW ht h6 (by omega)
    obtain ⟨-, -, -, -, -, a6, -⟩ := hW t ht
    obtain ⟨b1, b2, b3, -⟩ := a6 h6
    have p1 := big_pos hW b1.2.2
    have p2 := big_pos hW b2.2.2
    refine ⟨fun h8 => ?_, fun h8 => ?_⟩
    · rw [if_neg (by omega)] at e
      exact ⟨by omega, SPn_big hW n _ _ b1.2.2 (by omega) (by omega), SPn_big hW n _ _ b2.2.2 (by omega) hq⟩
    · refine ⟨SPn_big hW n _ _ b1.2.2 (by omega) hq, SPn_big hW n _ _ b2.2.2 (by omega) hq, fun h9 => ?_⟩
      rw [if_pos h9] at e
      exact SPn_big hW n _ _ (b3 h9).2.2 (by omega) hq
theorem SP_big (hW : nWf V Lc Lr α) {q t : Nat} (ht : V t) (hb : uB α t ≤ q) (hq : q < 1000000) : SP α q t := fun n => SPn_big hW n q t ht hb hq
end SPS
/-- t and r have the same form, with leaves related by Rl -/
def Rn (Rl : mS → Nat → Nat → Prop) (β : mS) : Nat → Nat → Nat → Prop
  | 0, _, _ => False
  | n + 1, t, r => (uK β t < 6 ∧ Rl β t r) ∨ (6 ≤ uK β t ∧ uK β r = uK β t ∧ Rn Rl β n (uA β t) (uA β r) ∧ Rn Rl β n (uC β t) (uC β r) ∧ (uK β t = 9 → Rn Rl β n (uE β t) (uE β r)))
def Rs (Rl : mS → Nat → Nat → Prop) (β : mS) (t r : Nat) : Prop := ∃ n, Rn Rl β n t r
section RSS
variable {V : Nat → Prop} {Lc : Nat} {Lr : Nat → Prop} {α β : mS} {Rl : mS → Nat → Nat → Prop}
theorem Rn_le : ∀ (n m t r : Nat), Rn Rl β n t r → n ≤ m → Rn Rl β m t r
  | 0, _, _, _, h, _ => h.elim
  | n + 1, 0, _, _, _, h => absurd h (by omega)
  | n + 1, m + 1, t, r, h, hm => by
    rcases h with h | ⟨h1, h2, h3, h4, h5⟩
    · exact Or.inl h
    · exact Or.inr ⟨h1, h2, Rn_le n m _ _ h3 (by omega), Rn_le n m _ _ h4 (by omega), fun h9 => Rn_le n m _ _ (h5 h9) (by omega)⟩
theorem Rs.lf {t r : Nat} (h : uK β t < 6) (hr : Rl β t r) : Rs Rl β t r := ⟨1, Or.inl ⟨h, hr⟩⟩
theorem Rs.nd {t r : Nat} (h6 : 6 ≤ uK β t) (hk : uK β r = uK β t) (ha : Rs Rl β (uA β t) (uA β r)) (hc : Rs Rl β (uC β t) (uC β r)) (he : uK β t = 9 → Rs Rl β (uE β t) (uE β r)) : Rs Rl β t r := by
  obtain ⟨n, ha⟩ := ha
  obtain ⟨m, hc⟩ := hc
  by_cases h9 : uK β t = 9
  · obtain ⟨l, he⟩ := he h9
    exact ⟨n + m + l + 1, Or.inr ⟨h6, hk, Rn_le _ _ _ _ ha (by omega), Rn_le _ _ _ _ hc (by omega), fun _ => Rn_le _ _ _ _ he (by omega)⟩⟩
  · exact ⟨n + m + 1, Or.inr ⟨h6, hk, Rn_le _ _ _ _ ha (by omega), Rn_le _ _ _ _ hc (by omega), fun z => absurd z h9⟩⟩
theorem Rs.kd {t r : Nat} (h : Rs Rl β t r) : (uK β t < 6 ∧ Rl β t r) ∨ (6 ≤ uK β t ∧ uK β r = uK β t ∧ Rs Rl β (uA β t) (uA β r) ∧ Rs Rl β (uC β t) (uC β r) ∧ (uK β t = 9 → Rs Rl β (uE β t) (uE β r))) := by
  obtain ⟨n, h⟩ := h
  cases n with
  | zero => exact h.elim
  | succ n =>
    rcases h with h | ⟨h1, h2, h3, h4, h5⟩
    · exact Or.inl h
    · exact Or.inr ⟨h1, h2, ⟨n, h3⟩, ⟨n, h4⟩, fun h9 => ⟨n, h5 h9⟩⟩
theorem Rn_sn (hW : nWf V Lc Lr α) (hs : sN V α β) (hR : ∀ t r, V t → V r → Rl α t r → Rl β t r) : ∀ (n t r : Nat), V t → V r → Rn Rl α n t r → Rn Rl β n t r
  | 0, _, _, _, _, h => h.elim
  | n + 1, t, r, ht, hr, h => by
    unfold Rn
    rw [hs.k ht, hs.a ht, hs.c ht, hs.e ht, hs.k hr, hs.a hr, hs.c hr, hs.e hr]
    rcases h with ⟨h1, h2⟩ | ⟨h1, h2, h3, h4, h5⟩
    · exact Or.inl ⟨h1, hR t r ht hr h2⟩
    · obtain ⟨-, -, -, -, -, a6, -⟩ := hW t ht
      obtain ⟨b1, b2, b3, -⟩ := a6 h1
      obtain ⟨-, -, -, -, -, c6, -⟩ := hW r hr
      obtain ⟨c1, c2, c3, -⟩ := c6 (by omega)
      exact Or.inr ⟨h1, h2, Rn_sn hW hs hR n _ _ b1.2.2 c1.2.2 h3, Rn_sn hW hs hR n _ _ b2.2.2 c2.2.2 h4, fun h9 => Rn_sn hW hs hR n _ _ (b3 h9).2.2 (c3 (by omega)).2.2 (h5 h9)⟩
theorem Rs.sn (hW : nWf V Lc Lr α) (hs : sN V α β) (hR : ∀ t r, V t → V r → Rl α t r → Rl β t r) {t r : Nat} (ht : V t) (hr : V r) (h : Rs Rl α t r) : Rs Rl β t r := by
  obtain ⟨n, h⟩ := h
  exact ⟨n, Rn_sn hW hs hR n t r ht hr h⟩
end RSS
abbrev mpR : List Nat := [2, 3, 4, 5, 6, 7, 8]
section MAP
variable (N : Nat) (W : Nat → Prop) (s lim Lc : Nat) (Lr : Nat → Prop) (tz : Nat) (Fx : mS → Prop) (Rl : mS → Nat → Nat → Prop)
/-- what a leaf becomes -/
def LH : Prop := ∀ (α : mS) (t0 h : Nat) (ar : Int32), tz ≤ t0 → PO W s Lc Lr t0 α → Fx α → vd W s t0 h → uK α h < 6 → (lim = 400000 ∨ t0 + 1 ≤ lim) → rI (f_Mod_leaf N (nI h) ar α) (fun v β => ∃ r t1, v = nI r ∧ t0 ≤ t1 ∧ t1 ≤ t0 + 1 ∧ PO W s Lc Lr t1 β ∧ mch [10] [2, 3, 4, 5, 6, 7] α β ∧ sN (vd W s t0) α β ∧ vd W s t1 r ∧ r < t1 ∧ Rl β h r) (fun β => mch [100, 101] [] α β ∧ 400000 ≤ lim)
/-- what the mode needs stays; so does what leaves became -/
def LSt : Prop := (∀ α β : mS, mch [10, 11] mpR α β → Fx α → Fx β) ∧ (∀ (α β : mS) (t0 t r : Nat), PO W s Lc Lr t0 α → sN (vd W s t0) α β → vd W s t0 t → vd W s t0 r → Rl α t r → Rl β t r)
def MR (t0 p t : Nat) (α : mS) (v : Int32) (β : mS) : Prop := ∃ r t1, v = nI r ∧ t0 ≤ t1 ∧ (lim = 400000 ∨ t1 ≤ t0 + uB α t) ∧ PO W s Lc Lr t1 β ∧ mch [10, 11] mpR α β ∧ β.1 11 = α.1 11 ∧ (∀ j, j < p → β.2 8 j = α.2 8 j) ∧ sN (vd W s t0) α β ∧ vd W s t1 r ∧ r < t1 ∧ Rs Rl β t r
def MX (t0 : Nat) (α β : mS) : Prop := mch [10, 11, 100, 101] mpR α β ∧ sN (vd W s t0) α β ∧ 400000 ≤ lim
def MapD (d : Nat) (kk : Int32 → Int32 → mS → Option (kO × mS)) : Prop := ∀ (t t0 p : Nat) (ar : Int32) (α : mS), tz ≤ t0 → PO W s Lc Lr t0 α → Fx α → vd W s t0 t → uD α t ≤ d → α.1 11 = nI p → p ≤ 8000 → SP α (8000 - p) t → (lim = 400000 ∨ uB α t < 1000000 ∧ t0 + uB α t ≤ lim) → rI (kk (nI t) ar α) (MR W s lim Lc Lr Rl t0 p t α) (MX W s lim t0 α)
end MAP
def itr (α : mS) : Nat → Nat → Nat
  | 0, t => t
  | i + 1, t => uA α (itr α i t)
section UNW
variable {N : Nat} {W : Nat → Prop} {s lim Lc : Nat} {Lr : Nat → Prop} {tz : Nat} {Fx : mS → Prop} {Rl : mS → Nat → Nat → Prop} {d : Nat} {kk : Int32 → Int32 → mS → Option (kO × mS)} {t0 p t : Nat} {α0 : mS} {ar : Int32}
theorem PO.nw (h : PO W s Lc Lr t0 α0) {i : Nat} (hi : vd W s t0 i) : nW (vd W s t0) Lc Lr α0 i := h.2.2.2 i hi
theorem PO.pa (h : PO W s Lc Lr t0 α0) {i : Nat} (hi : vd W s t0 i) (h6 : 6 ≤ uK α0 i) : mPt (vd W s t0) i (α0.2 3 i) (uA α0 i) ∧ mPt (vd W s t0) i (α0.2 4 i) (uC α0 i) ∧ (uK α0 i = 9 → mPt (vd W s t0) i (α0.2 5 i) (uE α0 i)) ∧ uB α0 i = bgf (uK α0 i) (uB α0 (uA α0 i)) (uB α0 (uC α0 i)) (uB α0 (uE α0 i)) ∧ uD α0 i = dpf (uK α0 i) (uD α0 (uA α0 i)) (uD α0 (uC α0 i)) (uD α0 (uE α0 i)) := (h.nw hi).2.2.2.2.2.1 h6
def CHN (W : Nat → Prop) (s lim d t0 p t : Nat) (α0 : mS) (i : Nat) : Prop := ∀ j, j < i → uK α0 (itr α0 j t) = 8 ∧ vd W s t0 (itr α0 j t) ∧ uD α0 (uC α0 (itr α0 j t)) ≤ d ∧ SP α0 (8000 - (p + j)) (uC α0 (itr α0 j t)) ∧ p + j < 8000 ∧ (lim = 400000 ∨ uB α0 (itr α0 j t) < 1000000 ∧ t0 + uB α0 (itr α0 j t) ≤ lim)
theorem apply_w' {x y : Nat} (hP : PO W s Lc Lr t0 α0) (hf : wfr W s lim) (hl : t0 < 400000 → t0 < lim) (hx : vd W s t0 x ∧ x < t0) (hy : vd W s t0 y ∧ y < t0) : rI (f_Mod_apply N (nI x) (nI y) α0) (fun v β => v = nI t0 ∧ t0 < 400000 ∧ PO W s Lc Lr (t0 + 1) β ∧ mch [10] [2, 3, 4, 5, 6, 7] α0 β ∧ sN (vd W s t0) α0 β ∧ uK β t0 = 8 ∧ β.2 3 t0 = nI x ∧ β.2 4 t0 = nI y) (fun β => mch [100, 101] [] α0 β ∧ α0.1 10 = 400000) := by
  unfold f_Mod_apply
  refine ((node_w' (k := 8) hP hf hl (by decide) (fun _ => ⟨x, y, rfl, rfl, hx, hy, fun z => absurd z (by decide)⟩) (fun z => absurd z (by decide)) (fun z => absurd z (by decide)) (fun z => absurd z (by decide))).mono (fun v β q => ?_) (fun _ q => q)).end
  exact ⟨q.1, q.2.1, q.2.2.1, q.2.2.2.1, q.2.2.2.2.1, q.2.2.2.2.2.1, q.2.2.2.2.2.2.1, q.2.2.2.2.2.2.2.1⟩
theorem apply_w {x y : Nat} (hP : PO W s Lc Lr t0 α0) (hf : wfr W s lim) (hl : t0 < 400000 → t0 < lim) (hx : vd W s t0 x ∧ x < t0) (hy : vd W s t0 y ∧ y < t0) : rI (f_Mod_apply N (nI x) (nI y) α0) (fun v β => v = nI t0 ∧ t0 < 400000 ∧ PO W s Lc Lr (t0 + 1) β ∧ mch [10] [2, 3, 4, 5, 6, 7] α0 β ∧ sN (vd W s t0) α0 β ∧ uK β t0 = 8 ∧ β.2 3 t0 = nI x ∧ β.2 4 t0 = nI y) (fun β => mch [100, 101] [] α0 β) := (apply_w' hP hf hl hx hy).mono (fun _ _ q => q) (fun _ q => q.1)
theorem unw (hz : tz ≤ t0) (hD : MapD W s lim Lc Lr tz Fx Rl d kk) (hS : LSt W s Lc Lr Fx Rl) (hf : wfr W s lim) (hP0 : PO W s Lc Lr t0 α0) (hF0 : Fx α0) (hp : α0.1 11 = nI p) (hp8 : p ≤ 8000) : ∀ (i x tb nn : Nat) (β : mS), i < nn → CHN W s lim d t0 p t α0 i → PO W s Lc Lr tb β → t0 ≤ tb → mch [10, 11] mpR α0 β → sN (vd W s t0) α0 β → β.1 11 = nI (p + i) → (∀ j, j < i → β.2 8 (p + j) = nI (itr α0 j t)) → (∀ j, j < p → β.2 8 j = α0.2 8 j) → vd W s tb x → x < tb → Rs Rl β (itr α0 i t) x → vd W s t0 (itr α0 i t) → (lim = 400000 ∨ tb ≤ t0 + uB α0 (itr α0 i t)) → rI (f_Mod_map_201 N kk nn (nI x) (nI p) ar β) (MR W s lim Lc Lr Rl t0 p t α0) (MX W s lim t0 α0)
  | 0, x, tb, nn, β, hn, hC, hP, htb, hc, hs, e11, hst, hlo, vx, xt, hR, _, hb => by
    obtain ⟨nn, rfl⟩ : ∃ n', nn = n' + 1 := ⟨nn - 1, by omega⟩
    rw [f_Mod_map_201, e11, if_pos (show nI (p + 0) ≤ nI p from nI_le (Nat.le_refl _) (by omega))]
    exact rI.ret ⟨x, tb, rfl, htb, hb, hP, hc, e11.trans hp.symm, hlo, hs, vx, xt, hR⟩
  | i + 1, x, tb, nn, β, hn, hC, hP, htb, hc, hs, e11, hst, hlo, vx, xt, hR, hvi, hb => by
    obtain ⟨nn, rfl⟩ : ∃ n', nn = n' + 1 := ⟨nn - 1, by omega⟩
    obtain ⟨c1, c2, c3, c4, c5, c6⟩ := hC i (by omega)
    obtain ⟨h, eh⟩ : ∃ h, h = itr α0 i t := ⟨_, rfl⟩
    rw [← eh] at c1 c2 c3 c4 c6
    have eA : itr α0 (i + 1) t = uA α0 h := by rw [eh]; rfl
    rw [eA] at hR hb hvi
    obtain ⟨b1, b2, -, -, -⟩ := hP0.pa c2 (by omega)
    have hh4 := (hP0.nw c2).1
    have ep : β.1 11 - 1 = nI (p + i) := by rw [e11, show p + (i + 1) = (p + i) + 1 by omega]; exact nI_pred (p + i)
    have ec : (nI (p + i)).toNatClampNeg = p + i := nI_clamp (by omega)
    have e8 : (mSi β 11 (nI (p + i))).2 8 (p + i) = nI h := by rw [eh]; exact hst i (by omega)
    have e4 : (mSi β 11 (nI (p + i))).2 4 h = nI (uC α0 h) := (hs h c2 4 (by decide) (by decide)).trans b2.1
    have m1 : mch [10, 11] mpR β (mSi β 11 (nI (p + i))) := mch.si (by decide)
    have s1 : sN (vd W s tb) β (mSi β 11 (nI (p + i))) := sN.ch (I := [11]) (R := []) (mch.si (by decide)) (fun r _ _ z => by cases z)
    have P1 : PO W s Lc Lr tb (mSi β 11 (nI (p + i))) := hP.sn (I := [11]) (R := []) (mch.si (by decide)) (by decide) s1
    have vup : ∀ j, vd W s t0 j → vd W s tb j := fun j hj => hj.up htb
    have s01 : sN (vd W s t0) α0 (mSi β 11 (nI (p + i))) := hs.tr (s1.su vup)
    have vc := b2.2.2
    have ebg : lim = 400000 ∨ uB α0 h = 1 + uB α0 (uA α0 h) + uB α0 (uC α0 h) := c6.imp id fun z => by
      have := big_eq hP0.2.2.2 c2 (by omega) z.1
      rw [if_neg (by omega)] at this
      omega
    rw [f_Mod_map_201, e11, if_neg (show ¬ nI (p + (i + 1)) ≤ nI p from nI_ge (by omega) (by omega)), ← e11, ep, if_neg (mix c5 (by decide)), ec, e8, if_neg (mix hh4 (by decide)), nI_clamp (by omega), e4]
    refine (hD (uC α0 h) tb (p + i) ar _ (by omega) P1 (hS.1 _ _ (hc.tr m1) hF0) (vup _ vc) (by rw [s01.d vc]; exact c3) mSi_at (by omega) (c4.sn hP0.2.2.2 s01 vc) ?_).bi (fun v γ q => ?_) (fun γ q => ?_)
    · rcases c6 with z | z
      · exact Or.inl z
      · rw [s01.b vc]
        rcases hb with y | y
        · exact Or.inl y
        · rcases ebg with w | w
          · exact Or.inl w
          · exact Or.inr ⟨by omega, by omega⟩
    · obtain ⟨y, t1, rfl, q1, q2, q3, q4, q5, q6, q7, q8, q9, q10⟩ := q
      rw [s01.b vc] at q2
      have vup1 : ∀ j, vd W s tb j → vd W s t1 j := fun j hj => hj.up q1
      have ht1 : t1 < 400000 → t1 < lim := fun z => by
        rcases q2 with w | w
        · omega
        · rcases ebg with u | u
          · omega
          · rcases hb with u' | u'
            · omega
            · rcases c6 with u2 | u2
              · omega
              · omega
      have hf1 : 400000 ≤ t1 → 400000 ≤ lim := fun z => by
        rcases q2 with w | w
        · omega
        · rcases ebg with u | u
          · omega
          · rcases hb with u' | u'
            · omega
            · rcases c6 with u2 | u2
              · omega
              · omega
      refine (apply_w' q3 hf ht1 ⟨vup1 _ vx, by omega⟩ ⟨q8, q9⟩).bi (fun v δ u => ?_) (fun δ u => ⟨?_, ?_, hf1 (q3.full u.2)⟩)
      · obtain ⟨rfl, u1, u2, u3, u4, u5, u6, u7⟩ := u
        have s02 : sN (vd W s t0) α0 γ := s01.tr (q7.su vup)
        have s03 : sN (vd W s t0) α0 δ := s02.tr (u4.su fun j hj => (vup j hj).up q1)
        have sb : sN (vd W s tb) β δ := s1.tr (q7.tr (u4.su vup1))
        have k1 : uK δ h = 8 := (s03.k c2).trans c1
        have a1 : uA δ t1 = x := by unfold uA; rw [u6, nI_clamp (by have := u2.2.2.1; omega)]
        have a2 : uC δ t1 = y := by unfold uC; rw [u7, nI_clamp (by have := u2.2.2.1; omega)]
        refine unw hz hD hS hf hP0 hF0 hp hp8 i t1 (t1 + 1) nn δ (by omega) (fun j hj => hC j (by omega)) u2 (by omega) ((hc.tr m1).tr (q4.tr (u3.mo (by decide) (by decide)))) s03 ?_ (fun j hj => ?_) (fun j hj => ?_) (Or.inr ⟨by have := q3.2.1; omega, by omega⟩) (by omega) ?_ (by rw [← eh]; exact c2) ?_
        · exact ((u3.int (by decide)).trans q5).trans mSi_at
        · rw [u3.arr (by decide), q6 (p + j) (by omega)]
          exact hst j (by omega)
        · rw [u3.arr (by decide), q6 j (by omega)]
          exact hlo j hj
        · rw [← eh]
          refine Rs.nd (by omega) (by omega) ?_ ?_ (fun z => by omega)
          · rw [s03.a c2, a1]
            exact hR.sn hP.2.2.2 sb (fun t r ht hr => hS.2 β δ tb t r hP sb ht hr) (vup _ hvi) vx
          · rw [s03.c c2, a2]
            exact q10.sn q3.2.2.2 u4 (fun t r ht hr => hS.2 γ δ t1 t r q3 u4 ht hr) ((vup _ vc).up q1) q8
        · rw [← eh]
          rcases q2 with w | w
          · exact Or.inl w
          · rcases ebg with u | u
            · exact Or.inl u
            · rcases hb with u' | u'
              · exact Or.inl u'
              · exact Or.inr (by omega)
      · exact ((hc.tr m1).tr q4).mo (by decide) (by decide) |>.tr (u.1.mo (by decide) (by decide))
      · exact (s01.tr (q7.su vup)).tr (sN.ch u.1 (fun r _ _ z => by cases z))
    · exact ⟨((hc.tr m1).mo (by decide) (by decide)).tr q.1, s01.tr (q.2.1.su vup), q.2.2⟩
end UNW
section DESC
variable {N : Nat} {W : Nat → Prop} {s lim Lc : Nat} {Lr : Nat → Prop} {tz : Nat} {Fx : mS → Prop} {Rl : mS → Nat → Nat → Prop} {d : Nat} {kk : Int32 → Int32 → mS → Option (kO × mS)} {t0 p t : Nat} {α0 : mS} {ar : Int32}
theorem desc (hz : tz ≤ t0) (hN : 400000 < N) (hL : LH N W s lim Lc Lr tz Fx Rl) (hD : MapD W s lim Lc Lr tz Fx Rl d kk) (hS : LSt W s Lc Lr Fx Rl) (hf : wfr W s lim) (hP0 : PO W s Lc Lr t0 α0) (hF0 : Fx α0) (hp : α0.1 11 = nI p) : ∀ (h i nn : Nat) (β : mS), h < nn → itr α0 i t = h → vd W s t0 h → uD α0 h ≤ d + 1 → SP α0 (8000 - (p + i)) h → p + i ≤ 8000 → CHN W s lim d t0 p t α0 i → mch [11] [8] α0 β → β.1 11 = nI (p + i) → (∀ j, j < i → β.2 8 (p + j) = nI (itr α0 j t)) → (∀ j, j < p → β.2 8 j = α0.2 8 j) → (lim = 400000 ∨ uB α0 h < 1000000 ∧ t0 + uB α0 h ≤ lim) → rI (f_Mod_map_8 N kk nn (nI h) (nI p) ar β) (MR W s lim Lc Lr Rl t0 p t α0) (MX W s lim t0 α0) := by
  intro h
  induction h using Nat.strongRecOn with
  | ind h ih =>
    intro i nn β hn eh hv hd hq hpi hC hc e11 hst hlo hcn
    obtain ⟨nn, rfl⟩ : ∃ n', nn = n' + 1 := ⟨nn - 1, by omega⟩
    have w0 := hP0.nw hv
    have h4 := w0.1
    have k9 := w0.2.1.2
    have s1 : sN (vd W s t0) α0 β := sN.ch hc (fun r a b z => by have := List.mem_singleton.mp z; omega)
    have P1 : PO W s Lc Lr t0 β := hP0.sn hc (by decide) s1
    have F1 : Fx β := hS.1 _ _ (hc.mo (by decide) (by decide)) hF0
    have ek : β.2 2 h = nI (uK α0 h) := (s1 h hv 2 (by decide) (by decide)).trans w0.2.1.1
    have hk : ∀ m : Nat, m ≤ 9 → (nI (uK α0 h) = nI m ↔ uK α0 h = m) := fun m hm => nI_eq (by omega) (by omega)
    have ec : (nI h).toNatClampNeg = h := nI_clamp (by omega)
    have U : ∀ (x tb : Nat) (γ : mS), PO W s Lc Lr tb γ → t0 ≤ tb → mch [10, 11] mpR α0 γ → sN (vd W s t0) α0 γ → γ.1 11 = nI (p + i) → (∀ j, j < p + i → γ.2 8 j = β.2 8 j) → vd W s tb x → x < tb → Rs Rl γ h x → (lim = 400000 ∨ tb ≤ t0 + uB α0 h) → rI (f_Mod_map_201 N kk N (nI x) (nI p) ar γ) (MR W s lim Lc Lr Rl t0 p t α0) (MX W s lim t0 α0) := fun x tb γ q1 q2 q3 q4 q5 q6 q7 q8 q9 q10 => by
      refine unw hz hD hS hf hP0 hF0 hp (by omega) i x tb N γ (by omega) hC q1 q2 q3 q4 q5 (fun j hj => ?_) (fun j hj => ?_) q7 q8 (by rw [eh]; exact q9) (by rw [eh]; exact hv) (by rw [eh]; exact q10)
      · rw [q6 _ (by omega)]; exact hst j hj
      · rw [q6 _ (by omega)]; exact hlo j hj
    have c0 : mch [10, 11] mpR α0 β := hc.mo (by decide) (by decide)
    have leaf : uK α0 h < 6 → rI (mBi (f_Mod_leaf N (nI h) ar β) fun v γ => f_Mod_map_201 N kk N v (nI p) ar γ) (MR W s lim Lc Lr Rl t0 p t α0) (MX W s lim t0 α0) := fun hk6 => by
      have hb1 := (w0.2.2.2.2.1 hk6).1
      refine (hL β t0 h ar hz P1 F1 hv (by rw [s1.k hv]; exact hk6) (hcn.imp id fun z => by omega)).bi (fun v γ q => ?_) (fun γ q => ⟨(c0.mo (by decide) (by decide)).tr (q.1.mo (by decide) (by decide)), s1.tr (sN.ch q.1 (fun r _ _ z => by cases z)), q.2⟩)
      obtain ⟨r, t1, rfl, q1, q2, q3, q4, q5, q6, q7, q8⟩ := q
      refine U r t1 γ q3 q1 (c0.tr (q4.mo (by decide) (by decide))) (s1.tr q5) ((q4.int (by decide)).trans e11) (fun j _ => by rw [q4.arr (by decide)]) q6 q7 (Rs.lf ?_ q8) (Or.inr (by omega))
      rw [(s1.tr q5).k hv]
      exact hk6
    have ix := mix h4 (Nat.le_refl 400000)
    have ix' := mix' h4 (Nat.le_refl 400000)
    rw [f_Mod_map_8]
    refine rI.ix (by first | exact ix | exact ix') ?_
    rw [ec, ek]
    by_cases h8 : uK α0 h = 8
    · -- an application: one further
      rw [if_pos (show nI (uK α0 h) = 8 from (hk 8 (by omega)).mpr h8)]
      obtain ⟨b1, b2, -, b4, b5⟩ := hP0.pa hv (by omega)
      obtain ⟨g1, g2, g3⟩ := hq.app h8
      unfold dpf at b5
      rw [if_pos h8] at b5
      rw [e11, nI_1, nI_clamp (show p + i < 2 ^ 31 by omega)]
      refine rI.ix (mix' (show p + i < 8000 by omega) (by decide)) (rI.ix (by first | exact ix | exact ix') ?_)
      have c1 : mch [11] [8] α0 (mSA (mSi β 11 (nI (p + i + 1))) 8 (upd ((mSi β 11 (nI (p + i + 1))).2 8) (p + i) (nI h))) := hc.tr ((mch.si (by decide)).tr (mch.sA (by decide)))
      have e3 : (mSA (mSi β 11 (nI (p + i + 1))) 8 (upd ((mSi β 11 (nI (p + i + 1))).2 8) (p + i) (nI h))).2 3 h = nI (uA α0 h) := (c1.arr (k := 3) (by decide) ▸ b1.1)
      rw [e3]
      refine ih (uA α0 h) b1.2.1 (i + 1) nn _ (by have := b1.2.1; omega) (by rw [← eh]; rfl) b1.2.2 (by omega) (by rw [show 8000 - (p + (i + 1)) = 8000 - (p + i) - 1 by omega]; exact g2) (by omega) (fun j hj => ?_) c1 rfl (fun j hj => ?_) (fun j hj => ?_) ?_
      · rcases Nat.lt_or_ge j i with z | z
        · exact hC j z
        · have : j = i := by omega
          subst this
          rw [eh]
          exact ⟨h8, hv, by omega, g3, by omega, hcn⟩
      · show upd (β.2 8) (p + i) (nI h) (p + j) = _
        rcases Nat.lt_or_ge j i with z | z
        · rw [upd_ne (by omega)]; exact hst j z
        · have : j = i := by omega
          subst this
          rw [upd_at, eh]
      · show upd (β.2 8) (p + i) (nI h) j = _
        rw [upd_ne (by omega)]
        exact hlo j hj
      · rcases hcn with z | z
        · exact Or.inl z
        · have := big_eq hP0.2.2.2 hv (by omega) z.1
          rw [if_neg (by omega)] at this
          exact Or.inr ⟨by omega, by omega⟩
    · rw [if_neg (show ¬ nI (uK α0 h) = 8 from fun z => h8 ((hk 8 (by omega)).mp z))]
      refine rI.ix (by first | exact ix | exact ix') ?_
      have bind : (uK α0 h = 6 ∨ uK α0 h = 7) → rI (f_Mod_map_j88 N kk (nI h) (nI p) ar β) (MR W s lim Lc Lr Rl t0 p t α0) (MX W s lim t0 α0) := fun h67 => by
        obtain ⟨b1, b2, -, b4, b5⟩ := hP0.pa hv (by omega)
        unfold dpf at b5
        rw [if_neg h8, if_neg (by omega)] at b5
        obtain ⟨g1, g2, -⟩ := hq.bnd (by omega) h8
        have ebg : lim = 400000 ∨ uB α0 h = 1 + uB α0 (uA α0 h) + uB α0 (uC α0 h) := hcn.imp id fun z => by
          have := big_eq hP0.2.2.2 hv (by omega) z.1
          rw [if_neg (by omega)] at this
          omega
        unfold f_Mod_map_j88
        refine rI.ix (by first | exact ix | exact ix') ?_
        rw [ec, s1 h hv 3 (by decide) (by decide), b1.1]
        refine (hD (uA α0 h) t0 (p + i) ar β hz P1 F1 b1.2.2 (by rw [s1.d b1.2.2]; omega) e11 hpi (g1.sn hP0.2.2.2 s1 b1.2.2) ?_).bi (fun v γ q => ?_) (fun γ q => ⟨(c0.mo (by decide) (by decide)).tr q.1, s1.tr q.2.1, q.2.2⟩)
        · rw [s1.b b1.2.2]
          rcases hcn with z | z
          · exact Or.inl z
          · exact ebg.imp id fun w => ⟨by omega, by omega⟩
        obtain ⟨r1, t1, rfl, q1, q2, q3, q4, q5, q6, q7, q8, q9, q10⟩ := q
        rw [s1.b b1.2.2] at q2
        have s2 : sN (vd W s t0) α0 γ := s1.tr q7
        have c2 : mch [10, 11] mpR α0 γ := c0.tr q4
        refine rI.ix (by first | exact ix | exact ix') (rI.ix (by first | exact ix | exact ix') ?_)
        rw [s2 h hv 4 (by decide) (by decide), b2.1, s2 h hv 2 (by decide) (by decide), w0.2.1.1]
        refine (hD (uC α0 h) t1 (p + i) (ar + 1) γ (by omega) q3 (hS.1 _ _ c2 hF0) (b2.2.2.up q1) (by rw [s2.d b2.2.2]; omega) (q5.trans e11) hpi (g2.sn hP0.2.2.2 s2 b2.2.2) ?_).bi (fun v δ u => ?_) (fun δ u => ⟨(c2.mo (by decide) (by decide)).tr u.1, s2.tr (u.2.1.su fun j hj => hj.up q1), u.2.2⟩)
        · rw [s2.b b2.2.2]
          rcases hcn with z | z
          · exact Or.inl z
          · rcases ebg with w | w
            · exact Or.inl w
            · exact q2.imp id fun y => ⟨by omega, by omega⟩
        obtain ⟨r2, t2, rfl, u1, u2, u3, u4, u5, u6, u7, u8, u9, u10⟩ := u
        rw [s2.b b2.2.2] at u2
        have s3 : sN (vd W s t0) α0 δ := s2.tr (u7.su fun j hj => hj.up q1)
        have c3 : mch [10, 11] mpR α0 δ := c2.tr u4
        have hb3 : lim = 400000 ∨ t2 + 1 ≤ t0 + uB α0 h := by
          rcases q2 with y | y
          · exact Or.inl y
          · rcases u2 with y' | y'
            · exact Or.inl y'
            · exact ebg.imp id fun w => by omega
        have ht2 : t2 < 400000 → t2 < lim := fun z => by
          rcases hb3 with y | y
          · omega
          · rcases hcn with y' | y'
            · omega
            · omega
        have ht2f : 400000 ≤ t2 → 400000 ≤ lim := fun z => by
          rcases hb3 with y | y
          · omega
          · rcases hcn with y' | y'
            · omega
            · omega
        refine (node_w' (k := uK α0 h) u3 hf ht2 (by omega) (fun _ => ⟨r1, r2, rfl, rfl, ⟨q8.up u1, by omega⟩, ⟨u8, u9⟩, fun z => by omega⟩) (fun z => by omega) (fun z => by omega) (fun z => by omega)).bi (fun v ε x => ?_) (fun ε x => ⟨(c3.mo (by decide) (by decide)).tr (x.1.mo (by decide) (by decide)), s3.tr (sN.ch x.1 (fun r _ _ z => by cases z)), ht2f (u3.full x.2)⟩)
        obtain ⟨rfl, x1, x2, x3, x4, x5, x6, x7, -⟩ := x
        have s4 : sN (vd W s t0) α0 ε := s3.tr (x4.su fun j hj => (hj.up q1).up u1)
        have hn2 := u3.2.2.1
        refine U t2 (t2 + 1) ε x2 (by omega) (c3.tr (x3.mo (by decide) (by decide))) s4 ?_ (fun j hj => ?_) (Or.inr ⟨by have := u3.2.1; omega, by omega⟩) (by omega) ?_ hb3
        · exact (x3.int (by decide)).trans ((u5.trans q5).trans e11)
        · rw [x3.arr (by decide), u6 j hj, q6 j hj]
        · refine Rs.nd (by rw [s4.k hv]; omega) (by rw [x5, s4.k hv]) ?_ ?_ (fun z => by rw [s4.k hv] at z; omega)
          · rw [s4.a hv, show uA ε t2 = r1 by unfold uA; rw [x6, nI_clamp (by omega)]]
            have sg : sN (vd W s t1) γ ε := u7.tr (x4.su fun j hj => hj.up u1)
            exact q10.sn q3.2.2.2 sg (fun t r ht hr => hS.2 γ ε t1 t r q3 sg ht hr) (b1.2.2.up q1) q8
          · rw [s4.c hv, show uC ε t2 = r2 by unfold uC; rw [x7, nI_clamp (by omega)]]
            exact u10.sn u3.2.2.2 x4 (fun t r ht hr => hS.2 δ ε t2 t r u3 x4 ht hr) ((b2.2.2.up q1).up u1) u8
      refine rI.ite (fun z => bind (Or.inl ((hk 6 (by omega)).mp z))) (fun n6 => rI.ite (fun z => bind (Or.inr ((hk 7 (by omega)).mp z))) (fun n7 => rI.ite (fun z => absurd ((hk 8 (by omega)).mp z) h8) (fun _ => rI.ite (fun z => ?_) (fun n9 => leaf ?_))))
      · have h9 : uK α0 h = 9 := (hk 9 (by omega)).mp z
        obtain ⟨b1, b2, b3, b4, b5⟩ := hP0.pa hv (by omega)
        have b3 := b3 h9
        unfold dpf at b5
        rw [if_neg h8, if_pos h9] at b5
        obtain ⟨g1, g2, g3⟩ := hq.bnd (by omega) h8
        have g3 := g3 h9
        have ebg : lim = 400000 ∨ uB α0 h = 1 + uB α0 (uA α0 h) + uB α0 (uC α0 h) + uB α0 (uE α0 h) := hcn.imp id fun z => by
          have := big_eq hP0.2.2.2 hv (by omega) z.1
          rw [if_pos h9] at this
          omega
        refine rI.ix (by first | exact ix | exact ix') ?_
        rw [s1 h hv 3 (by decide) (by decide), b1.1]
        refine (hD (uA α0 h) t0 (p + i) ar β hz P1 F1 b1.2.2 (by rw [s1.d b1.2.2]; omega) e11 hpi (g1.sn hP0.2.2.2 s1 b1.2.2) ?_).bi (fun v γ q => ?_) (fun γ q => ⟨(c0.mo (by decide) (by decide)).tr q.1, s1.tr q.2.1, q.2.2⟩)
        · rw [s1.b b1.2.2]
          rcases hcn with z | z
          · exact Or.inl z
          · exact ebg.imp id fun w => ⟨by omega, by omega⟩
        obtain ⟨r1, t1, rfl, q1, q2, q3, q4, q5, q6, q7, q8, q9, q10⟩ := q
        rw [s1.b b1.2.2] at q2
        have s2 : sN (vd W s t0) α0 γ := s1.tr q7
        have c2 : mch [10, 11] mpR α0 γ := c0.tr q4
        refine rI.ix (by first | exact ix | exact ix') ?_
        rw [s2 h hv 4 (by decide) (by decide), b2.1]
        refine (hD (uC α0 h) t1 (p + i) ar γ (by omega) q3 (hS.1 _ _ c2 hF0) (b2.2.2.up q1) (by rw [s2.d b2.2.2]; omega) (q5.trans e11) hpi (g2.sn hP0.2.2.2 s2 b2.2.2) ?_).bi (fun v δ u => ?_) (fun δ u => ⟨(c2.mo (by decide) (by decide)).tr u.1, s2.tr (u.2.1.su fun j hj => hj.up q1), u.2.2⟩)
        · rw [s2.b b2.2.2]
          rcases hcn with z | z
          · exact Or.inl z
          · rcases ebg with w | w
            · exact Or.inl w
            · exact q2.imp id fun y => ⟨by omega, by omega⟩
        obtain ⟨r2, t2, rfl, u1, u2, u3, u4, u5, u6, u7, u8, u9, u10⟩ := u
        rw [s2.b b2.2.2] at u2
        have s3 : sN (vd W s t0) α0 δ := s2.tr (u7.su fun j hj => hj.up q1)
        have c3 : mch [10, 11] mpR α0 δ := c2.tr u4
        refine rI.ix (by first | exact ix | exact ix') ?_
        rw [s3 h hv 5 (by decide) (by decide), b3.1]
        refine (hD (uE α0 h) t2 (p + i) (ar + 1) δ (by omega) u3 (hS.1 _ _ c3 hF0) ((b3.2.2.up q1).up u1) (by rw [s3.d b3.2.2]; omega) ((u5.trans q5).trans e11) hpi (g3.sn hP0.2.2.2 s3 b3.2.2) ?_).bi (fun v ε w => ?_) (fun ε w => ⟨(c3.mo (by decide) (by decide)).tr w.1, s3.tr (w.2.1.su fun j hj => (hj.up q1).up u1), w.2.2⟩)
        · rw [s3.b b3.2.2]
          rcases hcn with z | z
          · exact Or.inl z
          · rcases ebg with w | w
            · exact Or.inl w
            · rcases q2 with y | y
              · exact Or.inl y
              · exact u2.imp id fun y' => ⟨by omega, by omega⟩
        obtain ⟨r3, t3, rfl, w1, w2, w3, w4, w5, w6, w7, w8, w9, w10⟩ := w
        rw [s3.b b3.2.2] at w2
        have s4 : sN (vd W s t0) α0 ε := s3.tr (w7.su fun j hj => (hj.up q1).up u1)
        have c4 : mch [10, 11] mpR α0 ε := c3.tr w4
        have hb3 : lim = 400000 ∨ t3 + 1 ≤ t0 + uB α0 h := by
          rcases q2 with y | y
          · exact Or.inl y
          · rcases u2 with y' | y'
            · exact Or.inl y'
            · rcases w2 with y2 | y2
              · exact Or.inl y2
              · exact ebg.imp id fun w => by omega
        have ht3 : t3 < 400000 → t3 < lim := fun z => by
          rcases hb3 with y | y
          · omega
          · rcases hcn with y' | y'
            · omega
            · omega
        have ht3f : 400000 ≤ t3 → 400000 ≤ lim := fun z => by
          rcases hb3 with y | y
          · omega
          · rcases hcn with y' | y'
            · omega
            · omega
        refine (node_w' (k := 9) (c := nI r3) w3 hf ht3 (by omega) (fun _ => ⟨r1, r2, rfl, rfl, ⟨(q8.up u1).up w1, by omega⟩, ⟨u8.up w1, by omega⟩, fun _ => ⟨r3, rfl, w8, w9⟩⟩) (fun z => by omega) (fun z => by omega) (fun z => by omega)).bi (fun v ζ x => ?_) (fun ζ x => ⟨(c4.mo (by decide) (by decide)).tr (x.1.mo (by decide) (by decide)), s4.tr (sN.ch x.1 (fun r _ _ z => by cases z)), ht3f (w3.full x.2)⟩)
        obtain ⟨rfl, x1, x2, x3, x4, x5, x6, x7, x8⟩ := x
        have s5 : sN (vd W s t0) α0 ζ := s4.tr (x4.su fun j hj => ((hj.up q1).up u1).up w1)
        have hn2 := w3.2.2.1
        refine U t3 (t3 + 1) ζ x2 (by omega) (c4.tr (x3.mo (by decide) (by decide))) s5 ?_ (fun j hj => ?_) (Or.inr ⟨by have := w3.2.1; omega, by omega⟩) (by omega) ?_ hb3
        · exact (x3.int (by decide)).trans (((w5.trans u5).trans q5).trans e11)
        · rw [x3.arr (by decide), w6 j hj, u6 j hj, q6 j hj]
        · refine Rs.nd (by rw [s5.k hv]; omega) (by rw [x5, s5.k hv, h9]) ?_ ?_ (fun _ => ?_)
          · rw [s5.a hv, show uA ζ t3 = r1 by unfold uA; rw [x6, nI_clamp (by omega)]]
            have sg : sN (vd W s t1) γ ζ := u7.tr ((w7.su fun j hj => hj.up u1).tr (x4.su fun j hj => (hj.up u1).up w1))
            exact q10.sn q3.2.2.2 sg (fun t r ht hr => hS.2 γ ζ t1 t r q3 sg ht hr) (b1.2.2.up q1) q8
          · rw [s5.c hv, show uC ζ t3 = r2 by unfold uC; rw [x7, nI_clamp (by omega)]]
            have sg : sN (vd W s t2) δ ζ := w7.tr (x4.su fun j hj => hj.up w1)
            exact u10.sn u3.2.2.2 sg (fun t r ht hr => hS.2 δ ζ t2 t r u3 sg ht hr) ((b2.2.2.up q1).up u1) u8
          · rw [s5.e hv, show uE ζ t3 = r3 by unfold uE; rw [x8, nI_clamp (by omega)]]
            exact w10.sn w3.2.2.2 x4 (fun t r ht hr => hS.2 ε ζ t3 t r w3 x4 ht hr) (((b3.2.2.up q1).up u1).up w1) w8
      · have m6 : uK α0 h ≠ 6 := fun y => n6 ((hk 6 (by omega)).mpr y)
        have m7 : uK α0 h ≠ 7 := fun y => n7 ((hk 7 (by omega)).mpr y)
        have m9 : uK α0 h ≠ 9 := fun y => n9 ((hk 9 (by omega)).mpr y)
        omega
/-- map ends, with a TERM of the same form -/
theorem map_ok (hN : 400000 < N) (hL : LH N W s lim Lc Lr tz Fx Rl) (hS : LSt W s Lc Lr Fx Rl) (hf : wfr W s lim) : ∀ d, MapD W s lim Lc Lr tz Fx Rl d (G_map N d)
  | 0 => fun t t0 p ar α _ hP _ hv hd _ _ _ _ => by
    have := (hP.nw hv).2.2.2.1.2.1
    omega
  | d + 1 => fun t t0 p ar α hz hP hF hv hd hp hp8 hq hc => by
    show rI (f_Mod_map N (G_map N d) (nI t) ar α) _ _
    unfold f_Mod_map
    rw [hp]
    exact desc hz hN hL (map_ok hN hL hS hf d) hS hf hP hF hp t 0 N α (by have := (hP.nw hv).1; omega) rfl hv hd hq (by omega) (fun j hj => by omega) mch.rf hp (fun j hj => by omega) (fun _ _ => rfl) hc
end DESC
