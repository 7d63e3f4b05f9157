-- what the leaves become
theorem full_l {t0 lim : Nat} (h : 400000 ≤ t0) (hl : lim = 400000 ∨ t0 + 1 ≤ lim) : 400000 ≤ lim := by omega
section LEAF
variable {N : Nat} {W : Nat → Prop} {s lim Lc : Nat} {Lr : Nat → Prop} {t0 h tz : Nat} {α : mS} {ar : Int32}
/-- a leaf's answer -/
def LQ (W : Nat → Prop) (s Lc : Nat) (Lr : Nat → Prop) (Rl : mS → Nat → Nat → Prop) (t0 h : Nat) (α : mS) (v : Int32) (β : mS) : Prop := ∃ r t1, v = nI r ∧ t0 ≤ t1 ∧ t1 ≤ t0 + 1 ∧ PO W s Lc Lr t1 β ∧ mch [10] [2, 3, 4, 5, 6, 7] α β ∧ sN (vd W s t0) α β ∧ vd W s t1 r ∧ r < t1 ∧ Rl β h r
theorem lf_node {k : Nat} {a b c : Int32} {Rl : mS → Nat → Nat → Prop} (hP : PO W s Lc Lr t0 α) (hf : wfr W s lim) (hl : lim = 400000 ∨ t0 + 1 ≤ lim) (hk : k < 6) (h1 : k = 1 → ∃ j, a = nI j ∧ j < Lc ∧ j < 2 ^ 31) (h2 : k = 2 → ∃ j, a = nI j ∧ Lr j ∧ j < 2 ^ 31) (h5 : k = 5 → ∃ j, a = nI j ∧ j < 2 ^ 31) (hR : ∀ β, PO W s Lc Lr (t0 + 1) β → sN (vd W s t0) α β → uK β t0 = k → β.2 3 t0 = a → β.2 4 t0 = b → Rl β h t0) : rI (mBi (f_Mod_node N (nI k) a b c α) fun v β => some (some (some v), β)) (LQ W s Lc Lr Rl t0 h α) (fun β => mch [100, 101] [] α β ∧ 400000 ≤ lim) := by
  have hl' : t0 < 400000 → t0 < lim := fun z => hl.elim (fun y => by rw [y]; exact z) (fun y => y)
  refine ((node_w' (k := k) (c := c) hP hf hl' (Nat.le_trans (Nat.le_of_lt hk) (by decide)) (fun z => absurd z (Nat.not_le.mpr hk)) h1 h2 h5).mono (fun v β q => ?_) (fun _ q => ⟨q.1, full_l (hP.full q.2) hl⟩)).end
  obtain ⟨rfl, q1, q2, q3, q4, q5, q6, q7, -⟩ := q
  exact ⟨t0, t0 + 1, rfl, by omega, by omega, q2, q3, q4, Or.inr ⟨hP.2.1, by omega⟩, by omega, hR β q2 q4 q5 q6 q7⟩
theorem lf_same {Rl : mS → Nat → Nat → Prop} (hP : PO W s Lc Lr t0 α) (hWs : ∀ i, W i → i < s) (hv : vd W s t0 h) (hR : Rl α h h) : rI (some (some (some (nI h)), α)) (LQ W s Lc Lr Rl t0 h α) (fun β => mch [100, 101] [] α β ∧ 400000 ≤ lim) :=
  rI.ret ⟨h, t0, rfl, Nat.le_refl _, by omega, hP, mch.rf, sN.rf, hv, hv.elim (fun z => Nat.lt_of_lt_of_le (hWs h z) hP.2.1) (fun z => z.2), hR⟩
/-- the mode and its numbers -/
def Fm (m : Nat) (what to : Int32) (α : mS) : Prop := α.1 12 = nI m ∧ α.1 13 = what ∧ α.1 14 = to
theorem Fm.ch {m : Nat} {what to : Int32} {α β : mS} (hc : mch [10, 11] mpR α β) (h : Fm m what to α) : Fm m what to β := ⟨(hc.int (by decide)).trans h.1, (hc.int (by decide)).trans h.2.1, (hc.int (by decide)).trans h.2.2⟩
section MODES
variable {what to : Int32}
-- PUT
def RPut (v : Nat) (β : mS) (h r : Nat) : Prop := r = h ∨ uK β h = 4 ∧ r = v
theorem LH_put {v : Nat} (hWs : ∀ i, W i → i < s) (hvv : vd W s tz v) : LH N W s 400000 Lc Lr tz (Fm 1 what (nI v)) (RPut v) := by
  intro α t0 h ar hz hP hF hv hk hl
  obtain ⟨f1, f2, f3⟩ := hF
  have hW := hP.2.2.2
  have f5 := hvv.up hz
  have ix := hW.ix hv
  unfold f_Mod_leaf
  rw [f1, f3, hW.cl hv]
  refine rI.ite (fun z => absurd z (by decide)) fun _ => rI.ite (fun _ => ?_) fun z => absurd rfl z
  refine rI.ix ix (rI.ite (fun h4 => rI.ix ix (rI.ite (fun _ => ?_) fun _ => lf_same hP hWs hv (Or.inl rfl))) fun _ => lf_same hP hWs hv (Or.inl rfl))
  have h4 : uK α h = 4 := (hW.is hv (m := 4) (by decide)).mp h4
  exact rI.ret ⟨v, t0, rfl, Nat.le_refl _, by omega, hP, mch.rf, sN.rf, f5, f5.elim (fun z => Nat.lt_of_lt_of_le (hWs v z) hP.2.1) (fun z => z.2), Or.inr ⟨h4, rfl⟩⟩
-- BACK
def RBack (x : Int32) (β : mS) (h r : Nat) : Prop := (r = h ∧ ¬ (uK β h = 3 ∧ β.2 3 h = x)) ∨ uK β r = 4
theorem LH_back (hf : wfr W s 400000) (hWs : ∀ i, W i → i < s) : LH N W s 400000 Lc Lr tz (Fm 2 what to) (RBack what) := by
  intro α t0 h ar hz hP hF hv hk hl
  obtain ⟨f1, f2, f3⟩ := hF
  have hW := hP.2.2.2
  have ix := hW.ix hv
  unfold f_Mod_leaf
  rw [f1, f2, hW.cl hv]
  refine rI.ite (fun z => absurd z (by decide)) fun _ => rI.ite (fun z => absurd z (by decide)) fun _ => rI.ite (fun _ => ?_) fun z => absurd rfl z
  refine rI.ix ix (rI.ite (fun h3 => rI.ix ix (rI.ite (fun _ => ?_) fun n => lf_same hP hWs hv (Or.inl ⟨rfl, fun z => n z.2⟩))) fun n => lf_same hP hWs hv (Or.inl ⟨rfl, fun z => n ((hW.is hv (m := 3) (by decide)).mpr z.1)⟩))
  exact lf_node (k := 4) hP hf hl (by decide) (fun z => absurd z (by decide)) (fun z => absurd z (by decide)) (fun z => absurd z (by decide)) (fun β _ _ q _ _ => Or.inr q)
-- UNDER
def RUnd (f t : Nat) (L : Nat → Int32) (β : mS) (h r : Nat) : Prop := (r = h ∧ (uK β h = 3 → ∀ j, f ≤ j → j < t → L j ≠ β.2 3 h)) ∨ uK β r = 4
theorem und_go {f t : Nat} {L : Nat → Int32} (hf : wfr W s 400000) (hWs : ∀ i, W i → i < s) (hP : PO W s Lc Lr t0 α) (hv : vd W s t0 h) (e13 : α.1 13 = nI f) (eL : α.2 41 = L) (ht : t ≤ 9000) : ∀ (m nn : Nat), m < nn → f + m ≤ t → (∀ j, f + m ≤ j → j < t → L j ≠ α.2 3 h) → rI (f_Mod_leaf_185 N nn (nI (f + m) + (-1)) (nI h) ar α) (LQ W s Lc Lr (RUnd f t L) t0 h α) (fun β => mch [100, 101] [] α β ∧ 400000 ≤ 400000)
  | 0, nn, hn, hm, hj => by
    obtain ⟨nn, rfl⟩ : ∃ n', nn = n' + 1 := ⟨nn - 1, by omega⟩
    have : nI (f + 0) + (-1) < nI f := by
      cases f with
      | zero => decide
      | succ f => rw [show nI (f + 1 + 0) + (-1) = nI f from nI_m1 f]; exact nI_lt (by omega) (by omega)
    rw [f_Mod_leaf_185, e13, if_pos this]
    exact lf_same hP hWs hv (Or.inl ⟨rfl, fun _ j a b => hj j (by omega) b⟩)
  | m + 1, nn, hn, hm, hj => by
    obtain ⟨nn, rfl⟩ : ∃ n', nn = n' + 1 := ⟨nn - 1, by omega⟩
    have hW := hP.2.2.2
    rw [f_Mod_leaf_185, show nI (f + (m + 1)) + (-1) = nI (f + m) from nI_m1 (f + m), e13, if_neg (nI_nlt (by omega) (by omega)), hW.cl hv]
    refine rI.ix (mix (by omega) (by omega)) (rI.ix (hW.ix hv) ?_)
    rw [nI_clamp (by omega), eL]
    refine rI.ite (fun _ => ?_) (fun n => ?_)
    · exact lf_node (k := 4) hP hf (Or.inl rfl) (by decide) (fun z => absurd z (by decide)) (fun z => absurd z (by decide)) (fun z => absurd z (by decide)) (fun β _ _ q _ _ => Or.inr q)
    · refine und_go hf hWs hP hv e13 eL ht m nn (by omega) (by omega) (fun j a b => ?_)
      rcases Nat.lt_or_ge j (f + (m + 1)) with z | z
      · have : j = f + m := by omega
        rw [this]
        exact n
      · exact hj j z b
theorem LH_und {f t : Nat} {L : Nat → Int32} (hN : 9000 < N) (hf : wfr W s 400000) (hWs : ∀ i, W i → i < s) (hft : f ≤ t) (ht : t ≤ 9000) : LH N W s 400000 Lc Lr tz (fun α => Fm 3 (nI f) (nI t) α ∧ α.2 41 = L) (RUnd f t L) := by
  intro α t0 h ar hz hP hF hv hk hl
  obtain ⟨⟨f1, f2, f3⟩, eL⟩ := hF
  have hW := hP.2.2.2
  have ix := hW.ix hv
  unfold f_Mod_leaf
  rw [f1, f3, hW.cl hv]
  refine rI.ite (fun z => absurd z (by decide)) fun _ => rI.ite (fun z => absurd z (by decide)) fun _ => rI.ite (fun z => absurd z (by decide)) fun _ => rI.ite (fun _ => ?_) fun z => absurd rfl z
  refine rI.ix ix (rI.ite (fun _ => ?_) fun n => lf_same hP hWs hv (Or.inl ⟨rfl, fun z => absurd ((hW.is hv (m := 3) (by decide)).mpr z) n⟩))
  have := und_go (N := N) (ar := ar) hf hWs hP hv f2 eL ht (t - f) N (by omega) (by omega) (fun j a b => by omega)
  rw [show f + (t - f) = t by omega, ← Int32.sub_eq_add_neg] at this
  exact this
-- LEVELED
def RLev (β : mS) (h r : Nat) : Prop := r = h ∨ uK β r = 0 ∨ uK β r = 2
theorem LH_lev (hf : wfr W s lim) (hWs : ∀ i, W i → i < s) : LH N W s lim Lc Lr tz (Fm 4 what to) RLev := by
  intro α t0 h ar hz hP hF hv hk hl
  obtain ⟨f1, f2, f3⟩ := hF
  have hW := hP.2.2.2
  have ix := hW.ix hv
  have j264 : rI (f_Mod_leaf_j264 N (nI h) α) (LQ W s Lc Lr RLev t0 h α) (fun β => mch [100, 101] [] α β ∧ 400000 ≤ lim) := by
    unfold f_Mod_leaf_j264
    rw [hW.cl hv]
    refine rI.ix ix (rI.ite (fun h2 => rI.ix ix (rI.ite (fun _ => rI.ix ix ?_) fun _ => lf_same hP hWs hv (Or.inl rfl))) fun _ => lf_same hP hWs hv (Or.inl rfl))
    have h2 : uK α h = 2 := (hW.is hv (m := 2) (by decide)).mp h2
    obtain ⟨-, -, -, -, -, -, -, a8, -⟩ := hW h hv
    obtain ⟨a8, a9⟩ := a8 h2
    have : uA α h < 2 ^ 31 := Int32.toNatClampNeg_lt _
    exact lf_node (k := 2) hP hf hl (by decide) (fun z => absurd z (by decide)) (fun _ => ⟨_, a8, a9, this⟩) (fun z => absurd z (by decide)) (fun β _ _ q _ _ => Or.inr (Or.inr q))
  unfold f_Mod_leaf
  rw [f1, hW.cl hv]
  refine rI.ite (fun z => absurd z (by decide)) fun _ => rI.ite (fun z => absurd z (by decide)) fun _ => rI.ite (fun z => absurd z (by decide)) fun _ => rI.ite (fun z => absurd z (by decide)) fun _ => rI.ite (fun _ => ?_) fun z => absurd rfl z
  refine rI.ix ix (rI.ite (fun _ => rI.ix ix (rI.ite (fun _ => ?_) fun _ => j264)) fun _ => j264)
  unfold f_Mod_sort
  exact (lf_node (k := 0) hP hf hl (by decide) (fun z => absurd z (by decide)) (fun z => absurd z (by decide)) (fun z => absurd z (by decide)) (fun β _ _ q _ _ => Or.inr (Or.inl q))).end
-- WHOLE
def RWh (f : Nat) (A : Nat → Int32) (β : mS) (h r : Nat) : Prop := (r = h ∧ uK β h ≠ 5) ∨ uK β r = 4 ∨ (uK β h = 5 ∧ uA β h < f ∧ uK β r = 3 ∧ β.2 3 r = A (uA β h))
theorem LH_whole {f : Nat} {A : Nat → Int32} (hf : wfr W s 400000) (hWs : ∀ i, W i → i < s) (hf5 : f ≤ 5000) : LH N W s 400000 Lc Lr tz (fun α => Fm 0 what (nI f) α ∧ α.2 33 = A) (RWh f A) := by
  intro α t0 h ar hz hP hF hv hk hl
  obtain ⟨⟨f1, f2, f3⟩, eA⟩ := hF
  have hW := hP.2.2.2
  have ix := hW.ix hv
  unfold f_Mod_leaf
  rw [f1, f3, hW.cl hv]
  refine rI.ite (fun _ => ?_) fun z => absurd rfl z
  refine rI.ix ix (rI.ite (fun h5 => rI.ix ix ?_) fun n => lf_same hP hWs hv (Or.inl ⟨rfl, fun z => n ((hW.is hv (m := 5) (by decide)).mpr z)⟩))
  have h5 : uK α h = 5 := (hW.is hv (m := 5) (by decide)).mp h5
  obtain ⟨-, -, -, -, -, -, -, -, a9⟩ := hW h hv
  have a9 := a9 h5
  have lt : uA α h < 2 ^ 31 := Int32.toNatClampNeg_lt _
  refine rI.ite (fun _ => rI.ix ix ?_) (fun z => rI.ix ix ?_)
  · exact lf_node (k := 4) hP hf hl (by decide) (fun z => absurd z (by decide)) (fun z => absurd z (by decide)) (fun z => absurd z (by decide)) (fun β _ _ q _ _ => Or.inr (Or.inl q))
  · rw [a9] at z ⊢
    have hlt : uA α h < f := Nat.not_le.mp fun y => z (nI_le y lt)
    rw [nI_clamp lt, eA]
    refine rI.ix (mix' (n := 5000) (by omega) (by decide)) ?_
    unfold f_Mod_free
    exact (lf_node (k := 3) hP hf hl (by decide) (fun z => absurd z (by decide)) (fun z => absurd z (by decide)) (fun z => absurd z (by decide)) (fun β _ q0 q q' _ => Or.inr (Or.inr ⟨by rw [q0.k hv]; exact h5, by rw [q0.a hv]; exact hlt, q, by rw [q', q0.a hv]⟩))).end
-- COPY
def RCp (β : mS) (h r : Nat) : Prop := uK β r = uK β h ∧ β.2 3 r = β.2 3 h
theorem LH_copy (hf : wfr W s lim) : LH N W s lim Lc Lr tz (Fm 5 what to) RCp := by
  intro α t0 h ar hz hP hF hv hk hl
  obtain ⟨f1, f2, f3⟩ := hF
  have hW := hP.2.2.2
  have ix := hW.ix hv
  obtain ⟨-, -, -, -, -, -, a7, a8, a9⟩ := hW h hv
  have lt : uA α h < 2 ^ 31 := Int32.toNatClampNeg_lt _
  unfold f_Mod_leaf
  rw [f1, hW.cl hv]
  refine rI.ite (fun z => absurd z (by decide)) fun _ => rI.ite (fun z => absurd z (by decide)) fun _ => rI.ite (fun z => absurd z (by decide)) fun _ => rI.ite (fun z => absurd z (by decide)) fun _ => rI.ite (fun z => absurd z (by decide)) fun _ => ?_
  refine rI.ix ix (rI.ix ix (rI.ix ix (rI.ix ix ?_)))
  rw [hW.kd hv]
  exact lf_node (k := uK α h) hP hf hl hk (fun z => ⟨_, (a7 z).1, (a7 z).2, lt⟩) (fun z => ⟨_, (a8 z).1, (a8 z).2, lt⟩) (fun z => ⟨_, a9 z, lt⟩) (fun β _ q0 q q' _ => ⟨by rw [q, q0.k hv], by rw [q', q0 h hv 3 (by decide) (by decide)]⟩)
end MODES
end LEAF
