-- mapped, in each mode
abbrev mI5 : List Nat := [10, 11, 12, 13, 14]
abbrev mI7 : List Nat := [10, 11, 12, 13, 14, 100, 101]
section MAPPED
variable {N : Nat} {W : Nat → Prop} {s lim Lc : Nat} {Lr : Nat → Prop} {t0 t : Nat} {Fx : mS → Prop} {Rl : mS → Nat → Nat → Prop} {α : mS}
def QM (W : Nat → Prop) (s lim Lc : Nat) (Lr : Nat → Prop) (Rl : mS → Nat → Nat → Prop) (t0 t : Nat) (α : mS) (x : Int32) (β : mS) : Prop := ∃ r t1, x = nI r ∧ t0 ≤ t1 ∧ (lim = 400000 ∨ t1 ≤ t0 + uB α t) ∧ PO W s Lc Lr t1 β ∧ mch mI5 mpR α β ∧ sN (vd W s t0) α β ∧ vd W s t1 r ∧ r < t1 ∧ Rs Rl β t r
def XM (W : Nat → Prop) (s t0 : Nat) (α β : mS) : Prop := mch mI7 mpR α β ∧ sN (vd W s t0) α β
theorem mapped_n {how : Nat} {ar what to : Int32} (hN : 400000 < N) (hf : wfr W s lim) (hL : LH N W s lim Lc Lr t0 Fx Rl) (hS : LSt W s Lc Lr Fx Rl) (hF : ∀ β, Fm how what to β → mch mI5 [] α β → Fx β) (hP : PO W s Lc Lr t0 α) (ht : vd W s t0 t) (hd : uD α t ≤ 800) (hq : SP α 8000 t) (hc : lim = 400000 ∨ uB α t < 1000000 ∧ t0 + uB α t ≤ lim) : rI (f_Mod_mapped N (nI how) (nI t) ar what to α) (QM W s lim Lc Lr Rl t0 t α) (fun β => XM W s t0 α β ∧ 400000 ≤ lim) := by
  unfold f_Mod_mapped
  obtain ⟨β, eβ⟩ : ∃ β, β = mSi (mSi (mSi (mSi α 12 (nI how)) 13 what) 14 to) 11 0 := ⟨_, rfl⟩
  rw [← eβ]
  have c5 : mch [11, 12, 13, 14] [] α β := by rw [eβ]; exact (((mch.si (by decide)).tr (mch.si (by decide))).tr (mch.si (by decide))).tr (mch.si (by decide))
  have s1 : sN (vd W s t0) α β := sN.ch c5 (fun r _ _ z => by cases z)
  have P1 : PO W s Lc Lr t0 β := hP.sn c5 (by decide) s1
  have F1 : Fx β := hF β (by rw [eβ]; exact ⟨rfl, rfl, rfl⟩) (c5.mo (by decide) (by decide))
  have c0 : mch mI5 mpR α β := c5.mo (by decide) (fun r z => by cases z)
  refine ((map_ok hN hL hS hf dp_map t t0 0 ar β (Nat.le_refl _) P1 F1 ht (by rw [s1.d ht]; exact hd) (by rw [eβ]; rfl) (by decide) (hq.sn hP.2.2.2 s1 ht) (by rw [s1.b ht]; exact hc)).mono (fun v γ q => ?_) (fun γ q => ⟨⟨(c0.mo (by decide) (by decide)).tr (q.1.mo (by decide) (by decide)), s1.tr q.2.1⟩, q.2.2⟩)).end
  obtain ⟨r, t1, q1, q2, q3, q4, q5, -, -, q6, q7, q8, q9⟩ := q
  rw [s1.b ht] at q3
  exact ⟨r, t1, q1, q2, q3, q4, c0.tr (q5.mo (by decide) (by decide)), s1.tr q6, q7, q8, q9⟩
theorem mapped_ok {how : Nat} {ar what to : Int32} (hN : 400000 < N) (hf : wfr W s lim) (hL : LH N W s lim Lc Lr t0 Fx Rl) (hS : LSt W s Lc Lr Fx Rl) (hF : ∀ β, Fm how what to β → mch mI5 [] α β → Fx β) (hP : PO W s Lc Lr t0 α) (ht : vd W s t0 t) (hd : uD α t ≤ 800) (hq : SP α 8000 t) (hc : lim = 400000 ∨ uB α t < 1000000 ∧ t0 + uB α t ≤ lim) : rI (f_Mod_mapped N (nI how) (nI t) ar what to α) (QM W s lim Lc Lr Rl t0 t α) (XM W s t0 α) := (mapped_n hN hf hL hS hF hP ht hd hq hc).mono (fun _ _ q => q) (fun _ q => q.1)
/-- the normal place: new nodes behind the old ones -/
def nrm (W : Nat → Prop) (s : Nat) : Prop := ∀ i, W i → i < s
theorem nrm.f (h : nrm W s) : wfr W s 400000 := fun m hm _ z => by have := h m z; omega
theorem nrm.lt (h : nrm W s) (hP : PO W s Lc Lr t0 α) {i : Nat} (hi : vd W s t0 i) : i < t0 := hi.elim (fun z => Nat.lt_of_lt_of_le (h i z) hP.2.1) (fun z => z.2)
theorem put_ok {v : Nat} (hN : 400000 < N) (hn : nrm W s) (hP : PO W s Lc Lr t0 α) (ht : vd W s t0 t) (hv : vd W s t0 v) (hd : uD α t ≤ 800) (hq : SP α 8000 t) : rI (f_Mod_put N (nI t) (nI v) α) (QM W s 400000 Lc Lr (RPut v) t0 t α) (XM W s t0 α) := by
  unfold f_Mod_put
  refine (mapped_ok (how := 1) (Fx := Fm 1 0 (nI v)) hN hn.f (LH_put hn hv) ⟨fun _ _ => Fm.ch, fun α β t1 t r hP hs ht hr h => h.imp id fun q => ⟨by rw [hs.k ht]; exact q.1, q.2⟩⟩ (fun _ q _ => q) hP ht hd hq (Or.inl rfl)).end
theorem back_ok {v : Int32} (hN : 400000 < N) (hn : nrm W s) (hP : PO W s Lc Lr t0 α) (ht : vd W s t0 t) (hd : uD α t ≤ 800) (hq : SP α 8000 t) : rI (f_Mod_back N (nI t) v α) (QM W s 400000 Lc Lr (RBack v) t0 t α) (XM W s t0 α) := by
  unfold f_Mod_back
  refine (mapped_ok (how := 2) (Fx := Fm 2 v 0) hN hn.f (LH_back hn.f hn) ⟨fun _ _ => Fm.ch, fun α β t1 t r hP hs ht hr h => ?_⟩ (fun _ q _ => q) hP ht hd hq (Or.inl rfl)).end
  rcases h with ⟨rfl, h⟩ | h
  · exact Or.inl ⟨rfl, by rw [hs.k ht, hs _ ht 3 (by decide) (by decide)]; exact h⟩
  · exact Or.inr (by rw [hs.k hr]; exact h)
theorem under_ok {f tt : Nat} (hN : 400000 < N) (hn : nrm W s) (hft : f ≤ tt) (ht9 : tt ≤ 9000) (hP : PO W s Lc Lr t0 α) (ht : vd W s t0 t) (hd : uD α t ≤ 800) (hq : SP α 8000 t) : rI (f_Mod_under N (nI t) (nI f) (nI tt) α) (QM W s 400000 Lc Lr (RUnd f tt (α.2 41)) t0 t α) (XM W s t0 α) := by
  unfold f_Mod_under
  refine (mapped_ok (how := 3) (Fx := fun β => Fm 3 (nI f) (nI tt) β ∧ β.2 41 = α.2 41) hN hn.f (LH_und (by omega) hn.f hn hft ht9) ⟨fun _ _ hc q => ⟨q.1.ch hc, (hc.arr (by decide)).trans q.2⟩, fun α' β t1 t r hP hs ht hr h => ?_⟩ (fun _ q hc => ⟨q, hc.arr (by decide)⟩) hP ht hd hq (Or.inl rfl)).end
  rcases h with ⟨rfl, h⟩ | h
  · exact Or.inl ⟨rfl, by rw [hs.k ht, hs _ ht 3 (by decide) (by decide)]; exact h⟩
  · exact Or.inr (by rw [hs.k hr]; exact h)
theorem leveled_ok {v : Int32} (hN : 400000 < N) (hn : nrm W s) (hP : PO W s Lc Lr t0 α) (ht : vd W s t0 t) (hd : uD α t ≤ 800) (hq : SP α 8000 t) : rI (f_Mod_leveled N (nI t) v α) (QM W s 400000 Lc Lr RLev t0 t α) (XM W s t0 α) := by
  unfold f_Mod_leveled
  refine (mapped_ok (how := 4) (Fx := Fm 4 0 v) hN hn.f (LH_lev hn.f hn) ⟨fun _ _ => Fm.ch, fun α β t1 t r hP hs ht hr h => ?_⟩ (fun _ q _ => q) hP ht hd hq (Or.inl rfl)).end
  exact h.imp id fun q => by rw [hs.k hr]; exact q
/-- leveled, with room enough, fails never -/
theorem leveled_n {v : Int32} (hN : 400000 < N) (hl : lim < 400000) (hn : nrm W s) (hP : PO W s Lc Lr t0 α) (ht : vd W s t0 t) (hd : uD α t ≤ 800) (hq : SP α 8000 t) (hc : uB α t < 1000000 ∧ t0 + uB α t ≤ lim) : rI (f_Mod_leveled N (nI t) v α) (QM W s lim Lc Lr RLev t0 t α) (fun _ => False) := by
  have hf : wfr W s lim := fun m hm _ z => by have := hn m z; omega
  unfold f_Mod_leveled
  refine (((mapped_n (how := 4) (Fx := Fm 4 0 v) hN hf (LH_lev hf hn) ⟨fun _ _ => Fm.ch, fun α β t1 t r hP hs ht hr h => ?_⟩ (fun _ q _ => q) hP ht hd hq (Or.inr hc)).mono (fun _ _ q => q) (fun _ q => by omega))).end
  exact h.imp id fun q => by rw [hs.k hr]; exact q
theorem whole_ok {f : Nat} {ar : Int32} (hN : 400000 < N) (hn : nrm W s) (hf5 : f ≤ 5000) (hP : PO W s Lc Lr t0 α) (ht : vd W s t0 t) (hd : uD α t ≤ 800) (hq : SP α 8000 t) : rI (f_Mod_whole N (nI t) ar (nI f) α) (QM W s 400000 Lc Lr (RWh f (α.2 33)) t0 t α) (XM W s t0 α) := by
  unfold f_Mod_whole
  refine (mapped_ok (how := 0) (Fx := fun β => Fm 0 0 (nI f) β ∧ β.2 33 = α.2 33) hN hn.f (LH_whole hn.f hn hf5) ⟨fun _ _ hc q => ⟨q.1.ch hc, (hc.arr (by decide)).trans q.2⟩, fun α' β t1 t r hP hs ht hr h => ?_⟩ (fun _ q hc => ⟨q, hc.arr (by decide)⟩) hP ht hd hq (Or.inl rfl)).end
  rcases h with ⟨rfl, h⟩ | h | ⟨h1, h2, h3, h4⟩
  · exact Or.inl ⟨rfl, by rw [hs.k ht]; exact h⟩
  · exact Or.inr (Or.inl (by rw [hs.k hr]; exact h))
  · exact Or.inr (Or.inr ⟨by rw [hs.k ht]; exact h1, by rw [hs.a ht]; exact h2, by rw [hs.k hr]; exact h3, by rw [hs _ hr 3 (by decide) (by decide), hs.a ht]; exact h4⟩)
theorem copy_ok (hN : 400000 < N) (hf : wfr W s lim) (hP : PO W s Lc Lr t0 α) (ht : vd W s t0 t) (hd : uD α t ≤ 800) (hq : SP α 8000 t) (hc : uB α t < 1000000 ∧ t0 + uB α t ≤ lim) : rI (f_Mod_mapped N 5 (nI t) 0 0 0 α) (QM W s lim Lc Lr RCp t0 t α) (XM W s t0 α) := by
  refine mapped_ok (how := 5) (Fx := Fm 5 0 0) hN hf (LH_copy hf) ⟨fun _ _ => Fm.ch, fun α β t1 t r hP hs ht hr h => ?_⟩ (fun _ q _ => q) hP ht hd hq (Or.inr hc)
  exact ⟨by rw [hs.k ht, hs.k hr]; exact h.1, by rw [hs _ ht 3 (by decide) (by decide), hs _ hr 3 (by decide) (by decide)]; exact h.2⟩
end MAPPED
