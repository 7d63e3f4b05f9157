-- the tests of a family: what stands
def fk (c0 : Nat) (α β : kS) : Prop := ch [2, 3, 4, 6, 100, 24, 25, 26, 27, 28, 29, 30, 31, 32] [2, 3, 4, 5, 12, 13, 14, 15] α β ∧ (β.2.1 5).length = (α.2.1 5).length ∧ (∀ i, i < 12 * c0 → (β.2.1 5).getD i 0 = (α.2.1 5).getD i 0) ∧ ∀ k w, w = 0 ∨ w = 11 → fc β k w = fc α k w
section FK
variable {c0 : Nat} {α β γ : kS} {I R : List Nat}
theorem fk.rf : fk c0 α α := ⟨ch.rf, rfl, fun _ _ => rfl, fun _ _ _ => rfl⟩
theorem fk.tr (h : fk c0 α β) (h' : fk c0 β γ) : fk c0 α γ := ⟨h.1.tr h'.1, h'.2.1.trans h.2.1, fun i hi => (h'.2.2.1 i hi).trans (h.2.2.1 i hi), fun k w hw => (h'.2.2.2 k w hw).trans (h.2.2.2 k w hw)⟩
theorem fk.of (h : ch I R α β) (hI : ∀ i ∈ I, i ∈ [2, 3, 4, 6, 100, 24, 25, 26, 27, 28, 29, 30, 31, 32]) (hR : ∀ r ∈ R, r ∈ [2, 3, 4, 5, 12, 13, 14, 15]) (h5 : 5 ∉ R) : fk c0 α β := ⟨h.mo hI hR, by rw [h.row (by decide) h5], fun i _ => by rw [h.row (by decide) h5], fun k w _ => by unfold fc; rw [h.row (by decide) h5]⟩
theorem fk.wk (h : wk α β) : fk c0 α β := fk.of h (by decide) (by decide) (by decide)
end FK
theorem get_set {l : List Int32} {i j : Nat} {v : Int32} (hi : i < l.length) : (l.set i v).getD j 0 = if j = i then v else l.getD j 0 := by
  rw [List.getD_eq_getElem?_getD, List.getD_eq_getElem?_getD, List.getElem?_set]
  by_cases h : i = j
  · subst h; simp [hi]
  · simp [h, Ne.symm h]
theorem fix_ok {K c m k w : Nat} {α : kS} {x : Int32} (h : tT K α) (he : eI c K m α) (hk : k < c) (hw : w < 12) (hx : x = nI w) (v : Int32) : ∃ β, f_Env_fix (nI k) x v α = β ∧ tT K β ∧ ch [] [5] α β ∧ sT α β ∧ (β.2.1 5).length = (α.2.1 5).length ∧ (∀ k' w', w' < 12 → fc β k' w' = if k' = k ∧ w' = w then v else fc α k' w') ∧ ∀ i, i < 12 * k → (β.2.1 5).getD i 0 = (α.2.1 5).getD i 0 := by
  subst hx
  have hl : 12 * k + w < (α.2.1 5).length := by rw [he.1]; omega
  refine ⟨kSl α 5 ((α.2.1 5).set (12 * k + w) v), fix_e h hl v, h.sl (by decide) (by rw [List.length_set]; exact Nat.le_refl _), ch.rs (by decide), ⟨rfl, rfl⟩, List.length_set, fun k' w' hw' => ?_, fun i hi => ?_⟩
  · show ((α.2.1 5).set (12 * k + w) v).getD (12 * k' + w') 0 = _
    rw [get_set hl]
    by_cases e : k' = k ∧ w' = w
    · rw [if_pos e, if_pos (by rw [e.1, e.2])]
    · rw [if_neg e, if_neg (fun z => e (by omega))]
      rfl
  · show ((α.2.1 5).set (12 * k + w) v).getD i 0 = _
    rw [get_set hl, if_neg (by omega)]
/-- what may be written as the w-th fact of the k-th CONSTANT while it is tested -/
def fcd (k w : Nat) (v : Int32) : Prop := (w = 3 ∨ w = 4 ∨ w = 5) ∧ (∃ a, v = nI a ∧ a ≤ 4096) ∨ w = 6 ∧ (∃ a, v = nI a ∧ a ≤ 256) ∨ w = 8 ∧ (∃ o, v = nI o ∧ o ≤ k) ∨ w = 7 ∨ w = 9
theorem eF.fix {α β : kS} {m k w : Nat} {kn : Prop} {v : Int32} (hm : m ≤ tn α) (hg : grw α β) (e : ∀ j, j < 12 → j ≠ w → fc β k j = fc α k j) (ev : fc β k w = v) (hc : fcd k w v) (h : eF α m kn k) : eF β m kn k := by
  obtain ⟨a1, ⟨a, b, d, e', f3, f4, f5, f6, ha, hb, hd, he⟩, ⟨o, f8, ho⟩, f10, f2, fk⟩ := h
  have g : ∀ j, j = 11 ∨ j = 10 ∨ j = 2 ∨ j = 1 ∨ j = 0 → fc β k j = fc α k j := fun j hj => e j (by omega) (fun z => by
    subst z
    rcases hc with ⟨z, -⟩ | ⟨z, -⟩ | ⟨z, -⟩ | z | z <;> omega)
  have n345 : ∀ j, j = 3 ∨ j = 4 ∨ j = 5 → (∃ y, fc α k j = nI y ∧ y ≤ 4096) → ∃ y, fc β k j = nI y ∧ y ≤ 4096 := by
    intro j hj ⟨y, y1, y2⟩
    by_cases z : j = w
    · subst z
      rcases hc with ⟨-, x, x1, x2⟩ | ⟨x, -⟩ | ⟨x, -⟩ | x | x
      · exact ⟨x, ev.trans x1, x2⟩
      all_goals omega
    · exact ⟨y, (e j (by omega) z).trans y1, y2⟩
  obtain ⟨a', x3, ha'⟩ := n345 3 (by omega) ⟨a, f3, ha⟩
  obtain ⟨b', x4, hb'⟩ := n345 4 (by omega) ⟨b, f4, hb⟩
  obtain ⟨d', x5, hd'⟩ := n345 5 (by omega) ⟨d, f5, hd⟩
  obtain ⟨e2, x6, he2⟩ : ∃ y, fc β k 6 = nI y ∧ y ≤ 256 := by
    by_cases z : 6 = w
    · subst z
      rcases hc with ⟨x, -⟩ | ⟨-, x, x1, x2⟩ | ⟨x, -⟩ | x | x
      · omega
      · exact ⟨x, ev.trans x1, x2⟩
      all_goals omega
    · exact ⟨e', (e 6 (by omega) z).trans f6, he⟩
  obtain ⟨o', x8, ho'⟩ : ∃ y, fc β k 8 = nI y ∧ y ≤ k := by
    by_cases z : 8 = w
    · subst z
      rcases hc with ⟨x, -⟩ | ⟨x, -⟩ | ⟨-, x, x1, x2⟩ | x | x
      · omega
      · omega
      · exact ⟨x, ev.trans x1, x2⟩
      all_goals omega
    · exact ⟨o, (e 8 (by omega) z).trans f8, ho⟩
  refine ⟨?_, ⟨a', b', d', e2, x3, x4, x5, x6, ha', hb', hd', he2⟩, ⟨o', x8, ho'⟩, ?_, ?_, ?_⟩
  · rw [g 11 (by omega)]; exact a1
  · rw [g 10 (by omega)]; exact f10.imp id (vM.g hm hg)
  · rw [g 2 (by omega)]; exact f2.imp id (vM.g hm hg)
  · rw [g 1 (by omega), g 0 (by omega), g 2 (by omega)]
    exact fun z => ⟨(fk z).1.g hm hg, fun y => ((fk z).2 y).g hm hg⟩
theorem fix_t {K c m k w : Nat} {α : kS} {x v : Int32} {c0 : Nat} (h : tT K α) (he : eI c K m α) (hk : k < c) (hc0 : c0 ≤ k) (hw : w < 12) (hx : x = nI w) (hc : fcd k w v) : ∃ β, f_Env_fix (nI k) x v α = β ∧ tT K β ∧ eI c K m β ∧ fk c0 α β ∧ ch [] [5] α β ∧ sT α β ∧ ∀ k', fc β k' 1 = fc α k' 1 := by
  obtain ⟨β, e, h1, h2, h3, h4, h5, h6⟩ := fix_ok h he hk hw hx v
  have h1w : 1 ≠ w := fun z => by
    subst z
    rcases hc with ⟨z, -⟩ | ⟨z, -⟩ | ⟨z, -⟩ | z | z <;> omega
  refine ⟨β, e, h1, ⟨h4.trans he.1, he.2.1, he.2.2.1, Nat.le_trans he.2.2.2.1 h2.2.2.1, by rw [h2.row (by decide) (by decide)]; exact he.2.2.2.2.1, fun k' hk' => ?_⟩, ⟨h2.mo (by decide) (by decide), h4, fun i hi => h6 i (by omega), fun k' w' hw' => by rw [h5 k' w' (by omega), if_neg (fun z => by have := z.2; rcases hc with ⟨z, -⟩ | ⟨z, -⟩ | ⟨z, -⟩ | z | z <;> omega)]⟩, h2, h3, fun k' => by rw [h5 k' 1 (by decide), if_neg (fun z => h1w z.2)]⟩
  by_cases z : k' = k
  · subst z
    exact (he.2.2.2.2.2 k' hk').fix he.2.2.2.1 h2.2.2 (fun j hj hw' => by rw [h5 k' j hj, if_neg (fun y => hw' y.2)]) (by rw [h5 k' w hw, if_pos ⟨rfl, rfl⟩]) hc
  · exact (he.2.2.2.2.2 k' hk').g he.2.2.2.1 h2.2.2 (fun j hj => by rw [h5 k' j hj, if_neg (fun y => z y.1)])
/-- the family as the parser leaves it: n PARAMETERS, M CONSTRUCTORS -/
def FS (c K m fam n M : Nat) (α : kS) : Prop := K = fam + 1 ∧ c = fam + 1 + M ∧ n ≤ 200 ∧ α.1 19 = nI fam ∧ (α.2.1 11).length = n ∧ (∀ p, p ∈ α.2.1 11 → vM α m p) ∧ vM α m (α.1 21) ∧ ∀ i, i < M → vM α m (fc α (fam + 1 + i) 1)
/-- the TERM of a CONSTRUCTOR -/
def mbt (α : kS) (fam i : Nat) : Nat := (fc α (fam + 1 + i) 1).toNatClampNeg
def FD (fam n M q at' : Nat) (α : kS) : Prop := α.1 25 = nI fam ∧ α.1 26 = nI n ∧ α.1 27 = nI q ∧ q ≤ 200 ∧ α.1 28 = nI M ∧ α.1 31 = nI at' ∧ at' ≤ M ∧ ∀ i, i < at' → GM α (nI fam) (n + q) (mbt α fam i)
/-- a part of a TERM behind some of its PI -/
def pcs (α : kS) : Nat → List Nat → Nat → Prop
  | t, [], s => s = t
  | t, d :: l, s => nK α t = 6 ∧ lfN α t = d ∧ pcs α (rtN α t) l s
/-- the ARGUMENTS of the CONSTRUCTOR at hand: L are tested, rest is to come -/
def AR (fam n q at' yv : Nat) (α : kS) : Prop := ∃ (s : Nat) (L : List Nat) (rt : Nat), α.1 32 = nI rt ∧ qT α rt ∧ pcs α (mbt α fam at') L s ∧ s < tn α ∧ sh α s rt ∧ (α.2.1 15).length = L.length ∧ L.length + nD α rt ≤ 200 ∧ yv = n + L.length ∧ ∀ d, d ∈ L → d < tn α ∧ (hc α (nI fam) d → eN α (n + q) d)
section FAMC
variable {K c m fam n M q at' yv : Nat} {α β : kS} {I R : List Nat}
theorem FS.ch (h : FS c K m fam n M α) (hm : m ≤ tn α) (hc : ch I R α β) (i19 : 19 ∉ I) (i21 : 21 ∉ I) (r11 : 11 ∉ R) (hf : ∀ k, fc β k 1 = fc α k 1) : FS c K m fam n M β := by
  obtain ⟨a1, a2, a3, a4, a5, a6, a7, a8⟩ := h
  have e := hc.row (by decide) r11
  refine ⟨a1, a2, a3, (hc.int i19).trans a4, by rw [e]; exact a5, fun p hp => (a6 p (by rw [← e]; exact hp)).g hm hc.2.2, by rw [hc.int i21]; exact a7.g hm hc.2.2, fun i hi => by rw [hf]; exact (a8 i hi).g hm hc.2.2⟩
theorem FS.bm (h : FS c K m fam n M α) {i : Nat} (hi : i < M) (hm : m ≤ tn α) (hn : tn α < 2 ^ 31) : fc α (fam + 1 + i) 1 = nI (mbt α fam i) ∧ mbt α fam i < m ∧ nK α (mbt α fam i) ≠ 9 := by
  obtain ⟨-, -, -, -, -, -, -, a8⟩ := h
  obtain ⟨j, e, hj, h9⟩ := a8 i hi
  have : mbt α fam i = j := by unfold mbt; rw [e, nI_clamp (by omega)]
  rw [this]
  exact ⟨e, hj, h9⟩
theorem FD.ch (h : FD fam n M q at' α) (hF : FS c K m fam n M α) (hα : tT K α) (hβ : tT K β) (hm : m ≤ tn α) (hc : ch I R α β) (i25 : 25 ∉ I) (i26 : 26 ∉ I) (i27 : 27 ∉ I) (i28 : 28 ∉ I) (i31 : 31 ∉ I) (hf : ∀ k, fc β k 1 = fc α k 1) : FD fam n M q at' β := by
  obtain ⟨a1, a2, a3, a4, a5, a6, a7, a8⟩ := h
  have hn := hα.1.1.n.2.1
  refine ⟨(hc.int i25).trans a1, (hc.int i26).trans a2, (hc.int i27).trans a3, a4, (hc.int i28).trans a5, (hc.int i31).trans a6, a7, fun i hi => ?_⟩
  have e : mbt β fam i = mbt α fam i := by unfold mbt; rw [hf]
  obtain ⟨-, z, -⟩ := hF.bm (i := i) (by omega) hm (by omega)
  rw [e]
  exact (GM_g hα.1.1 hα.2.1 hβ.1.1 hc.2.2 (by omega)).mpr (a8 i hi)
theorem pcs_g (hO : kOk α) (hW : tWf α) (hg : grw α β) : ∀ (l : List Nat) (t s : Nat), t < tn α → pcs α t l s → pcs β t l s
  | [], _, _, _, h => h
  | d :: l, t, s, ht, h => by
    obtain ⟨h6, h1, h2⟩ := h
    obtain ⟨-, -, hl, hr, -⟩ := partsN hO hW ht (by omega)
    exact ⟨by rw [(g_n hg ht).1]; exact h6, by rw [(g_lf hg ht).1]; exact h1, by rw [(g_lf hg ht).2]; exact pcs_g hO hW hg l _ s (by omega) h2⟩
theorem pcs_end : ∀ (l : List Nat) (t s : Nat), pcs α t l s → nK α s ≠ 6 → pc α t l s
  | [], t, s, h, h6 => ⟨h, by have : s = t := h; rw [← this]; exact h6⟩
  | d :: l, t, s, h, h6 => ⟨h.1, h.2.1, pcs_end l _ s h.2.2 h6⟩
theorem pcs_add : ∀ (l : List Nat) (t s : Nat), pcs α t l s → nK α s = 6 → pcs α t (l ++ [lfN α s]) (rtN α s)
  | [], t, s, h, h6 => by
    have e : s = t := h
    subst e
    exact ⟨h6, rfl, rfl⟩
  | d :: l, t, s, h, h6 => ⟨h.1, h.2.1, pcs_add l _ s h.2.2 h6⟩
theorem AR.ch (h : AR fam n q at' yv α) (hα : tT K α) (hβ : tT K β) (hc : ch I R α β) (hmt : mbt α fam at' < tn α) (i32 : 32 ∉ I) (r15 : 15 ∉ R) (hf : ∀ k, fc β k 1 = fc α k 1) : AR fam n q at' yv β := by
  obtain ⟨s, L, rt, b1, b2, b3, b4, b5, b6, b7, b8, b9⟩ := h
  have e : mbt β fam at' = mbt α fam at' := by unfold mbt; rw [hf]
  refine ⟨s, L, rt, (hc.int i32).trans b1, b2.g hc.2.2, by rw [e]; exact pcs_g hα.1.1 hα.2.1 hc.2.2 L _ s hmt b3, Nat.lt_of_lt_of_le b4 hc.2.2.1, b5.g hα.1.1 hα.2.1 hc.2.2 b4 b2.1, by rw [hc.row (by decide) r15]; exact b6, by rw [(g_n hc.2.2 b2.1).2.2.1]; exact b7, b8, fun d hd => ?_⟩
  obtain ⟨d1, d2⟩ := b9 d hd
  exact ⟨Nat.lt_of_lt_of_le d1 hc.2.2.1, fun z => (eN_g hα.1.1 hα.2.1 hβ.1.1 hc.2.2 d1).mpr (d2 ((hc_g hα.1.1 hα.2.1 hc.2.2 d d1).mp z))⟩
end FAMC
/-- what stands of the family, by the frame at the bottom (37: all tested) -/
def FZ (c K m fam n M yv z : Nat) (α : kS) : Prop := (32 ≤ z → FS c K m fam n M α) ∧ (z = 33 → ∃ q at', FD fam n M q at' α) ∧ (z = 34 ∨ z = 35 → ∃ q at', FD fam n M q at' α ∧ at' < M ∧ AR fam n q at' yv α ∧ (z = 35 → f_Terms_kind (α.1 32) α = 6)) ∧ (z = 36 → ∃ q at', FD fam n M q at' α ∧ at' < M ∧ GM α (nI fam) (n + q) (mbt α fam at')) ∧ (z = 37 → ∃ q, FD fam n M q M α)
/-- the turns of the others keep it -/
theorem FZ.ch {c K m fam n M yv z : Nat} {α β : kS} {I R : List Nat} (h : FZ c K m fam n M yv z α) (hα : tT K α) (hβ : tT K β) (hm : m ≤ tn α) (hc : ch I R α β) (hI : ∀ i, i ∈ I → i ∈ [2, 3, 4, 6, 100, 24]) (hR : ∀ r, r ∈ R → r ∈ [2, 3, 4, 12, 13, 14]) : FZ c K m fam n M yv z β := by
  obtain ⟨h1, h2, h3, h4, h5⟩ := h
  have w : wk α β := hc.mo hI hR
  have hf : ∀ k, fc β k 1 = fc α k 1 := fun k => by unfold fc; rw [w.row (by decide) (by decide)]
  have hn := hα.1.1.n.2.1
  have fd : ∀ q at', 32 ≤ z → FD fam n M q at' α → FD fam n M q at' β := fun q at' z1 z2 => z2.ch (h1 z1) hα hβ hm w (by decide) (by decide) (by decide) (by decide) (by decide) hf
  have emt : ∀ i, mbt β fam i = mbt α fam i := fun i => by unfold mbt; rw [hf]
  refine ⟨fun z1 => (h1 z1).ch hm w (by decide) (by decide) (by decide) hf, fun z1 => ?_, fun z1 => ?_, fun z1 => ?_, fun z1 => ?_⟩
  · obtain ⟨q, at', y⟩ := h2 z1
    exact ⟨q, at', fd q at' (by omega) y⟩
  · obtain ⟨q, at', y1, y2, y3, y4⟩ := h3 z1
    obtain ⟨-, mm, -⟩ := (h1 (by omega)).bm y2 hm (by omega)
    refine ⟨q, at', fd q at' (by omega) y1, y2, y3.ch hα hβ w (by omega) (by decide) (by decide) hf, fun z5 => ?_⟩
    obtain ⟨s, L, rt, b1, b2, -⟩ := y3
    rw [w.int (by decide), b1, kd_g hα.1.1 hβ.1.1 w.2.2 b2.1, ← b1]
    exact y4 z5
  · obtain ⟨q, at', y1, y2, y3⟩ := h4 z1
    obtain ⟨-, mm, -⟩ := (h1 (by omega)).bm y2 hm (by omega)
    exact ⟨q, at', fd q at' (by omega) y1, y2, by rw [emt]; exact (GM_g hα.1.1 hα.2.1 hβ.1.1 w.2.2 (by omega)).mpr y3⟩
  · obtain ⟨q, y⟩ := h5 z1
    exact ⟨q, fd q M (by omega) y⟩
