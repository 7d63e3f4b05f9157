-- the calls of the reference
section CALLM
variable {N sz : Nat} {α β : mS} {a b : Int32}
theorem ref_0 (k : Int32) (α : mS) : f_Mod_refuse k 0 α = (0, α) := by
  unfold f_Mod_refuse
  rw [if_pos rfl]
  rfl
theorem ref_1 (k : Int32) (α : mS) : f_Mod_refuse k 1 α = (1, mSi α 2 k) := by
  unfold f_Mod_refuse
  rw [if_neg (by decide)]
  rfl
theorem MI.s2 {v : Int32} (h : MI sz α) : MI sz (mSi α 2 v) := h.ch (I := [2]) (R := []) (mch.si (by decide)) (by decide) (by decide)
/-- what a call leaves that returns a number -/
def mRt (sz : Nat) (f : Option (kO × mS)) : Prop := ∃ v β, f = some (some (some v), β) ∧ MI sz β
theorem mRt.ite {c : Prop} [Decidable c] {x y : Option (kO × mS)} (hx : c → mRt sz x) (hy : ¬ c → mRt sz y) : mRt sz (if c then x else y) := by
  by_cases h : c
  · rw [if_pos h]; exact hx h
  · rw [if_neg h]; exact hy h
theorem mRt.ix {c : Prop} [Decidable c] {y : Option (kO × mS)} (h : ¬ c) (hy : mRt sz y) : mRt sz (if c then none else y) := by rw [if_neg h]; exact hy
theorem mRt.ret {v : Int32} (h : MI sz α) : mRt sz (some (some (some v), α)) := ⟨v, α, rfl, h⟩
theorem mRt.say {f : Option (kO × mS)} (hI : MI sz α) (h : sQ f α) : mRt sz (mBv f fun β => some (some (some (β.1 1)), β)) := by
  obtain ⟨β, e, c, o⟩ := h
  rw [e]
  obtain ⟨⟨x, y, z, h1⟩, -, h3, h4⟩ := hI
  exact ⟨_, β, rfl, ⟨x, y, z, h1.ch c (by decide) (by decide)⟩, o, (c.int (by decide)).trans h3, h4⟩
/-- feed -/
theorem feed_go (v1 v2 v3 v4 v5 : Int32) : ∀ (d k n s : Nat) (α : mS), k + d = 20 → d < n → MI s α → s + d ≤ 65536 → ∃ β, f_Mod_feed_32 N n (nI k) v1 v2 v3 v4 v5 α = some (some (some (nI (s + d))), β) ∧ MI (s + d) β ∧ β.1 2 = α.1 2
  | 0, k, n, s, α, hk, hn, h, hs => by
    obtain ⟨n, rfl⟩ : ∃ n', n = n' + 1 := ⟨n - 1, by omega⟩
    rw [f_Mod_feed_32, if_pos (show (20 : Int32) ≤ nI k from (nI_le (by omega) (by omega) : nI 20 ≤ nI k)), h.2.2.1]
    exact ⟨α, rfl, h, rfl⟩
  | d + 1, k, n, s, α, hk, hn, h, hs => by
    obtain ⟨n, rfl⟩ : ∃ n', n = n' + 1 := ⟨n - 1, by omega⟩
    have go : ∀ t : Int32, ∃ β, f_Mod_feed_j85 N (f_Mod_feed_32 N n) (nI k) v1 v2 v3 v4 v5 t α = some (some (some (nI (s + (d + 1)))), β) ∧ MI (s + (d + 1)) β ∧ β.1 2 = α.1 2 := fun t => by
      unfold f_Mod_feed_j85
      rw [h.2.2.1, if_neg (mix (show s < 65536 by omega) (by decide)), nI_1, nI_1]
      obtain ⟨γ, eγ⟩ : ∃ γ, γ = mSA (mSi α 0 (nI (s + 1))) 0 (upd ((mSi α 0 (nI (s + 1))).2 0) (nI s).toNatClampNeg (vp_nar .byte ((((t).toUInt32 >>> (((24 - (8 * (nI k - nI k / 4 * 4))) : Int32).toUInt32 &&& Int32.toUInt32 31)).toInt32)).toInt8.toInt32)) := ⟨_, rfl⟩
      rw [← eγ]
      have cγ : mch [0] [0] α γ := by rw [eγ]; exact (mch.si (by decide)).tr (mch.sA (by decide))
      obtain ⟨⟨x, y, z, h1⟩, h2, -, h4⟩ := h
      obtain ⟨β, e, q1, q2⟩ := feed_go v1 v2 v3 v4 v5 d (k + 1) n (s + 1) γ (by omega) (by omega) ⟨⟨x, y, z, h1.ch cγ (by decide) (by decide)⟩, h2.ch cγ (by decide), by rw [eγ]; rfl, by omega⟩ (by omega)
      rw [show s + 1 + d = s + (d + 1) by omega] at e q1
      exact ⟨β, e, q1, q2.trans (cγ.int (by decide))⟩
    rw [f_Mod_feed_32, if_neg (show ¬ (20 : Int32) ≤ nI k from (nI_ge (by omega) (by omega) : ¬ nI 20 ≤ nI k))]
    by_cases c1 : 4 ≤ nI k
    · rw [if_pos c1]
      by_cases c2 : 8 ≤ nI k
      · rw [if_pos c2]
        by_cases c3 : 12 ≤ nI k
        · rw [if_pos c3]
          by_cases c4 : 16 ≤ nI k
          · rw [if_pos c4]; exact go _
          · rw [if_neg c4]; exact go _
        · rw [if_neg c3]; exact go _
      · rw [if_neg c2]; exact go _
    · rw [if_neg c1]; exact go _
theorem feed_m {v1 v2 v3 v4 v5 : Int32} (hN : 400000 < N) (h : MI sz α) (hs : sz ≤ 65516) : ∃ β, f_Mod_feed N v1 v2 v3 v4 v5 α = some (some (some (nI (sz + 20))), β) ∧ MI (sz + 20) β ∧ β.1 2 = 0 := by
  unfold f_Mod_feed f_Mod_feed_j21
  rw [h.2.2.1, if_pos (show nI sz ≤ (65516 : Int32) from (nI_le hs (by decide) : nI sz ≤ nI 65516)), ref_0, if_pos rfl]
  exact feed_go v1 v2 v3 v4 v5 20 0 N sz (mSi α 2 0) rfl (by omega) h.s2 (by omega)
theorem feed_r {v1 v2 v3 v4 v5 : Int32} (h : MI sz α) (hs : 65516 < sz) : ∃ β, f_Mod_feed N v1 v2 v3 v4 v5 α = some (some (some 0), β) ∧ MI sz β ∧ β.1 2 = 1 := by
  unfold f_Mod_feed f_Mod_feed_j21
  rw [h.2.2.1, if_neg (show ¬ nI sz ≤ (65516 : Int32) from (nI_ge hs (by have := h.2.2.2; omega) : ¬ nI sz ≤ nI 65516)), ref_1, if_neg (show ¬ (1 : Int32) = 0 by decide)]
  exact ⟨_, rfl, h.s2.s2, rfl⟩
/-- end -/
theorem end_m {n : Nat} (h : MI sz α) (hn : n ≤ sz) : (f_Mod_end (nI n) α).1 = nI n ∧ MI n (f_Mod_end (nI n) α).2 ∧ (f_Mod_end (nI n) α).2.1 2 = 0 := by
  have := h.2.2.2
  unfold f_Mod_end f_Mod_end_j24
  rw [if_neg (nI_pos (by omega)), h.2.2.1, if_pos (nI_le hn (by omega)), ref_0, if_pos rfl]
  obtain ⟨⟨x, y, z, h1⟩, h2, -, h4⟩ := h
  have cβ : mch [0, 2] [] α (mSi (mSi α 2 0) 0 (nI n)) := (mch.si (by decide)).tr (mch.si (by decide))
  exact ⟨rfl, ⟨⟨x, y, z, h1.ch cβ (by decide) (by decide)⟩, h2.ch cβ (by decide), rfl, by omega⟩, rfl⟩
theorem end_r (h : MI sz α) (hn : ¬ (0 ≤ a ∧ a ≤ nI sz)) : (f_Mod_end a α).1 = 0 ∧ MI sz (f_Mod_end a α).2 ∧ (f_Mod_end a α).2.1 2 = 1 := by
  have j : (f_Mod_end_j19 a 1 (mSi α 2 0)) = (0, mSi (mSi α 2 0) 2 1) := by
    unfold f_Mod_end_j19 f_Mod_end_j24
    rw [ref_1, if_neg (show ¬ (1 : Int32) = 0 by decide)]
  unfold f_Mod_end
  by_cases c1 : a < 0
  · rw [if_pos c1, j]; exact ⟨rfl, h.s2.s2, rfl⟩
  · rw [if_neg c1, h.2.2.1, if_neg (fun z => hn ⟨Int32.not_lt.mp c1, z⟩), j]; exact ⟨rfl, h.s2.s2, rfl⟩
theorem fault_m (h : MI sz α) : MI sz (f_Mod_fault a α).2 := by
  unfold f_Mod_fault
  by_cases c1 : a = 0
  · rw [if_pos c1]; exact h.s2
  · rw [if_neg c1]
    by_cases c2 : a = 1
    · rw [if_pos c2]; exact h.s2
    · rw [if_neg c2]; exact h.s2
theorem count_m (h : MI sz α) : MI sz (f_Mod_count a α).2 := by
  unfold f_Mod_count
  repeat' split
  all_goals exact h.s2
theorem reset_m (h : MI sz α) : MI sz (f_Mod_reset α).2 := by
  obtain ⟨-, ⟨o, o1, o2⟩, h3, h4⟩ := h
  exact ⟨⟨0, 0, fun _ => False, ⟨rfl, by decide⟩, ⟨rfl, 0, rfl, by decide, by decide⟩, ⟨0, rfl, by decide⟩, ⟨by decide, fun j hj => absurd hj (Nat.not_lt_zero _)⟩, fun i hi => absurd hi (Nat.not_lt_zero _), ⟨⟨by decide, fun j hj => hj.elim⟩, fun j hj => absurd hj (Nat.not_lt_zero _), fun j hj => hj.elim⟩, fun j hj => absurd hj (Nat.not_lt_zero _), fun j hj => absurd hj (Nat.not_lt_zero _), fun j => ⟨fun z => z.elim, fun z => absurd z.1 (Nat.not_lt_zero _)⟩⟩, ⟨o, o1, o2⟩, h3, h4⟩
/-- none -/
theorem none_m {c : Nat} (hc : c ≤ 300) (h16 : α.1 16 = nI c) : (∃ k, a = nI k ∧ k < c ∧ f_Mod_none a α = (0, mSi α 2 0)) ∨ f_Mod_none a α = (1, mSi (mSi α 2 0) 2 1) := by
  have e0 : ∀ x : mS, (((0 : Int32) &&& 1, x) : Int32 × mS) = (0, x) := fun x => by rw [show (0 : Int32) &&& 1 = 0 by decide]
  have e1 : ∀ x : mS, (((1 : Int32) &&& 1, x) : Int32 × mS) = (1, x) := fun x => by rw [show (1 : Int32) &&& 1 = 1 by decide]
  unfold f_Mod_none
  rw [ref_0, ref_1]
  by_cases c1 : a < 0
  · rw [if_pos c1]; exact Or.inr (e1 _)
  · rw [if_neg c1, h16]
    obtain ⟨k, hk, rfl⟩ := nI_of c1
    by_cases c2 : nI k < nI c
    · rw [if_pos c2]
      exact Or.inl ⟨k, rfl, Nat.not_le.mp fun z => (nI_nlt z hk) c2, e0 _⟩
    · rw [if_neg c2]; exact Or.inr (e1 _)
theorem out_m (h : MI sz α) : mRt sz (f_Mod_out N a α) := by
  obtain ⟨o, o1, o2⟩ := h.2.1
  have j : mRt sz (f_Mod_out_j19 N a 1 (mSi α 2 0)) := by
    unfold f_Mod_out_j19 f_Mod_out_j24
    rw [ref_1, if_neg (show ¬ (1 : Int32) = 0 by decide)]
    exact mRt.ret h.s2.s2
  unfold f_Mod_out
  refine mRt.ite (fun _ => j) fun c1 => mRt.ite (fun c2 => ?_) fun _ => j
  unfold f_Mod_out_j24
  rw [ref_0, if_pos rfl]
  obtain ⟨k, hk, rfl⟩ := nI_of c1
  rw [o1] at c2
  have : k < o := Nat.not_le.mp fun z => (nI_nlt z hk) c2
  exact mRt.ix (mix (show k < 65536 by omega) (by decide)) (mRt.ret h.s2)
theorem constant_m (h : MI sz α) : mRt sz (f_Mod_constant_2 N a b α) := by
  obtain ⟨⟨c, κ, Lr, hM⟩, -⟩ := id h
  unfold f_Mod_constant_2
  rcases none_m (a := a) hM.1.2 hM.1.1 with ⟨k, rfl, hk, e⟩ | e
  · rw [e, if_pos rfl]
    have hc := hM.1.2
    have hκ := hM.k
    have hI := h.s2 (v := 0)
    have ix : ¬ (nI k < 0 ∨ 301 ≤ (nI k).toNatClampNeg) := mix (show k < 301 by omega) (by decide)
    have ek : (nI k).toNatClampNeg = k := nI_clamp (by omega)
    have go : ∀ t0, mRt sz (f_Mod_constant_2_j25 N (nI k) b t0 (mSi α 2 0)) := fun t0 => by
      unfold f_Mod_constant_2_j25
      refine mRt.ite (fun _ => mRt.ix ix (mRt.ret hI)) fun _ => mRt.ite (fun _ => mRt.ix ix ?_) fun _ => mRt.ite (fun _ => mRt.ix ix (mRt.ite (fun c0 => mRt.ix ix ?_) fun _ => mRt.ret hI)) fun _ => mRt.ite (fun _ => mRt.ite (fun _ => mRt.ret hI) fun _ => mRt.ix ix (mRt.ret hI)) fun _ => mRt.ite (fun _ => mRt.ite (fun _ => mRt.ret hI) fun _ => mRt.ix ix (mRt.ret hI)) fun _ => mRt.ite (fun _ => mRt.ite (fun _ => mRt.ret hI) fun _ => mRt.ix ix (mRt.ret hI)) fun _ => mRt.ite (fun _ => mRt.ix ix (mRt.ite (fun _ => mRt.ix ix (mRt.ret hI)) fun _ => mRt.ret hI)) fun _ => mRt.ite (fun _ => mRt.ix ix (mRt.ite (fun _ => mRt.ix ix (mRt.ret hI)) fun _ => mRt.ret hI)) fun _ => mRt.ret hI.s2
      · rw [ek]
        obtain ⟨v, b1, b2, -⟩ := hM.2.2.2.2.2.2.1 k hk
        show mRt sz (if α.2 13 k < 0 ∨ 400000 ≤ (α.2 13 k).toNatClampNeg then _ else _)
        rw [b1]
        exact mRt.ix (mix (show v < 400000 by omega) (by decide)) (mRt.ret hI)
      · rw [ek] at c0 ⊢
        have c0 : 0 ≤ α.2 14 k := c0
        show mRt sz (if α.2 14 k < 0 ∨ 400000 ≤ (α.2 14 k).toNatClampNeg then _ else _)
        rcases hM.2.2.2.2.2.2.2.1 k hk with z | ⟨v, b1, b2, -⟩
        · rw [z] at c0; exact absurd c0 (by decide)
        · rw [b1]
          exact mRt.ix (mix (show v < 400000 by omega) (by decide)) (mRt.ret hI)
    exact mRt.ix ix (mRt.ite (fun _ => go _) fun _ => go _)
  · rw [e, if_neg (show ¬ (1 : Int32) = 0 by decide)]
    exact mRt.ret h.s2.s2
theorem MI.o0 {v : Nat} (h : MI sz α) (hv : v ≤ 65536) : MI sz (mSi α 1 (nI v)) := by
  obtain ⟨⟨x, y, z, h1⟩, h2, h3, h4⟩ := h
  have c : mch [1] [] α (mSi α 1 (nI v)) := mch.si (by decide)
  exact ⟨⟨x, y, z, h1.ch c (by decide) (by decide)⟩, ⟨v, rfl, hv⟩, h3, h4⟩
theorem show_m (hN : 400000 < N) (h : MI sz α) : mRt sz (f_Mod_show N a b α) := by
  obtain ⟨⟨c, κ, Lr, hM⟩, -⟩ := id h
  unfold f_Mod_show
  rcases none_m (a := a) hM.1.2 hM.1.1 with ⟨k, rfl, hk, e⟩ | e
  · rw [e, if_pos rfl]
    have hc := hM.1.2
    have hκ := hM.k
    have hI := h.s2 (v := 0)
    have ix : ¬ (nI k < 0 ∨ 301 ≤ (nI k).toNatClampNeg) := mix (show k < 301 by omega) (by decide)
    have ek : (nI k).toNatClampNeg = k := nI_clamp (by omega)
    have j51r : ∀ t1, mRt sz (f_Mod_show_j51 N (nI k) b 1 t1 (mSi α 2 0)) := fun t1 => by
      unfold f_Mod_show_j51
      rw [ref_1, if_neg (show ¬ (1 : Int32) = 0 by decide)]
      exact mRt.ret hI.s2
    have j51 : ∀ t1, (b = 0 ∨ b = 1 ∨ ∃ v, α.2 14 k = nI v ∧ v < κ ∧ fit α v ∧ clo α v) → mRt sz (f_Mod_show_j51 N (nI k) b 0 t1 (mSi α 2 0)) := fun t1 hb => by
      unfold f_Mod_show_j51
      rw [ref_0, if_pos rfl]
      obtain ⟨γ, eγ⟩ : ∃ γ, γ = mSi (mSi α 2 0) 1 (nI 0) := ⟨_, rfl⟩
      have Iγ : MI sz γ := by rw [eγ]; exact hI.o0 (by decide)
      have cγ : mch [1, 2] [] α γ := by rw [eγ]; exact (mch.si (by decide)).tr (mch.si (by decide))
      have Mγ := hM.ch cγ (by decide) (by decide)
      have SEγ : SE (· < κ) c Lr γ := ⟨Mγ.2.2.2.2.1, ⟨c, Mγ.2.2.2.1, Nat.le_refl _, fun j hj => ((Mγ.2.2.2.2.2.2.2.2 j).mp hj).1⟩, Iγ.2.1⟩
      have sγ : sN (· < κ) α γ := sN.ch cγ (fun r _ _ z => by cases z)
      show mRt sz (if b = 0 then mBv (f_Mod_sayName N (nI k) (mSi (mSi α 2 0) 1 (nI 0))) _ else if b = 1 then (if nI k < 0 ∨ 301 ≤ (nI k).toNatClampNeg then none else mBv ((G_sayBinder N dp_sayBinder).2.2 ((mSi (mSi α 2 0) 1 (nI 0)).2 13 (nI k).toNatClampNeg) 0 (mSi (mSi α 2 0) 1 (nI 0))) _) else (if nI k < 0 ∨ 301 ≤ (nI k).toNatClampNeg then none else mBv ((G_sayBinder N dp_sayBinder).2.2 ((mSi (mSi α 2 0) 1 (nI 0)).2 14 (nI k).toNatClampNeg) 0 (mSi (mSi α 2 0) 1 (nI 0))) _))
      rw [← eγ, ek]
      refine mRt.ite (fun _ => mRt.say Iγ (sayName_ok hN Mγ.2.2.2.1 hk Iγ.2.1)) fun n0 => mRt.ite (fun _ => mRt.ix (by rw [ek] at ix; exact ix) ?_) fun n1 => mRt.ix (by rw [ek] at ix; exact ix) ?_
      · obtain ⟨v, b1, b2, b3, b4⟩ := Mγ.2.2.2.2.2.2.1 k hk
        rw [b1]
        exact mRt.say Iγ (say_ok hN SEγ b2 b4 b3.2)
      · rcases hb with z | z | ⟨v, b1, b2, b3, b4⟩
        · exact absurd z n0
        · exact absurd z n1
        · rw [cγ.arr (by decide), b1]
          exact mRt.say Iγ (say_ok hN SEγ b2 (b4.sn hM.2.2.2.2.1 sγ b2) (b3.sn sγ b2).2)
    have j19 : mRt sz (f_Mod_show_j19 N (nI k) b 2 (mSi α 2 0)) := by
      unfold f_Mod_show_j19 f_Mod_show_j24
      rw [ref_1, if_neg (show ¬ (1 : Int32) = 0 by decide)]
      exact mRt.ret hI.s2
    refine mRt.ite (fun _ => j19) fun n0 => mRt.ite (fun l2 => ?_) fun _ => j19
    unfold f_Mod_show_j24 f_Mod_show_j50
    rw [ref_0, if_pos rfl]
    refine mRt.ite (fun e2 => mRt.ix ix ?_) fun e2 => j51 _ ?_
    · rw [ek]
      refine mRt.ite (fun c0 => j51 _ ?_) fun _ => j51r _
      have c0 : 0 ≤ α.2 14 k := c0
      rcases hM.2.2.2.2.2.2.2.1 k hk with z | z
      · rw [z] at c0; exact absurd c0 (by decide)
      · exact Or.inr (Or.inr z)
    · obtain ⟨m, hm, rfl⟩ := nI_of n0
      have : m ≤ 2 := Nat.not_lt.mp fun z => (nI_ge (b := m) (a := 2) z hm) l2
      have m2 : m ≠ 2 := fun z => e2 (by rw [z]; rfl)
      rcases (show m = 0 ∨ m = 1 by omega) with rfl | rfl
      · exact Or.inl rfl
      · exact Or.inr (Or.inl rfl)
  · rw [e, if_neg (show ¬ (1 : Int32) = 0 by decide)]
    exact mRt.ret h.s2.s2
theorem showRec_m (hN : 400000 < N) (h : MI sz α) : mRt sz (f_Mod_showRec N a b α) := by
  obtain ⟨⟨c, κ, Lr, hM⟩, -⟩ := id h
  unfold f_Mod_showRec
  rcases none_m (a := a) hM.1.2 hM.1.1 with ⟨k, rfl, hk, e⟩ | e
  · rw [e, if_pos rfl]
    have hc := hM.1.2
    have hκ := hM.k
    have hI := h.s2 (v := 0)
    have ix : ¬ (nI k < 0 ∨ 301 ≤ (nI k).toNatClampNeg) := mix (show k < 301 by omega) (by decide)
    have ek : (nI k).toNatClampNeg = k := nI_clamp (by omega)
    have j30 : mRt sz (f_Mod_showRec_j30 N (nI k) b 1 (mSi α 2 0)) := by
      unfold f_Mod_showRec_j30 f_Mod_showRec_j35
      rw [ref_1, if_neg (show ¬ (1 : Int32) = 0 by decide)]
      exact mRt.ret hI.s2
    refine mRt.ix ix (mRt.ite (fun e3 => mRt.ite (fun _ => j30) fun n0 => mRt.ite (fun l2 => ?_) fun _ => j30) fun _ => j30)
    rw [ek] at e3
    have hLk : Lr k := (hM.2.2.2.2.2.2.2.2 k).mpr ⟨hk, e3⟩
    obtain ⟨-, rr, err, vrr, crr, frr⟩ := hM.2.2.2.2.2.1.2.2 k hLk
    have j61 : ∀ t1, mRt sz (f_Mod_showRec_j61 N (nI k) b 0 t1 (mSi α 2 0)) := fun t1 => by
      unfold f_Mod_showRec_j61
      rw [ref_0, if_pos rfl]
      refine mRt.ix ix ?_
      obtain ⟨γ, eγ⟩ : ∃ γ, γ = mSi (mSi α 2 0) 10 32000 := ⟨_, rfl⟩
      show mRt sz (mBi (f_Mod_leveled N ((mSi (mSi α 2 0) 10 32000).2 21 (nI k).toNatClampNeg) b (mSi (mSi α 2 0) 10 32000)) _)
      rw [← eγ, ek]
      have cγ : mch [2, 10] [] α γ := by rw [eγ]; exact (mch.si (by decide)).tr (mch.si (by decide))
      have Iγ : MI sz γ := h.ch cγ (by decide) (by decide)
      have Mγ := hM.ch cγ (by decide) (by decide)
      have sγ : sN (· < κ) α γ := sN.ch cγ (fun r _ _ z => by cases z)
      have fr := frr.sn sγ vrr
      rw [cγ.arr (by decide), err]
      have hP : PO (· < κ) 32000 c Lr 32000 γ := ⟨by rw [eγ]; rfl, Nat.le_refl _, by decide, fun i hi => (Mγ.2.2.2.2.1 i (hi.elim id fun z => by omega)).up (fun _ z => Or.inl z) (Nat.le_refl _) (fun _ z => z)⟩
      have vr : vd (· < κ) 32000 32000 rr := Or.inl vrr
      obtain ⟨d1, d2⟩ := fr.sp hP vr
      rcases leveled_n (lim := 100000) (v := b) hN (by decide) (nrmk (by omega)) hP vr d1 d2 (by have := fr.1; exact ⟨by omega, by omega⟩) with ⟨v, δ, e1, q⟩ | ⟨δ, -, q⟩
      · obtain ⟨x, t1, rfl, q1, -, q3, q4, q5, q6, -, q8⟩ := q
        rw [e1]
        obtain ⟨ε, eε⟩ : ∃ ε, ε = mSi δ 1 (nI 0) := ⟨_, rfl⟩
        show mRt sz (mBv ((G_sayBinder N dp_sayBinder).2.2 (nI x) 0 (mSi δ 1 (nI 0))) _)
        rw [← eε]
        have cε : mch [1] [] δ ε := by rw [eε]; exact mch.si (by decide)
        have sε : ∀ V : Nat → Prop, sN V δ ε := fun V => sN.ch cε (fun r _ _ z => by cases z)
        have Mδ : MD c κ Lr δ := by
          obtain ⟨wu, w1, w2⟩ := Mγ.2.2.1
          exact Mγ.xd (wu := wu) (fun r a b j _ => by rw [q4.arr (r1024 (P := fun r => r ∉ mpR) (by decide) r a b)]) (q5.su fun _ z => Or.inl z) (q4.int (by decide)) (q4.int (by decide)) (q4.int (by decide)) ((q4.int (by decide)).trans w1) w2
        have Mε := Mδ.ch cε (by decide) (by decide)
        have Iε : MI sz ε := ⟨⟨c, κ, Lr, Mε⟩, ⟨0, by rw [eε]; rfl, by decide⟩, ((cε.int (by decide)).trans (q4.int (by decide))).trans Iγ.2.2.1, h.2.2.2⟩
        have hW := q3.2.2.2
        have vr1 : vd (· < κ) 32000 t1 rr := Or.inl vrr
        obtain ⟨-, z2, -⟩ := q8.sz hW (fun t r _ _ h1 h2 => RLev.lf h1 h2) vr1 q6
        have fd : uD δ x ≤ 200 := by rw [z2]; exact (fr.sn q5 vr).2
        have cr : clo δ x := AL.lev hW vr1 q6 q8 (((crr.sn hM.2.2.2.2.1 sγ vrr).sn hP.2.2.2 q5 vr))
        have SEε : SE (vd (· < κ) 32000 t1) c Lr ε := ⟨hW.sn (sε _), ⟨c, Mε.2.2.2.1, Nat.le_refl _, fun j hj => ((hM.2.2.2.2.2.2.2.2 j).mp hj).1⟩, Iε.2.1⟩
        exact mRt.say Iε (say_ok hN SEε q6 (cr.sn hW (sε _) q6) (by rw [(sε (fun _ => True)).d trivial]; exact fd))
      · exact q.elim
    have j61r : ∀ t1, mRt sz (f_Mod_showRec_j61 N (nI k) b 1 t1 (mSi α 2 0)) := fun t1 => by
      unfold f_Mod_showRec_j61
      rw [ref_1, if_neg (show ¬ (1 : Int32) = 0 by decide)]
      exact mRt.ret hI.s2
    unfold f_Mod_showRec_j35 f_Mod_showRec_j60
    rw [ref_0, if_pos rfl]
    exact mRt.ite (fun _ => j61 _) fun _ => mRt.ix ix (mRt.ite (fun _ => j61r _) fun _ => j61 _)
  · rw [e, if_neg (show ¬ (1 : Int32) = 0 by decide)]
    exact mRt.ret h.s2.s2
end CALLM
