-- WHNF_MAJOR
theorem nI_m1 (i : Nat) : nI (i + 1) + (-1) = nI i := (Int32.sub_eq_add_neg _ _).symm.trans (nI_pred i)
theorem aP_add {α : kS} {j : Nat} : ∀ (i : Nat) {p : Int32}, aP α i p → aP α j (spn α i p) → aP α (i + j) p
  | 0, p, _, h => by rw [Nat.zero_add]; exact h
  | i + 1, p, h, h' => by
    rw [show i + 1 + j = (i + j) + 1 by omega]
    exact ⟨h.1, aP_add i h.2 h'⟩
theorem spn_add {α : kS} {j : Nat} : ∀ (i : Nat) {p : Int32}, spn α (i + j) p = spn α j (spn α i p)
  | 0, p => by rw [Nat.zero_add]; rfl
  | i + 1, p => by
    rw [show i + 1 + j = (i + j) + 1 by omega]
    exact spn_add i
theorem maj_go {N : Nat} {x7 x6 x3 x2 : Int32} {β : kS} : ∀ (i n : Nat) (x : Int32), i + 1 < n → i < 2 ^ 31 → ∃ n', f_Red_whnfMajor_198 N n (nI i) x x7 x6 x3 x2 β = f_Red_whnfMajor_198 N (n' + 1) (-1) (spn β (i + 1) x) x7 x6 x3 x2 β
  | 0, n, x, hn, hi => by
    obtain ⟨n, rfl⟩ : ∃ n', n = n' + 1 + 1 := ⟨n - 2, by omega⟩
    refine ⟨n, ?_⟩
    rw [f_Red_whnfMajor_198, if_neg (nI_pos hi), show nI 0 + (-1) = (-1 : Int32) from by decide]
    rfl
  | i + 1, n, x, hn, hi => by
    obtain ⟨n, rfl⟩ : ∃ n', n = n' + 1 := ⟨n - 1, by omega⟩
    obtain ⟨n', e⟩ := maj_go (N := N) (x7 := x7) (x6 := x6) (x3 := x3) (x2 := x2) (β := β) i n (f_Terms_left x β) (by omega) (by omega)
    refine ⟨n', ?_⟩
    rw [f_Red_whnfMajor_198, if_neg (nI_pos hi), nI_m1]
    exact e
section MAJOR
variable {N K c m yv z dd g : Nat} {α : kS} {a b t r : Int32} {fs : List F5} {ty : List Int32}
theorem major_ok (hN : 2 ^ 31 ≤ N) (T : Top K c m yv z 2 α a b t dd fs ty r g) : tV (f_Red_whnfMajor N α) (TI2 (LC m yv 2 g α a b fs r) K yv z α) (TX K α) := by
  obtain ⟨h, he, v, ⟨hqa, hd, hh, hg1⟩, hl, hs, hr, hg, ht⟩ := T
  have hqr := hr hg1
  have hO := h.1.1
  have hW := h.2.1
  have ht0 : tvp yv α fs ty := ht.pop (by decide)
  have e1 : f_Fra_top 1 α = a := top1 h v
  have er : f_Fra_result α = r := v.2.2
  obtain ⟨p, eh, qh⟩ := head_ok (N := N) (by omega) hO hW hqa
  obtain ⟨q, eq, qq⟩ := head_ok (N := N) (by omega) hO hW hqr
  have gv1 : tV (some (some none, f_Fra_give a α)) (TI2 (LC m yv 2 g α a b fs r) K yv z α) (TX K α) := by
    obtain ⟨β, e, g1, g2, g3⟩ := fgive h v a
    rw [e]
    exact tV.ret ⟨g1, g2, SI2.give h g1 g2.2.2 g3 hs (hqa.g g2.2.2) (ht0.g g2.2.2) (fun l => ⟨lev.w h g1 g2 fs l.2.2.2.1, FP.g hO hW g2.2.2 l.2.2.1.1⟩)⟩
  unfold f_Red_whnfMajor
  rw [e1, er, eh]
  show tV ((f_Terms_head N r α).bind _) _ _
  rw [eq]
  show tV (if f_Terms_kind q α = 3 then _ else _) _ _
  refine tV.ite (fun c3 => ?_) (fun _ => gv1)
  obtain ⟨j, rfl, hj⟩ := kin hO (p := q) (by rw [c3]; decide)
  obtain ⟨k, ek, hk⟩ := const_v h hj (Or.inl (kd_is hO hj (k := 3) (by decide) c3))
  have hKc := he.2.2.1
  have hc3 := he.2.1
  rw [ek]
  refine tV.ite (fun _ => ?_) (fun _ => gv1)
  obtain ⟨o, eo, ho⟩ := owner_v h he (k := k) (by omega)
  rw [eo]
  refine tV.ite (fun cf => ?_) (fun _ => gv1)
  rw [← cf]
  obtain ⟨b8, eb8, hb8, ab8⟩ := behind_sz (N := N) (by omega) hO hW r
  rw [eb8]
  obtain ⟨pa, pi, pm, pe, f3, f4, f5, f6, ha, hi, hm, -⟩ := counts_v h he (k := o) (by omega)
  obtain ⟨-, -, -, te, -, -, -, t6, -, -, -, hte⟩ := counts_v h he (k := k) (by omega)
  obtain ⟨mp, hmp, emp⟩ := major_e h he (k := o) (by omega)
  have emp' : mp = pa + 1 + pm + pi := by
    unfold f_Red_majorPlace at emp
    rw [f3, f5, f4, nI_1, nI_add, nI_add] at emp
    exact ((nI_eq (by omega) (by omega)).mp emp).symm
  rw [f3, t6, nI_add]
  show tV (if nI b8 = nI (pa + te) then _ else _) _ _
  refine tV.ite (fun c8 => ?_) (fun _ => gv1)
  have e8 : b8 = pa + te := (nI_eq (by omega) (by omega)).mp c8
  obtain ⟨b1, eb1, hb1, ab1⟩ := behind_sz (N := N) (by omega) hO hW a
  rw [eb1]
  show tV (kBi (f_Red_giveLast N a ((nI b1 - 1) - f_Red_majorPlace (nI o) α) (fR_cut α 14 0)) _) _ _
  rw [emp, cut0 h (by decide)]
  have h1 : tT K (kSl α 14 []) := h.sl (by decide) (Nat.zero_le _)
  have w1 : wk α (kSl α 14 []) := ch.rs (by decide)
  have s1 : sT α (kSl α 14 []) := ⟨rfl, rfl⟩
  -- how many stand behind the MAJOR
  have hk1 : ∃ k1, ((nI b1 - 1) - nI mp ≤ 0 ∧ k1 = 0 ∨ (nI b1 - 1) - nI mp = nI k1) ∧ k1 ≤ b1 ∧ (b1 ≤ mp ∧ k1 = 0 ∨ k1 + mp + 1 = b1) := by
    rcases Nat.lt_or_ge mp b1 with y | y
    · refine ⟨b1 - 1 - mp, Or.inr ?_, by omega, Or.inr (by omega)⟩
      rw [show nI b1 - 1 = nI (b1 - 1) from pk_sub (a := b1) (b := 1) (by omega), pk_sub (a := b1 - 1) (b := mp) (by omega)]
    · refine ⟨0, Or.inl ⟨?_, rfl⟩, by omega, Or.inl ⟨y, rfl⟩⟩
      rw [Int32.le_iff_toInt_le, Int32.toInt_sub, Int32.toInt_sub, nI_toInt (by omega), nI_toInt (by omega)]
      show (((b1 : Int) - 1).bmod (2 ^ 32) - (mp : Int)).bmod (2 ^ 32) ≤ 0
      rw [Int.bmod_eq_of_le (n := (b1 : Int) - 1) (by omega) (by omega), Int.bmod_eq_of_le (by omega) (by omega)]
      omega
  obtain ⟨k1, hk1, hk1b, hk1c⟩ := hk1
  obtain ⟨γ, l, e, g1, g2, g3, g4, g5, g6⟩ := giveLast_ok (N := N) (k := k1) hN (p := a) h1 hk1 (by omega) ((s1.ap k1 a).mpr (aP_le b1 k1 ab1 hk1b)) (by show 0 + k1 ≤ 2048; omega)
  rw [e]
  show tV (f_Red_whnfMajor_198 N N (f_Env_fact (nI o) 4 γ) (spn (kSl α 14 []) k1 a) (nI te) (nI k) p r γ) _ _
  have c1 : wk α γ := w1.tr (g2.mo (by decide) (by decide))
  have heγ : eI c K m γ := he.ch c1 (by decide) (by decide)
  have f4' : f_Env_fact (nI o) 4 γ = nI pi := by
    obtain ⟨-, pi', -, -, -, f4', -⟩ := counts_v g1 heγ (k := o) (by omega)
    rw [← f4]
    unfold f_Env_fact fR_at
    rw [c1.row (by decide) (by decide)]
  obtain ⟨n', en⟩ := maj_go (N := N) (x7 := nI te) (x6 := nI k) (x3 := p) (x2 := r) (β := γ) pi N (spn (kSl α 14 []) k1 a) (by omega) (by omega)
  rw [f4', en, f_Red_whnfMajor_198, if_pos (by decide)]
  have s2 : sT α γ := s1.tr g3
  have r14 : γ.2.1 14 = l := g4
  obtain ⟨γ2, l2, e2, y1, y2, y3, y4, y5, y6⟩ := giveLast_ok (N := N) (k := te) hN (p := r) (x := nI te) g1 (Or.inr rfl) (by omega) ((s2.ap te r).mpr (aP_le b8 te ab8 (by omega))) (by rw [r14]; omega)
  rw [e2, kBi_s]
  have esp : spn γ (pi + 1) (spn (kSl α 14 []) k1 a) = spn α (pi + 1) (spn α k1 a) := by rw [s2.sp, s1.sp]
  rw [esp]
  have s3 : sT α γ2 := s2.tr y3
  obtain ⟨b3, eb3, hb3, ab3⟩ := behind_sz (N := N) (by omega) y1.1.1 y1.2.1 (spn α (pi + 1) (spn α k1 a))
  rw [eb3]
  have ab3' : aP α b3 (spn α (pi + 1) (spn α k1 a)) := (s3.ap b3 _).mp ab3
  have hsum : k1 + b3 ≤ 1500 := by
    rcases hk1c with y | y
    · omega
    · have q1 : aP α (k1 + (pi + 1)) a := aP_le b1 _ ab1 (by omega)
      rw [← spn_add k1] at ab3'
      obtain ⟨ja, rfl, hja⟩ := hqa
      have := aP_sz hO hW _ ja hja.1 (aP_add (k1 + (pi + 1)) q1 ab3')
      have := (hW ja hja.1).2.1.2
      omega
  obtain ⟨γ3, l3, e3, z1, z2, z3, z4, z5, z6⟩ := giveLast_ok (N := N) (k := b3) hN (p := spn α (pi + 1) (spn α k1 a)) (x := nI b3) y1 (Or.inr rfl) (by omega) ab3 (by rw [y4, r14, List.length_append]; omega)
  show tV (kBi (f_Red_giveLast N (spn α (pi + 1) (spn α k1 a)) (nI b3) γ2) _) _ _
  rw [e3, kBi_s]
  have c2 : wk α γ2 := c1.tr (y2.mo (by decide) (by decide))
  have c3' : wk α γ3 := c2.tr (z2.mo (by decide) (by decide))
  have v3 : vw γ3 ((nI 2, a, b, t, nI dd) :: fs) ty r := ((show vw (kSl α 14 []) ((nI 2, a, b, t, nI dd) :: fs) ty r from ⟨v.1, v.2.1, v.2.2⟩).ch g2 (by decide) (by decide) (by decide)).ch y2 (by decide) (by decide) (by decide) |>.ch z2 (by decide) (by decide) (by decide)
  obtain ⟨ε, e4, u1, u2, u3⟩ := set0 z1 v3 1
  rw [e4]
  have c4 : wk α ε := c3'.tr u2
  have heε : eI c K m ε := he.ch c4 (by decide) (by decide)
  obtain ⟨tt, ett, qtt⟩ := elim_v u1 heε (k := k) (by omega) (by have := c4.2.2.1; omega)
  rw [ett]
  have r14' : ε.2.1 14 = l ++ l2 ++ l3 := by
    have : ε.2.1 14 = γ3.2.1 14 := by rw [← e4]; unfold f_Fra_set fR_put; split <;> rfl
    rw [this, z4, y4, r14]
  have hQ : aQ ε (l ++ l2 ++ l3) := by
    intro x hx
    have w23 : wk γ2 γ3 := z2.mo (by decide) (by decide)
    have w12 : wk γ γ2 := y2.mo (by decide) (by decide)
    rcases List.mem_append.mp hx with hx | hx
    · rcases List.mem_append.mp hx with hx | hx
      · exact (g6.1 x hx).g ((w12.tr w23).tr u2).2.2
      · exact (y6.1 x hx).g (w23.tr u2).2.2
    · exact (z6.1 x hx).g u2.2.2
  refine (rewrite_w (L := []) (m' := 5) (by omega) u1 (by decide) qtt.1 (fun y => absurd y (by decide)) (fun y => absurd y (by decide))).bv (fun x β q => ?_) (fun β q => ⟨q.1, c4.tr (q.2.mo (by decide) (by decide))⟩)
  obtain ⟨q1, q2, j2, rfl, q3, q4, -, q5⟩ := q
  have q2' : wk ε β := q2.mo (by decide) (by decide)
  refine (given_ok hN h (by omega) hh hl hs ht0 q1 (c4.tr q2') (u3.ch q2 (by decide) (by decide) (by decide)) ?_ ⟨j2, rfl, q3, fun y => qtt.2 (q4.mp y)⟩ (fun l => ?_)).bv (fun β q => tV.ret q) (fun β q => q)
  · rw [q2.row (by decide) (by decide), r14']
    exact hQ.g q2.2.2
  · obtain ⟨-, ⟨m0, nm⟩, ⟨fa, -, kk, qm, m1, m2, m3, m4, m5⟩, lv0, fr⟩ := l
    have fr : FP α (vc fs) r := fr hg1
    refine ⟨lv0, ⟨j2, rfl, q3, q5 _ _ (Or.inr (Or.inl ⟨rfl, rfl⟩)) ?_⟩, ?_⟩
    · have := elim_f (y := vc fs) u1 heε (k := k) (by omega) m0 (nm.g he.2.2.2.1 c4.2.2)
      rw [ett] at this
      exact this.fl u1.1.1 qtt.1
    · -- the spine is long enough
      obtain ⟨bh, eh2, ah2, nh2⟩ := head_go (N := N) (α := α) 3000 0 N a (by omega) (by omega)
      have e3 : some p = some (spn α bh a) := eh.symm.trans eh2
      injection e3 with e3
      obtain ⟨ja, eja, hja⟩ := hqa
      have sa := (hW ja hja.1).2.1.2
      have bsz := aP_sz hO hW bh ja hja.1 (by rw [← eja]; exact ah2)
      have kh : bh = kk := Nat.le_antisymm (aP_max kk bh m2 (by rw [m3]; decide) ah2) (aP_max bh kk ah2 (nh2 (by omega)) m2)
      subst kh
      have emq : qm = mp := by
        rw [← e3, ← cf, emp] at m4
        exact ((nI_eq (by omega) (by omega)).mp m4).symm
      subst emq
      obtain ⟨b1', eb1', -, ab1', nb1⟩ := behind_go (N := N) (α := α) 3000 0 N a (by omega) (by omega)
      have e4 : some (nI b1) = some (nI (0 + b1')) := eb1.symm.trans eb1'
      injection e4 with e4
      have b1z := aP_sz hO hW b1' ja hja.1 (by rw [← eja]; exact ab1')
      have e5 : b1 = b1' := by
        have := (nI_eq (by omega) (by omega)).mp e4
        omega
      subst e5
      have lb : qm + 1 ≤ b1 := aP_max b1 (qm + 1) ab1 (nb1 (by omega)) m1
      have hk3 : k1 + qm + 1 = b1 := hk1c.resolve_left fun y => by omega
      have ar : FP α (vc fs) (spn α (pi + 1) (spn α k1 a)) := by
        rw [← spn_add k1]
        exact FP_spn hO hW _ (aP_le b1 _ ab1 (by omega)) fa
      rw [q2.row (by decide) (by decide), r14']
      have w23 : wk γ2 γ3 := z2.mo (by decide) (by decide)
      have w12 : wk γ γ2 := y2.mo (by decide) (by decide)
      have t1 : grw ε β := q2.2.2
      intro x hx
      rcases List.mem_append.mp hx with hx | hx
      · rcases List.mem_append.mp hx with hx | hx
        · exact (g6.2 _ (fa.g hO hW w1.2.2) x hx).g g1.1.1 g1.2.1 (((w12.tr w23).tr u2).2.2.tr t1)
        · exact (y6.2 _ (fr.g hO hW c1.2.2) x hx).g y1.1.1 y1.2.1 ((w23.tr u2).2.2.tr t1)
      · exact (z6.2 _ (ar.g hO hW c2.2.2) x hx).g z1.1.1 z1.2.1 (u2.2.2.tr t1)
end MAJOR
