-- heads, ruleOf: the rule of a CONSTRUCTOR
def MF (W : Nat → Prop) (s t : Nat) (α : mS) (nv cv np many : Nat) (P M : Nat → Nat) : Prop := ∀ j, j < many → α.2 42 j = nI (M j) ∧ VT W s t α nv 1000000 797 (fun v => v = cv ∨ ml P 0 np v) (M j)
section RULE
variable {N : Nat} {W : Nat → Prop} {s Lc : Nat} {Lr : Nat → Prop} {w t0 t1 nv nv1 U U1 nq : Nat} {S S' : Nat → Prop} {α β : mS}
theorem MF.qw {cv np many : Nat} {P M : Nat → Nat} (h : MF W s t0 α nv cv np many P M) (hP : PO W s Lc Lr t0 α) (g : QW W s Lc Lr w t0 α nv U t1 nv1 β) : MF W s t1 β nv1 cv np many P M := fun j hj => by
  obtain ⟨a, b⟩ := h j hj
  exact ⟨by rw [g.2.1.arr (by decide)]; exact a, b.qw hP g⟩
theorem LL.push {ℓ : Nat} {L : Nat → Nat} {X : Int32} (h : LL α ℓ L) (h30 : β.1 30 = nI (ℓ + 1)) (h41 : β.2 41 = upd (α.2 41) ℓ X) (hX : X = nI (L ℓ)) : LL β (ℓ + 1) L := ⟨h30, fun i hi => by
  rw [h41]
  rcases Nat.lt_or_ge i ℓ with y | y
  · rw [upd_ne (by omega)]; exact h.2 i y
  · have el : i = ℓ := by omega
    rw [el, upd_at, hX]⟩
theorem he_63 {np many : Nat} {M L : Nat → Nat} (hp : np ≤ 199) (hm3 : many ≤ 300) (hLM : ∀ j, j < many → L (np + 1 + j) = M j) : ∀ (d j nn t0 : Nat) (α : mS), j + d = many → d < nn → MV W s Lc Lr U t0 α w nv → LL α (np + 1 + j) L → (∀ j, j < many → α.2 42 j = nI (M j)) → ∃ β, f_Mod_heads_63 N nn (nI j) (nI many) α = some (some none, β) ∧ QW W s Lc Lr w t0 α nv U t0 nv β ∧ mch [30] [41] α β ∧ LL β (np + 1 + many) L
  | 0, j, nn, t0, α, hd, hm, h, hl, hM => by
    obtain ⟨nn, rfl⟩ : ∃ n', nn = n' + 1 := ⟨nn - 1, by omega⟩
    have ej : j = many := by omega
    subst ej
    rw [f_Mod_heads_63, if_pos (nI_le (by omega) (by omega))]
    exact ⟨α, rfl, QW.rf h, mch.rf, hl⟩
  | d + 1, j, nn, t0, α, hd, hm, h, hl, hM => by
    obtain ⟨nn, rfl⟩ : ∃ n', nn = n' + 1 := ⟨nn - 1, by omega⟩
    obtain ⟨γ, eγ, p1, p2, p3, p4, p5⟩ := push_q (X := α.2 42 j) h hl.1 (by omega)
    rw [f_Mod_heads_63, if_neg (nI_ge (by omega) (by omega)), nI_clamp (show j < 2 ^ 31 by omega), if_neg (mix' (show j < 301 by omega) (by decide)), if_neg p1, nI_1]
    show ∃ β, f_Mod_heads_63 N nn (nI (j + 1)) (nI many) (mSA (mSi α 30 (α.1 30 + 1)) 41 (upd ((mSi α 30 (α.1 30 + 1)).2 41) (α.1 30).toNatClampNeg (α.2 42 j))) = _ ∧ _
    rw [eγ]
    obtain ⟨β, e1, b1, b2, b3⟩ := he_63 hp hm3 hLM d (j + 1) nn t0 γ (by omega) (by omega) p3.mv (hl.push p4 p5 (by rw [hLM j (by omega)]; exact hM j (by omega))) (fun j hj => by rw [p2.arr (by decide)]; exact hM j hj)
    exact ⟨β, e1, p3.tr b1, p2.tr b2, b3⟩
theorem he_3 {np many c cv : Nat} {P M L : Nat → Nat} (hN : 400000 < N) (hp : np ≤ 199) (hm3 : many ≤ 300) (hLP : ∀ i, i < np → L i = P i) (hLc : L np = cv) (hLM : ∀ j, j < many → L (np + 1 + j) = M j) : ∀ (d i nn t0 : Nat) (α : mS), i + d = np → d < nn → MV W s Lc Lr U t0 α w nv → LL α i L → (∀ i, i < np → α.2 33 i = nI (P i)) → vd W s t0 c → α.2 3 c = nI cv → (∀ j, j < many → α.2 42 j = nI (M j)) → ∃ β, f_Mod_heads_3 N nn (nI i) (nI np) (nI c) (nI many) α = some (some none, β) ∧ QW W s Lc Lr w t0 α nv U t0 nv β ∧ mch [30] [41] α β ∧ LL β (np + 1 + many) L
  | 0, i, nn, t0, α, hd, hm, h, hl, hP, hc, hcv, hM => by
    obtain ⟨nn, rfl⟩ : ∃ n', nn = n' + 1 := ⟨nn - 1, by omega⟩
    have ei : i = np := by omega
    subst ei
    have hW := h.1.2.2.2
    obtain ⟨γ, eγ, p1, p2, p3, p4, p5⟩ := push_q (X := α.2 3 c) h hl.1 (by omega)
    rw [f_Mod_heads_3, if_pos (nI_le (by omega) (by omega)), hW.cl hc, if_neg (hW.ix hc), if_neg p1]
    show ∃ β, f_Mod_heads_63 N N (nI 0) (nI many) (mSA (mSi α 30 (α.1 30 + 1)) 41 (upd ((mSi α 30 (α.1 30 + 1)).2 41) (α.1 30).toNatClampNeg (α.2 3 c))) = _ ∧ _
    rw [eγ]
    obtain ⟨β, e1, b1, b2, b3⟩ := he_63 (np := i) (N := N) hp hm3 hLM many 0 N t0 γ (by omega) (by omega) p3.mv (hl.push p4 p5 (by rw [hLc]; exact hcv)) (fun j hj => by rw [p2.arr (by decide)]; exact hM j hj)
    exact ⟨β, e1, p3.tr b1, p2.tr b2, b3⟩
  | d + 1, i, nn, t0, α, hd, hm, h, hl, hP, hc, hcv, hM => by
    obtain ⟨nn, rfl⟩ : ∃ n', nn = n' + 1 := ⟨nn - 1, by omega⟩
    obtain ⟨γ, eγ, p1, p2, p3, p4, p5⟩ := push_q (X := α.2 33 i) h hl.1 (by omega)
    rw [f_Mod_heads_3, if_neg (nI_ge (by omega) (by omega)), nI_clamp (show i < 2 ^ 31 by omega), if_neg (mix' (show i < 5000 by omega) (by decide)), if_neg p1, nI_1]
    show ∃ β, f_Mod_heads_3 N nn (nI (i + 1)) (nI np) (nI c) (nI many) (mSA (mSi α 30 (α.1 30 + 1)) 41 (upd ((mSi α 30 (α.1 30 + 1)).2 41) (α.1 30).toNatClampNeg (α.2 33 i))) = _ ∧ _
    rw [eγ]
    obtain ⟨β, e1, b1, b2, b3⟩ := he_3 hN hp hm3 hLP hLc hLM d (i + 1) nn t0 γ (by omega) (by omega) p3.mv (hl.push p4 p5 (by rw [hLP i (by omega)]; exact hP i (by omega))) (fun i hi => by rw [p2.arr (by decide)]; exact hP i hi) hc (by rw [p2.arr (by decide)]; exact hcv) (fun j hj => by rw [p2.arr (by decide)]; exact hM j hj)
    exact ⟨β, e1, p3.tr b1, p2.tr b2, b3⟩
/-- heads, from the empty list -/
theorem heads_m {np many c cv : Nat} {P M L : Nat → Nat} (hN : 400000 < N) (hp : np ≤ 199) (hm3 : many ≤ 300) (hLP : ∀ i, i < np → L i = P i) (hLc : L np = cv) (hLM : ∀ j, j < many → L (np + 1 + j) = M j) (h : MV W s Lc Lr U t0 α w nv) (hP : ∀ i, i < np → α.2 33 i = nI (P i)) (hc : vd W s t0 c) (hcv : α.2 3 c = nI cv) (hM : ∀ j, j < many → α.2 42 j = nI (M j)) : ∃ β, f_Mod_heads N (nI np) (nI c) (nI many) (mSi α 30 0) = some (some none, β) ∧ QW W s Lc Lr w t0 α nv U t0 nv β ∧ mch [30] [41] α β ∧ LL β (np + 1 + many) L := by
  obtain ⟨ε, eε⟩ : ∃ ε, ε = mSi α 30 0 := ⟨_, rfl⟩
  rw [← eε]
  have ce : mch [30] [] α ε := by rw [eε]; exact mch.si (by decide)
  have se : ∀ V : Nat → Prop, sN V α ε := fun V => sN.ch ce (fun r _ _ z => by cases z)
  have q4 : QW W s Lc Lr w t0 α nv U t0 nv ε := ⟨Nat.le_refl _, ce.mo (by decide) (fun r z => by cases z), se _, ⟨h.1.sn ce (by decide) (se _), by rw [eε]; exact h.2⟩, Nat.le_refl _, fun i _ => by rw [ce.arr (fun z => by cases z)]⟩
  unfold f_Mod_heads
  have aa : ∀ r, ε.2 r = α.2 r := fun r => ce.arr (fun z => by cases z)
  obtain ⟨β, e1, b1, b2, b3⟩ := he_3 (N := N) hN hp hm3 hLP hLc hLM np 0 N t0 ε (by omega) (by omega) q4.mv ⟨by rw [eε]; rfl, fun i hi => by omega⟩ (fun i hi => by rw [aa]; exact hP i hi) hc (by rw [aa]; exact hcv) (fun j hj => by rw [aa]; exact hM j hj)
  exact ⟨β, e1, q4.tr b1, (ce.mo (fun _ z => z) (fun r z => by cases z)).tr b2, b3⟩
theorem LF.ww {ℓ D : Nat} {L : Nat → Nat} {Si : Nat → Nat → Prop} (h : LF W s t0 α nv ℓ L D Si) (hP : PO W s Lc Lr t0 α) (g : QW W s Lc Lr w t0 α nv U t1 nv1 β) (h30 : β.1 30 = nI ℓ) (h41 : ∀ i, i < ℓ → β.2 41 i = α.2 41 i) : LF W s t1 β nv1 ℓ L D Si :=
  ⟨h30, fun i hi => by
    obtain ⟨a, B, b⟩ := h.2 i hi
    exact ⟨by rw [h41 i hi]; exact a, B, b.qw hP g⟩⟩
theorem ru_239 {np q' ed st x i fr a c v0 K xx : Nat} {y8 y1 y6 : Int32} {SL Sa : Nat → Prop} {k129 : Int32 → Int32 → Int32 → Int32 → Int32 → Int32 → Int32 → Int32 → Int32 → mS → Option (kO × mS)} {k204 : Int32 → Int32 → Int32 → Int32 → Int32 → Int32 → Int32 → Int32 → Int32 → Int32 → Int32 → Int32 → Int32 → mS → Option (kO × mS)} {Pi : Int32 → mS → Prop} {Px : mS → Prop} (hN : 400000 < N) (hn : nrm W s) (hnq : np + q' = nq) (hq : nq ≤ 199) (hK : K ≤ 600) (hx : x ≤ 199) (hst : st + x < 9000) (ha : a < 66000) (hSa : SL a) (hSS : ∀ v, Sa v → SL v) (hfr : fr + i < 4000) : ∀ (d zz y nn t0 : Nat) (α : mS), zz + d = nq → np ≤ zz → d < nn → MV W s Lc Lr U t0 α w nv → α.1 30 = nI (st + x) → α.1 31 = nI x → α.2 38 (fr + i) = nI a → TM W s t0 α 3000 200 (fun v => SL v ∨ v0 ≤ v ∧ v < v0 + x) ed → apn α nq ed → TM W s t0 α (3000 + K + (zz - np)) 200 (fun v => SL v ∨ v0 ≤ v ∧ v < v0 + x) y → TM W s t0 α (4000 + i) 400 SL xx → (∀ l, l < x → α.2 41 (st + l) = nI (v0 + l) ∧ VT W s t0 α nv 1000000 200 (fun v => Sa v ∨ v0 ≤ v ∧ v < v0 + l) (v0 + l)) → (∀ t1 β r, QW W s Lc Lr w t0 α nv U t1 nv β → β.1 30 = nI st → (∀ i, i < st → β.2 41 i = α.2 41 i) → TM W s t1 β (4000 + (i + 1)) 400 SL r → rI (k129 (nI (i + 1)) (nI r) y8 (nI fr) y1 (nI np) (nI q') (nI c) y6 β) Pi Px) → (∀ β, XV W s t0 α β → Px β) → rI (f_Mod_ruleOf_239 N k129 k204 nn (nI zz) (nI y) (nI ed) (nI st) (nI i) (nI xx) y8 (nI fr) y1 (nI np) (nI q') (nI c) y6 α) Pi Px
  | 0, zz, y, nn, t0, α, hd, hz, hm, h, h30, h31, h38, hed, hap, hy, hxx, hL, hk, hX => by
    obtain ⟨nn, rfl⟩ : ∃ n', nn = n' + 1 := ⟨nn - 1, by omega⟩
    have ez : zz = nq := by omega
    subst ez
    rw [f_Mod_ruleOf_239, nI_add, hnq, if_pos (nI_le (by omega) (by omega)), nI_add, nI_clamp (show fr + i < 2 ^ 31 by omega), h38]
    refine rI.ix (mix' hfr (by decide)) ?_
    have vl : ∀ l, l < x → v0 + l < 66000 := fun l hl => (hL l hl).2.1.2
    refine (app2_ok (L := fun l => v0 + (l - st)) (S := fun v => SL v ∨ v0 ≤ v ∧ v < v0 + x) hN hn (by omega) (Nat.le_add_left x st) h h30 h31 ⟨ha, Or.inl hSa⟩ (fun l l1 l2 => ?_)).bi (fun v β g => ?_) hX
    · have := (hL (l - st) (by omega)).1
      rw [show st + (l - st) = l by omega] at this
      exact ⟨this, vl _ (by omega), Or.inr ⟨by omega, by omega⟩⟩
    obtain ⟨r, t1, rfl, g1, g2⟩ := g
    refine (appl_v (q := 4000) (D := 200) hn g1.mv (hy.qw h.1 g1.1) g2 (by omega) (by omega)).bi (fun v γ u => ?_) (fun γ u => hX _ (g1.1.tx u))
    obtain ⟨r2, t2, rfl, u1, u2⟩ := u
    have q2 := g1.tr u1
    refine (chain_ok' (ℓ := st + x) (k := 7) (f := st) (L := fun l => v0 + (l - st)) (Si := fun l v => Sa v ∨ v0 ≤ v ∧ v < v0 + (l - st)) (S := SL) hN hn (Or.inr rfl) (Nat.le_refl _) (by decide) (by decide) (by omega) (by omega) (fun l l1 l2 v z => ?_) (fun v z => ?_) u1.mv (q2.2.1.trans h30) (fun l l1 l2 => ?_) (fun l l1 l2 => ?_) u2).bi (fun v δ z => ?_) (fun δ z => hX _ (q2.1.tx z))
    · rcases z with z | z
      · exact Or.inl (hSS v z)
      · exact Or.inr ⟨st + (v - v0), by omega, by omega, by show v0 + (st + (v - v0) - st) = v; omega⟩
    · rcases z with z | z
      · exact Or.inl z
      · exact Or.inr ⟨st + (v - v0), by omega, by omega, by show v0 + (st + (v - v0) - st) = v; omega⟩
    · rw [q2.2.2.2]
      have := (hL (l - st) (by omega)).1
      rw [show st + (l - st) = l by omega] at this
      exact this
    · exact ⟨_, (hL (l - st) (by omega)).2.qw h.1 q2.1⟩
    obtain ⟨r3, t3, rfl, z1, z2, z3, z4⟩ := z
    have q3 := q2.1.tr z1
    refine (appl_v (q := 4000 + (i + 1)) (D := 400) hn z1.mv (hxx.qw h.1 q3) z2 (by omega) (by omega)).bi (fun v ε o => ?_) (fun δ z => hX _ (q3.tx z))
    obtain ⟨r4, t4, rfl, o1, o2⟩ := o
    rw [nI_1]
    exact hk t4 ε r4 (q3.tr o1.1) (o1.2.1.trans z3) (fun i hi => by rw [o1.2.2.2, z4, q2.2.2.2]) o2
  | d + 1, zz, y, nn, t0, α, hd, hz, hm, h, h30, h31, h38, hed, hap, hy, hxx, hL, hk, hX => by
    obtain ⟨nn, rfl⟩ : ∃ n', nn = n' + 1 := ⟨nn - 1, by omega⟩
    rw [f_Mod_ruleOf_239, nI_add, hnq, if_neg (nI_ge (by omega) (by omega))]
    obtain ⟨r, er, tr⟩ := nth_v (D := 199) hN h.1 hed hap (show zz < nq by omega)
    refine rI.ob er ((appl_v (q := 3000 + K + (zz + 1 - np)) (D := 200) hn h hy tr (by omega) (by omega)).bi (fun v β g => ?_) hX)
    obtain ⟨r1, t1, rfl, g1, g2⟩ := g
    rw [nI_1]
    refine ru_239 hN hn hnq hq hK hx hst ha hSa hSS hfr d (zz + 1) r1 nn t1 β (by omega) (by omega) (by omega) g1.mv (g1.2.1.trans h30) (g1.2.2.1.trans h31) (by rw [g1.1.2.1.arr (by decide)]; exact h38) (hed.qw h.1 g1.1) (apn_sn h.1.2.2.2 g1.1.2.2.1 hed.1 hap) g2 (hxx.qw h.1 g1.1) (fun l hl => ?_) (fun t2 γ r u1 u2 u3 u4 => ?_) (fun γ u => hX γ (g1.1.tx u))
    · obtain ⟨l1, l2⟩ := hL l hl
      exact ⟨by rw [g1.2.2.2]; exact l1, l2.qw h.1 g1.1⟩
    · exact hk t2 γ r (g1.1.tr u1) u2 (fun i hi => by rw [u3 i hi, g1.2.2.2]) u4
theorem ru_204 {np q' ed st x i fr a c v0 xx many cv : Nat} {P M : Nat → Nat} {y8 y1 : Int32} {SL Sa : Nat → Prop} {k129 : Int32 → Int32 → Int32 → Int32 → Int32 → Int32 → Int32 → Int32 → Int32 → mS → Option (kO × mS)} {Pi : Int32 → mS → Prop} {Px : mS → Prop} (hN : 400000 < N) (hn : nrm W s) (hnq : np + q' = nq) (hq : nq ≤ 199) (hm3 : many ≤ 300) (hx : x ≤ 199) (hst : st + x < 9000) (ha : a < 66000) (hSa : SL a) (hSM : ∀ j, j < many → SL (M j)) (hSS : ∀ v, Sa v → SL v) (hfr : fr + i < 4000) : ∀ (d zz y nn t0 : Nat) (α : mS), zz + d = many → d < nn → MV W s Lc Lr U t0 α w nv → α.1 30 = nI (st + x) → α.1 31 = nI x → α.2 38 (fr + i) = nI a → MF W s t0 α nv cv np many P M → TM W s t0 α 3000 200 (fun v => SL v ∨ v0 ≤ v ∧ v < v0 + x) ed → apn α nq ed → TM W s t0 α (3000 + (np + 1 + zz)) 200 (fun v => SL v ∨ v0 ≤ v ∧ v < v0 + x) y → TM W s t0 α (4000 + i) 400 SL xx → (∀ l, l < x → α.2 41 (st + l) = nI (v0 + l) ∧ VT W s t0 α nv 1000000 200 (fun v => Sa v ∨ v0 ≤ v ∧ v < v0 + l) (v0 + l)) → (∀ t1 β r, QW W s Lc Lr w t0 α nv U t1 nv β → β.1 30 = nI st → (∀ i, i < st → β.2 41 i = α.2 41 i) → TM W s t1 β (4000 + (i + 1)) 400 SL r → rI (k129 (nI (i + 1)) (nI r) y8 (nI fr) y1 (nI np) (nI q') (nI c) (nI many) β) Pi Px) → (∀ β, XV W s t0 α β → Px β) → rI (f_Mod_ruleOf_204 N k129 nn (nI zz) (nI y) (nI ed) (nI st) (nI i) (nI xx) y8 (nI fr) y1 (nI np) (nI q') (nI c) (nI many) α) Pi Px
  | 0, zz, y, nn, t0, α, hd, hm, h, h30, h31, h38, hM, hed, hap, hy, hxx, hL, hk, hX => by
    obtain ⟨nn, rfl⟩ : ∃ n', nn = n' + 1 := ⟨nn - 1, by omega⟩
    rw [f_Mod_ruleOf_204, if_pos (nI_le (by omega) (by omega))]
    exact ru_239 (K := np + 1 + zz) hN hn hnq hq (by omega) hx hst ha hSa hSS hfr q' np y N t0 α hnq (Nat.le_refl _) (by omega) h h30 h31 h38 hed hap (hy.su (by omega) (Nat.le_refl _) (fun _ z => z)) hxx hL hk hX
  | d + 1, zz, y, nn, t0, α, hd, hm, h, h30, h31, h38, hM, hed, hap, hy, hxx, hL, hk, hX => by
    obtain ⟨nn, rfl⟩ : ∃ n', nn = n' + 1 := ⟨nn - 1, by omega⟩
    obtain ⟨m1, m2⟩ := hM zz (by omega)
    rw [f_Mod_ruleOf_204, if_neg (nI_ge (by omega) (by omega)), nI_clamp (show zz < 2 ^ 31 by omega), m1]
    refine rI.ix (mix' (show zz < 301 by omega) (by decide)) ((free_v (S := fun v => SL v ∨ v0 ≤ v ∧ v < v0 + x) hn h m2.1.2 (Or.inl (hSM zz (by omega)))).bi (fun v β g => ?_) hX)
    obtain ⟨r, t1, rfl, g1, -, g2⟩ := g
    refine (appl_v (q := 3000 + (np + 1 + (zz + 1))) (D := 200) hn g1.mv (hy.qw h.1 g1.1) g2 (by omega) (by omega)).bi (fun v γ u => ?_) (fun γ u => hX _ (g1.1.tx u))
    obtain ⟨r2, t2, rfl, u1, u2⟩ := u
    have q2 := g1.tr u1
    rw [nI_1]
    refine ru_204 hN hn hnq hq hm3 hx hst ha hSa hSM hSS hfr d (zz + 1) r2 nn t2 γ (by omega) (by omega) u1.mv (q2.2.1.trans h30) (q2.2.2.1.trans h31) (by rw [q2.1.2.1.arr (by decide)]; exact h38) (hM.qw h.1 q2.1) (hed.qw h.1 q2.1) (apn_sn h.1.2.2.2 q2.1.2.2.1 hed.1 hap) u2 (hxx.qw h.1 q2.1) (fun l hl => ?_) (fun t3 δ r z1 z2 z3 z4 => ?_) (fun δ z => hX δ (q2.1.tx z))
    · obtain ⟨l1, l2⟩ := hL l hl
      exact ⟨by rw [q2.2.2.2]; exact l1, l2.qw h.1 q2.1⟩
    · exact hk t3 δ r (q2.1.tr z1) z2 (fun i hi => by rw [z3 i hi, q2.2.2.2]) z4
theorem ru_129 {k j f m cv np q' e c many ℓ U0 : Nat} {P G M z L : Nat → Nat} (hN : 400000 < N) (hn : nrm W s) (hnq : np + q' = nq) (hq9 : nq ≤ 199) (hm3 : many ≤ 300) (hk3 : k < 301) (hkr : Lr k) (hℓ : ℓ ≤ 800) (hLP : ∀ i, i < np → ∃ j, j < ℓ ∧ L j = P i) (hLc : ∃ j, j < ℓ ∧ L j = cv) (hLM : ∀ i, i < many → ∃ j, j < ℓ ∧ L j = M i) (hLG : ∀ i, i < m → ∃ j, j < ℓ ∧ L j = G (f + i)) (hU6 : U0 + smf (fun i => hzf (z (f + i))) m ≤ 6000) : ∀ (d i xx nn t0 nv : Nat) (α : mS), i + d = m → d < nn → MV W s Lc Lr (U0 + smf (fun i => hzf (z (f + i))) i) t0 α w nv → LF W s t0 α nv ℓ L 797 (fun i v => ∃ j, j < i ∧ L j = v) → CF W s t0 α nv np nq k P G z j f m e → PF W s t0 α nv nq P → MF W s t0 α nv cv np many P M → TM W s t0 α 0 1 (fun v => v = cv) c → TM W s t0 α (4000 + i) 400 (fun v => ∃ j, j < ℓ ∧ L j = v) xx → rI (f_Mod_ruleOf_129 N nn (nI i) (nI xx) (nI m) (nI f) (nI k) (nI np) (nI q') (nI c) (nI many) α) (fun v β => ∃ r t1 nv1, v = nI r ∧ QW W s Lc Lr w t0 α nv (U0 + smf (fun i => hzf (z (f + i))) m) t1 nv1 β ∧ TM W s t1 β 5000 2000 (fun _ => False) r) (XV W s t0 α)
  | 0, i, xx, nn, t0, nv, α, hd, hm, h, hl, hc, hp, hM, hcv, hxx => by
    obtain ⟨nn, rfl⟩ : ∃ n', nn = n' + 1 := ⟨nn - 1, by omega⟩
    have ei : i = m := by omega
    subst ei
    have m9 := hc.2.2.1
    rw [f_Mod_ruleOf_129, if_pos (nI_le (by omega) (by omega))]
    refine (chain_ok' (ℓ := ℓ) (k := 7) (f := 0) (D := 797) (q := 5000) (L := L) (Si := fun i v => ∃ j, j < i ∧ L j = v) (S := fun _ => False) hN hn (Or.inr rfl) (by decide) (by decide) (by decide) (by omega) (Nat.zero_le _) (fun l l1 l2 v y => ?_) (fun v y => ?_) h hl.1 (fun l _ l2 => (hl.2 l l2).1) (fun l _ l2 => (hl.2 l l2).2) (hxx.su (by omega) (by decide) (fun _ z => z))).bi (fun v γ u => ?_) (fun γ u => u)
    · obtain ⟨j, y1, y2⟩ := y
      exact Or.inr ⟨j, Nat.zero_le _, y1, y2⟩
    · obtain ⟨j, y1, y2⟩ := y
      exact Or.inr ⟨j, Nat.zero_le _, y1, y2⟩
    obtain ⟨r2, t2, rfl, u1, u2, -⟩ := u
    exact rI.ret ⟨r2, t2, nv, rfl, u1, u2.su (Nat.le_refl _) (by omega) (fun _ z => z)⟩
  | d + 1, i, xx, nn, t0, nv, α, hd, hm, h, hl, hc, hp, hM, hcv, hxx => by
    obtain ⟨nn, rfl⟩ : ∃ n', nn = n' + 1 := ⟨nn - 1, by omega⟩
    have hc' := hc
    obtain ⟨c1, c2, c3, c4, -, c6⟩ := hc'
    obtain ⟨a1, a2, a3⟩ := c6 i (by omega)
    have sstep : smf (fun i => hzf (z (f + i))) (i + 1) = smf (fun i => hzf (z (f + i))) i + hzf (z (f + i)) := rfl
    have smono : smf (fun i => hzf (z (f + i))) (i + 1) ≤ smf (fun i => hzf (z (f + i))) m := smf_le (by omega)
    rw [f_Mod_ruleOf_129, if_neg (nI_ge (by omega) (by omega)), nI_add, nI_clamp (show f + i < 2 ^ 31 by omega)]
    have ix := mix' (show f + i < 4000 by omega) (by decide)
    refine rI.ix ix (rI.ite (fun _ => ?_) fun ne => rI.ix ix ?_)
    · rw [nI_1]
      exact ru_129 hN hn hnq hq9 hm3 hk3 hkr hℓ hLP hLc hLM hLG hU6 d (i + 1) xx nn t0 nv α (by omega) (by omega) (h.up (by omega)) hl hc hp hM hcv (hxx.su (by omega) (Nat.le_refl _) (fun _ z => z))
    · obtain ⟨⟨b1, b2⟩, ty, b3, b4, b5, b6⟩ := a2
      obtain ⟨x, fx⟩ := b6 ne
      have sz := FEn.sz h.1.2.2.2 b4.1 fx (by omega)
      have hxz := hz_le sz.2 b5
      have x9 : x ≤ 199 := by have := b4.2.1; omega
      rw [a1, nI_clamp (show G (f + i) < 2 ^ 31 by omega), b3]
      refine rI.ix (mix' b2 (by decide)) ?_
      have hSS : ∀ v, SA np P G f i v → ∃ j, j < ℓ ∧ L j = v := fun v y => by
        rcases y with ⟨l, l1, l2, l3⟩ | ⟨l, l1, l2, l3⟩
        · rw [← l3]; exact hLP l l2
        · have := hLG (l - f) (by omega)
          rw [show f + (l - f) = l by omega, l3] at this
          exact this
      refine (ended_ok (x := x) (by decide) hN hn h hl.1 (by omega) (by omega) (by omega) fx b4).bi (fun v β g => ?_) (fun _ g => g)
      obtain ⟨ed, t1, rfl, g1, g2, g3, g4, g5, g6, g7⟩ := g
      -- the recursor with its parameters
      refine (leaf_v (k := 2) (S := fun v => (∃ j, j < ℓ ∧ L j = v) ∨ nv ≤ v ∧ v < nv + x) hn g1.mv (by decide) (fun z => absurd z (by decide)) (fun _ => ⟨k, rfl, hkr, by omega⟩) (fun z => absurd z (by decide)) (by decide)).bi (fun v γ u => ?_) (fun γ u => g1.tx u)
      obtain ⟨r0, t2, rfl, u1, -, u2⟩ := u
      have q2 := g1.tr u1.1
      refine (of_ok (f := 0) (P := P) (D := 200) (q := 0) (S := fun v => (∃ j, j < ℓ ∧ L j = v) ∨ nv ≤ v ∧ v < nv + x) hN hn (by decide) (by omega) u1.mv (fun l hl' => ?_) (u2.su (Nat.le_refl _) (by decide) (fun _ z => z))).bi (fun v δ o => ?_) (fun γ u => q2.tx u)
      · rw [Nat.zero_add, q2.2.1.arr (by decide)]
        obtain ⟨p1, p2⟩ := hp l (by omega)
        exact ⟨p1, p2.1.2, Or.inl (hLP l hl')⟩
      obtain ⟨r1, t3, rfl, o1, o2⟩ := o
      have q3 := q2.tr o1.1
      refine (appl_v (q := 3000 + (np + 1 + 0)) (D := 200) hn o1.mv o2 ((hcv.qw h.1 q3).su (Nat.le_refl _) (Nat.le_refl _) (fun v y => Or.inl (by rw [y]; exact hLc))) (by omega) (by omega)).bi (fun v ε y => ?_) (fun γ u => q3.tx u)
      obtain ⟨r2, t4, rfl, y1, y2⟩ := y
      have q4 := q3.tr y1.1
      have l13 : lsm β ε := u1.2.tr (o1.2.tr y1.2)
      rw [hl.1]
      have hLx : ∀ l, l < x → ε.2 41 (ℓ + l) = nI (nv + l) ∧ VT W s t4 ε (nv + x) 1000000 200 (fun v => SA np P G f i v ∨ nv ≤ v ∧ v < nv + l) (nv + l) := fun l hl' => by
        obtain ⟨l1, l2⟩ := g7 l hl'
        exact ⟨by rw [l13.2.2]; exact l1, l2.qw g1.mv.1 ((u1.1.tr o1.1).tr y1.1)⟩
      refine ru_204 (U := U0 + smf (fun i => hzf (z (f + i))) i + x) (a := G (f + i)) (SL := fun v => ∃ j, j < ℓ ∧ L j = v) (Sa := SA np P G f i) (v0 := nv) (nv := nv + x) (x := x) (cv := cv) (P := P) (M := M) hN hn hnq hq9 hm3 x9 (show ℓ + x < 9000 by omega) b2 (hLG i (by omega)) hLM hSS (show f + i < 4000 by omega) many 0 r2 N t4 ε (by omega) (by omega) y1.mv (l13.1.trans g4) (l13.2.1.trans g5) (by rw [q4.2.1.arr (by decide)]; exact a1) (hM.qw h.1 q4) ((g2.qw g1.mv.1 ((u1.1.tr o1.1).tr y1.1)).su (Nat.le_refl _) (Nat.le_refl _) (fun v y => y.imp (hSS v) id)) (apn_sn g1.mv.1.2.2.2 ((u1.1.tr o1.1).tr y1.1).2.2.1 g2.1 g3) y2 (hxx.qw h.1 q4) hLx (fun t5 ζ r3 z1 z2 z3 z4 => ?_) (fun γ u => q4.tx u)
      have q5 := q4.tr z1
      have hMV : MV W s Lc Lr (U0 + smf (fun i => hzf (z (f + i))) (i + 1)) t5 ζ w (nv + x) := z1.mv.up (by omega)
      refine (ru_129 hN hn hnq hq9 hm3 hk3 hkr hℓ hLP hLc hLM hLG hU6 d (i + 1) r3 nn t5 (nv + x) ζ (by omega) (by omega) hMV (hl.ww h.1 q5 z2 (fun l hl' => by rw [z3 l hl', l13.2.2, g6 l hl'])) (hc.qw h.1 q5) (hp.qw h.1 q5) (hM.qw h.1 q5) (hcv.qw h.1 q5) z4).mono (fun v δ z => ?_) (fun δ z => q5.tx z)
      obtain ⟨r3, t3, n3, e3, z1, z2⟩ := z
      exact ⟨r3, t3, n3, e3, q5.tr z1, z2⟩
/-- what stands while the rule of the CONSTRUCTOR j is made -/
def RX (W : Nat → Prop) (s t : Nat) (α : mS) (nv np nq k j f m e cv many c ℓ : Nat) (P G M z L : Nat → Nat) : Prop := LF W s t α nv ℓ L 797 (fun i v => ∃ j, j < i ∧ L j = v) ∧ CF W s t α nv np nq k P G z j f m e ∧ PF W s t α nv nq P ∧ MF W s t α nv cv np many P M ∧ TM W s t α 0 1 (fun v => v = cv) c
theorem RX.qv {np k j f m e cv many c ℓ : Nat} {P G M z L : Nat → Nat} (h : RX W s t0 α nv np nq k j f m e cv many c ℓ P G M z L) (hP : PO W s Lc Lr t0 α) (g : QV W s Lc Lr w t0 α nv U t1 nv1 β) : RX W s t1 β nv1 np nq k j f m e cv many c ℓ P G M z L := ⟨h.1.qv hP g, h.2.1.qw hP g.1, h.2.2.1.qw hP g.1, h.2.2.2.1.qw hP g.1, h.2.2.2.2.qw hP g.1⟩
theorem ru_91 {k j f m cv np q' e c many ℓ : Nat} {P G M z L : Nat → Nat} (hN : 400000 < N) (hn : nrm W s) (hnq : np + q' = nq) (hq9 : nq ≤ 199) (hm3 : many ≤ 300) (hk3 : k < 301) (hkr : Lr k) (hℓ : ℓ ≤ 800) (hLP : ∀ i, i < np → ∃ j, j < ℓ ∧ L j = P i) (hLc : ∃ j, j < ℓ ∧ L j = cv) (hLM : ∀ i, i < many → ∃ j, j < ℓ ∧ L j = M i) (hLG : ∀ i, i < m → ∃ j, j < ℓ ∧ L j = G (f + i)) (hU6 : U + smf (fun i => hzf (z (f + i))) m ≤ 6000) : ∀ (d i xx nn t0 : Nat) (α : mS), i + d = m → d < nn → MV W s Lc Lr U t0 α w nv → RX W s t0 α nv np nq k j f m e cv many c ℓ P G M z L → TM W s t0 α i 2 (fun v => ∃ j, j < ℓ ∧ L j = v) xx → rI (f_Mod_ruleOf_91 N nn (nI i) (nI xx) (nI m) (nI f) (nI k) (nI np) (nI q') (nI c) (nI many) α) (fun v β => ∃ r t1 nv1, v = nI r ∧ QW W s Lc Lr w t0 α nv (U + smf (fun i => hzf (z (f + i))) m) t1 nv1 β ∧ TM W s t1 β 5000 2000 (fun _ => False) r) (XV W s t0 α)
  | 0, i, xx, nn, t0, α, hd, hm, h, hr, hxx => by
    obtain ⟨nn, rfl⟩ : ∃ n', nn = n' + 1 := ⟨nn - 1, by omega⟩
    have m9 := hr.2.1.2.2.1
    rw [f_Mod_ruleOf_91, if_pos (nI_le (by omega) (by omega))]
    exact ru_129 (U0 := U) hN hn hnq hq9 hm3 hk3 hkr hℓ hLP hLc hLM hLG hU6 m 0 xx N t0 nv α (by omega) (by omega) h hr.1 hr.2.1 hr.2.2.1 hr.2.2.2.1 hr.2.2.2.2 (hxx.su (by omega) (by decide) (fun _ z => z))
  | d + 1, i, xx, nn, t0, α, hd, hm, h, hr, hxx => by
    obtain ⟨nn, rfl⟩ : ∃ n', nn = n' + 1 := ⟨nn - 1, by omega⟩
    obtain ⟨-, -, c3, c4, -, c6⟩ := hr.2.1
    obtain ⟨a1, a2, -⟩ := c6 i (by omega)
    rw [f_Mod_ruleOf_91, if_neg (nI_ge (by omega) (by omega)), nI_add, nI_clamp (show f + i < 2 ^ 31 by omega), a1]
    refine rI.ix (mix' (show f + i < 4000 by omega) (by decide)) ((free_v (S := fun v => ∃ j, j < ℓ ∧ L j = v) hn h a2.1.2 (hLG i (by omega))).bi (fun v β g => ?_) (fun _ g => g))
    obtain ⟨r, t1, rfl, g1, -, g2⟩ := g
    refine (appl_v (q := i + 1) (D := 2) hn g1.mv (hxx.qw h.1 g1.1) g2 (by omega) (by omega)).bi (fun v γ u => ?_) (fun γ u => g1.1.tx u)
    obtain ⟨r2, t2, rfl, u1, u2⟩ := u
    have q2 := g1.tr u1
    rw [nI_1]
    refine (ru_91 hN hn hnq hq9 hm3 hk3 hkr hℓ hLP hLc hLM hLG hU6 d (i + 1) r2 nn t2 γ (by omega) (by omega) u1.mv (hr.qv h.1 q2) u2).mono (fun v δ z => ?_) (fun δ z => q2.1.tx z)
    obtain ⟨r3, t3, n3, e3, z1, z2⟩ := z
    exact ⟨r3, t3, n3, e3, q2.1.tr z1, z2⟩
theorem ru_37 {f m K : Nat} {G L : Nat → Nat} {y1 y2 y3 y4 y5 y6 : Int32} (hm9 : m ≤ 199) (hK : K ≤ 600) (hf4 : f + m ≤ 4000) (hLG : ∀ i, i < m → L (K + i) = G (f + i)) : ∀ (d i nn t0 : Nat) (α : mS) (Pi : Int32 → mS → Prop) (Px : mS → Prop), i + d = m → d < nn → MV W s Lc Lr U t0 α w nv → LL α (K + i) L → (∀ l, l < m → α.2 38 (f + l) = nI (G (f + l))) → (∀ β n', QW W s Lc Lr w t0 α nv U t0 nv β → LL β (K + m) L → rI (f_Mod_ruleOf_37 N (n' + 1) (nI m) (nI m) (nI f) y1 y2 y3 y4 y5 y6 β) Pi Px) → rI (f_Mod_ruleOf_37 N nn (nI i) (nI m) (nI f) y1 y2 y3 y4 y5 y6 α) Pi Px
  | 0, i, nn, t0, α, Pi, Px, hd, hm, h, hl, hg, hk => by
    obtain ⟨nn, rfl⟩ : ∃ n', nn = n' + 1 := ⟨nn - 1, by omega⟩
    have ei : i = m := by omega
    subst ei
    exact hk α nn (QW.rf h) hl
  | d + 1, i, nn, t0, α, Pi, Px, hd, hm, h, hl, hg, hk => by
    obtain ⟨nn, rfl⟩ : ∃ n', nn = n' + 1 := ⟨nn - 1, by omega⟩
    rw [f_Mod_ruleOf_37, if_neg (nI_ge (by omega) (by omega)), nI_add, nI_clamp (show f + i < 2 ^ 31 by omega)]
    obtain ⟨γ, eγ, p1, p2, p3, p4, p5⟩ := push_q (X := α.2 38 (f + i)) h hl.1 (by omega)
    refine rI.ix (mix' (show f + i < 4000 by omega) (by decide)) (rI.ix p1 ?_)
    show rI (f_Mod_ruleOf_37 N nn (nI i + 1) (nI m) (nI f) y1 y2 y3 y4 y5 y6 (mSA (mSi α 30 (α.1 30 + 1)) 41 (upd ((mSi α 30 (α.1 30 + 1)).2 41) (α.1 30).toNatClampNeg (α.2 38 (f + i))))) _ _
    rw [eγ, nI_1]
    exact ru_37 hm9 hK hf4 hLG d (i + 1) nn t0 γ Pi Px (by omega) (by omega) p3.mv (hl.push p4 p5 (by rw [hLG i (by omega)]; exact hg i (by omega))) (fun l hl' => by rw [p2.arr (by decide)]; exact hg l hl') (fun β n' b1 b2 => hk β n' (p3.tr b1) b2)
def RL (np cv many f : Nat) (P M G : Nat → Nat) (i : Nat) : Nat := if i < np then P i else if i = np then cv else if i < np + 1 + many then M (i - (np + 1)) else G (f + (i - (np + 1 + many)))
/-- the rule of a CONSTRUCTOR -/
theorem rule_m {k j f m cv np q' e c many : Nat} {P G M z : Nat → Nat} (hN : 400000 < N) (hn : nrm W s) (hnq : np + q' = nq) (hq9 : nq ≤ 199) (hm3 : many ≤ 300) (hj : j < many) (hkj : k + 1 + j < 301) (hkr : Lr k) (hU6 : U + smf (fun i => hzf (z (f + i))) m ≤ 6000) (h : MV W s Lc Lr U t0 α w nv) (hc : CF W s t0 α nv np nq k P G z j f m e) (hp : PF W s t0 α nv nq P) (hM : MF W s t0 α nv cv np many P M) (hcv : TM W s t0 α 0 1 (fun v => v = cv) c) (hc3 : α.2 3 c = nI cv) (hcT : VT W s t0 α nv 1000000 797 (ml P 0 np) cv) : rI (f_Mod_ruleOf N (nI k) (nI j) (nI np) (nI q') (nI c) (nI many) α) (fun v β => ∃ r t1 nv1, v = nI r ∧ QW W s Lc Lr w t0 α nv (U + smf (fun i => hzf (z (f + i))) m) t1 nv1 β ∧ TM W s t1 β 5000 2000 (fun _ => False) r) (XV W s t0 α) := by
  have hc' := hc
  obtain ⟨c1, c2, c3, c4, -, c6⟩ := hc'
  have l1 : ∀ i, i < np → RL np cv many f P M G i = P i := fun i hi => by unfold RL; rw [if_pos hi]
  have l2 : RL np cv many f P M G np = cv := by unfold RL; rw [if_neg (by omega), if_pos rfl]
  have l3 : ∀ i, i < many → RL np cv many f P M G (np + 1 + i) = M i := fun i hi => by
    unfold RL; rw [if_neg (by omega), if_neg (by omega), if_pos (by omega), show np + 1 + i - (np + 1) = i by omega]
  have l4 : ∀ i, RL np cv many f P M G (np + 1 + many + i) = G (f + i) := fun i => by
    unfold RL; rw [if_neg (by omega), if_neg (by omega), if_neg (by omega), show np + 1 + many + i - (np + 1 + many) = i by omega]
  unfold f_Mod_ruleOf
  obtain ⟨β, e1, b1, b2, b3⟩ := heads_m (N := N) (np := np) (many := many) (P := P) (M := M) hN (by omega) hm3 l1 l2 l3 h (fun i hi => (hp i (by omega)).1) hcv.1 hc3 (fun j hj => (hM j hj).1)
  rw [e1]
  show rI (if nI j < 0 ∨ _ then none else _) _ _
  rw [nI_1, nI_add, nI_clamp (show j < 2 ^ 31 by omega), nI_clamp (show k + 1 + j < 2 ^ 31 by omega)]
  refine rI.ix (mix' (show j < 301 by omega) (by decide)) (rI.ix (mix' hkj (by decide)) ?_)
  have hcβ := hc.qw h.1 b1
  rw [hcβ.2.1, hcβ.1]
  refine ru_37 (K := np + 1 + many) c3 (by omega) c4 (fun i _ => l4 i) m 0 N t0 β _ _ (by omega) (by omega) b1.mv b3 (fun l hl => (hcβ.2.2.2.2.2 l hl).1) (fun γ n' u1 u2 => ?_)
  have q2 := b1.tr u1
  have hcγ := hc.qw h.1 q2
  have hpγ := hp.qw h.1 q2
  have hMγ := hM.qw h.1 q2
  rw [f_Mod_ruleOf_37, if_pos (nI_le (Nat.le_refl _) (by omega)), nI_clamp (show j < 2 ^ 31 by omega), (hMγ j hj).1]
  have LM : ∀ i, i < many → ∃ j, j < np + 1 + many + m ∧ RL np cv many f P M G j = M i := fun i hi => ⟨np + 1 + i, by omega, l3 i hi⟩
  refine rI.ix (mix' (show j < 301 by omega) (by decide)) ((free_v (S := fun v => ∃ j, j < np + 1 + many + m ∧ RL np cv many f P M G j = v) hn u1.mv (hMγ j hj).2.1.2 (LM j hj)).bi (fun v δ g => ?_) (fun δ g => q2.tx g))
  obtain ⟨r, t1, rfl, g1, -, g2⟩ := g
  have lf : LF W s t0 γ nv (np + 1 + many + m) (RL np cv many f P M G) 797 (fun i v => ∃ j, j < i ∧ RL np cv many f P M G j = v) := by
    refine ⟨u2.1, fun i hi => ⟨u2.2 i hi, ?_⟩⟩
    by_cases i1 : i < np
    · rw [l1 i i1]
      exact ⟨_, (hpγ i (by omega)).2.su (Nat.le_refl _) (by decide) (fun v y => by obtain ⟨l, y1, y2, y3⟩ := y; exact ⟨l, y2, by rw [l1 l (by omega)]; exact y3⟩)⟩
    by_cases i2 : i = np
    · rw [i2, l2]
      exact ⟨_, (hcT.qw h.1 q2).su (Nat.le_refl _) (Nat.le_refl _) (fun v y => by obtain ⟨l, y1, y2, y3⟩ := y; exact ⟨l, by omega, by rw [l1 l y2]; exact y3⟩)⟩
    by_cases i3 : i < np + 1 + many
    · have ei : i = np + 1 + (i - (np + 1)) := by omega
      have i4 : i - (np + 1) < many := by omega
      have := (hMγ _ i4).2
      rw [← l3 _ i4, ← ei] at this
      refine ⟨_, this.su (Nat.le_refl _) (Nat.le_refl _) (fun v y => ?_)⟩
      rcases y with y | ⟨l, y1, y2, y3⟩
      · exact ⟨np, by omega, by rw [l2, y]⟩
      · exact ⟨l, by omega, by rw [l1 l y2]; exact y3⟩
    · have ei : i = np + 1 + many + (i - (np + 1 + many)) := by omega
      have i4 : i - (np + 1 + many) < m := by omega
      have := (hcγ.2.2.2.2.2 _ i4).2.1.vt
      rw [← l4, ← ei] at this
      refine ⟨_, this.su (Nat.le_refl _) (by decide) (fun v y => ?_)⟩
      rcases y with ⟨l, y1, y2, y3⟩ | ⟨l, y1, y2, y3⟩
      · exact ⟨l, by omega, by rw [l1 l y2]; exact y3⟩
      · exact ⟨np + 1 + many + (l - f), by omega, by rw [l4, show f + (l - f) = l by omega]; exact y3⟩
  have hr : RX W s t0 γ nv np nq k j f m e cv many c (np + 1 + many + m) P G M z (RL np cv many f P M G) := ⟨lf, hcγ, hpγ, hMγ, hcv.qw h.1 q2⟩
  refine (ru_91 hN hn hnq hq9 hm3 (show k < 301 by omega) hkr (show np + 1 + many + m ≤ 800 by omega) (fun i hi => ⟨i, by omega, l1 i hi⟩) ⟨np, by omega, l2⟩ LM (fun i hi => ⟨np + 1 + many + i, by omega, l4 i⟩) hU6 m 0 r N t1 δ (by omega) (by omega) g1.mv (hr.qv u1.mv.1 g1) (g2.su (Nat.le_refl _) (by decide) (fun _ z => z))).mono (fun v δ z => ?_) (fun δ z => (q2.tr g1.1).tx z)
  obtain ⟨r3, t3, n3, e3, z1, z2⟩ := z
  exact ⟨r3, t3, n3, e3, (q2.tr g1.1).tr z1, z2⟩
end RULE
