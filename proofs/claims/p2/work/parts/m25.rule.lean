-- heads, ruleOf: the rule of a CONSTRUCTOR
def MF (W : Nat → Prop) (s t : Nat) (α : mS) (nv cv np many : Nat) (P M : Nat → Nat) : Prop := ∀ j, j < many → α.2 42 j = nI (M j) ∧ VT W s t α nv 1000000 797 (fun v => v = cv ∨ ml P 0 np v) (M j)
section RULE
variable {N : Nat} {W : Nat → Prop} {s Lc : Nat} {Lr : Nat → Prop} {w t0 t1 nv nv1 U U1 nq : Nat} {S S' : Nat → Prop} {α β : mS}
theorem MF.qw {cv np many : Nat} {P M : Nat → Nat} (h : MF W s t0 α nv cv np many P M) (hP : PO W s Lc Lr t0 α) (g : QW W s Lc Lr w t0 α nv U t1 nv1 β) : MF W s t1 β nv1 cv np many P M := fun j hj => by
  obtain ⟨a, b⟩ := h j hj
  exact ⟨by rw [g.2.1.arr (by decide)]; exact a, b.qw hP g⟩
theorem LL.push {ℓ : Nat} {L : Nat → Nat} {X : Int32} (h : LL α ℓ L) (h30 : β.1 30 = nI (ℓ + 1)) (h41 : β.2 41 = upd (α.2 41) ℓ X) (hX : X = nI (L ℓ)) : LL β (ℓ + 1) L := ⟨h30, fun i hi => by
  rw [h41]
  rcases Nat.lt_or_ge i ℓ with y | y
  · rw [upd_ne (by omega)]; exact h.2 i y
  · have el : i = ℓ := by omega
    rw [el, upd_at, hX]⟩
theorem he_63 {np many : Nat} {M L : Nat → Nat} (hp : np ≤ 199) (hm3 : many ≤ 300) (hLM : ∀ j, j < many → L (np + 1 + j) = M j) : ∀ (d j nn t0 : Nat) (α : mS), j + d = many → d < nn → MV W s Lc Lr U t0 α w nv → LL α (np + 1 + j) L → (∀ j, j < many → α.2 42 j = nI (M j)) → ∃ β, f_Mod_heads_63 N nn (nI j) (nI many) α = some (some none, β) ∧ QW W s Lc Lr w t0 α nv U t0 nv β ∧ mch [30] [41] α β ∧ LL β (np + 1 + many) L
  | 0, j, nn, t0, α, hd, hm, h, hl, hM => by
    obtain ⟨nn, rfl⟩ : ∃ n', nn = n' + 1 := ⟨nn - 1, by omega⟩
    have ej : j = many := by omega
    subst ej
    rw [f_Mod_heads_63, if_pos (nI_le (by omega) (by omega))]
    exact ⟨α, rfl, QW.rf h, mch.rf, hl⟩
  | d + 1, j, nn, t0, α, hd, hm, h, hl, hM => by
    obtain ⟨nn, rfl⟩ : ∃ n', nn = n' + 1 := ⟨nn - 1, by omega⟩
    obtain ⟨γ, eγ, p1, p2, p3, p4, p5⟩ := push_q (X := α.2 42 j) h hl.1 (by omega)
    rw [f_Mod_heads_63, if_neg (nI_ge (by omega) (by omega)), nI_clamp (show j < 2 ^ 31 by omega), if_neg (mix' (show j < 301 by omega) (by decide)), if_neg p1, nI_1]
    show ∃ β, f_Mod_heads_63 N nn (nI (j + 1)) (nI many) (mSA (mSi α 30 (α.1 30 + 1)) 41 (upd ((mSi α 30 (α.1 30 + 1)).2 41) (α.1 30).toNatClampNeg (α.2 42 j))) = _ ∧ _
    rw [eγ]
    obtain ⟨β, e1, b1, b2, b3⟩ := he_63 hp hm3 hLM d (j + 1) nn t0 γ (by omega) (by omega) p3.mv (hl.push p4 p5 (by rw [hLM j (by omega)]; exact hM j (by omega))) (fun j hj => by rw [p2.arr (by decide)]; exact hM j hj)
    exact ⟨β, e1, p3.tr b1, p2.tr b2, b3⟩
theorem he_3 {np many c cv : Nat} {P M L : Nat → Nat} (hN : 400000 < N) (hp : np ≤ 199) (hm3 : many ≤ 300) (hLP : ∀ i, i < np → L i = P i) (hLc : L np = cv) (hLM : ∀ j, j < many → L (np + 1 + j) = M j) : ∀ (d i nn t0 : Nat) (α : mS), i + d = np → d < nn → MV W s Lc Lr U t0 α w nv → LL α i L → (∀ i, i < np → α.2 33 i = nI (P i)) → vd W s t0 c → α.2 3 c = nI cv → (∀ j, j < many → α.2 42 j = nI (M j)) → ∃ β, f_Mod_heads_3 N nn (nI i) (nI np) (nI c) (nI many) α = some (some none, β) ∧ QW W s Lc Lr w t0 α nv U t0 nv β ∧ mch [30] [41] α β ∧ LL β (np + 1 + many) L
  | 0, i, nn, t0, α, hd, hm, h, hl, hP, hc, hcv, hM => by
    obtain ⟨nn, rfl⟩ : ∃ n', nn = n' + 1 := ⟨nn - 1, by omega⟩
    have ei : i = np := by omega
    subst ei
    have hW := h.1.2.2.2
    obtain ⟨γ, eγ, p1, p2, p3, p4, p5⟩ := push_q (X := α.2 3 c) h hl.1 (by omega)
    rw [f_Mod_heads_3, if_pos (nI_le (by omega) (by omega)), hW.cl hc, if_neg (hW.ix hc), if_neg p1]
    show ∃ β, f_Mod_heads_63 N N (nI 0) (nI many) (mSA (mSi α 30 (α.1 30 + 1)) 41 (upd ((mSi α 30 (α.1 30 + 1)).2 41) (α.1 30).toNatClampNeg (α.2 3 c))) = _ ∧ _
    rw [eγ]
    obtain ⟨β, e1, b1, b2, b3⟩ := he_63 (np := i) (N := N) hp hm3 hLM many 0 N t0 γ (by omega) (by omega) p3.mv (hl.push p4 p5 (by rw [hLc]; exact hcv)) (fun j hj => by rw [p2.arr (by decide)]; exact hM j hj)
    exact ⟨β, e1, p3.tr b1, p2.tr b2, b3⟩
  | d + 1, i, nn, t0, α, hd, hm, h, hl, hP, hc, hcv, hM => by
    obtain ⟨nn, rfl⟩ : ∃ n', nn = n' + 1 := ⟨nn - 1, by omega⟩
    obtain ⟨γ, eγ, p1, p2, p3, p4, p5⟩ := push_q (X := α.2 33 i) h hl.1 (by omega)
    rw [f_Mod_heads_3, if_neg (nI_ge (by omega) (by omega)), nI_clamp (show i < 2 ^ 31 by omega), if_neg (mix' (show i < 5000 by omega) (by decide)), if_neg p1, nI_1]
    show ∃ β, f_Mod_heads_3 N nn (nI (i + 1)) (nI np) (nI c) (nI many) (mSA (mSi α 30 (α.1 30 + 1)) 41 (upd ((mSi α 30 (α.1 30 + 1)).2 41) (α.1 30).toNatClampNeg (α.2 33 i))) = _ ∧ _
    rw [eγ]
    obtain ⟨β, e1, b1, b2, b3⟩ := he_3 hN hp hm3 hLP hLc hLM d (i + 1) nn t0 γ (by omega) (by omega) p3.mv (hl.push p4 p5 (by rw [hLP i (by omega)]; exact hP i (by omega))) (fun i hi => by rw [p2.arr (by decide)]; exact hP i hi) hc (by rw [p2.arr (by decide)]; exact hcv) (fun j hj => by rw [p2.arr (by decide)]; exact hM j hj)
    exact ⟨β, e1, p3.tr b1, p2.tr b2, b3⟩
/-- heads, from the empty list -/
theorem heads_m {np many c cv : Nat} {P M L : Nat → Nat} (hN : 400000 < N) (hp : np ≤ 199) (hm3 : many ≤ 300) (hLP : ∀ i, i < np → L i = P i) (hLc : L np = cv) (hLM : ∀ j, j < many → L (np + 1 + j) = M j) (h : MV W s Lc Lr U t0 α w nv) (hP : ∀ i, i < np → α.2 33 i = nI (P i)) (hc : vd W s t0 c) (hcv : α.2 3 c = nI cv) (hM : ∀ j, j < many → α.2 42 j = nI (M j)) : ∃ β, f_Mod_heads N (nI np) (nI c) (nI many) (mSi α 30 0) = some (some none, β) ∧ QW W s Lc Lr w t0 α nv U t0 nv β ∧ mch [30] [41] α β ∧ LL β (np + 1 + many) L := by
  obtain ⟨ε, eε⟩ : ∃ ε, ε = mSi α 30 0 := ⟨_, rfl⟩
  rw [← eε]
  have ce : mch [30] [] α ε := by rw [eε]; exact mch.si (by decide)
  have se : ∀ V : Nat → Prop, sN V α ε := fun V => sN.ch ce (fun r _ _ z => by cases z)
  have q4 : QW W s Lc Lr w t0 α nv U t0 nv ε := ⟨Nat.le_refl _, ce.mo (by decide) (fun r z => by cases z), se _, ⟨h.1.sn ce (by decide) (se _), by rw [eε]; exact h.2⟩, Nat.le_refl _, fun i _ => by rw [ce.arr (fun z => by cases z)]⟩
  unfold f_Mod_heads
  have aa : ∀ r, ε.2 r = α.2 r := fun r => ce.arr (fun z => by cases z)
  obtain ⟨β, e1, b1, b2, b3⟩ := he_3 (N := N) hN hp hm3 hLP hLc hLM np 0 N t0 ε (by omega) (by omega) q4.mv ⟨by rw [eε]; rfl, fun i hi => by omega⟩ (fun i hi => by rw [aa]; exact hP i hi) hc (by rw [aa]; exact hcv) (fun j hj => by rw [aa]; exact hM j hj)
  exact ⟨β, e1, q4.tr b1, (ce.mo (fun _ z => z) (fun r z => by cases z)).tr b2, b3⟩
end RULE
