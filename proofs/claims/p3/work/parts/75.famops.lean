-- the turns of a family's tests
def LI (c K m fam n M yv z : Nat) (α : kS) : Prop := tT K α ∧ eI c K m α ∧ SI yv z α ∧ FZ c K m fam n M yv z α
def LO (c K m fam n M : Nat) (α β : kS) : Prop := (∃ yv z, 32 ≤ z ∧ z ≤ 37 ∧ LI c K m fam n M yv z β) ∧ fk fam α β
def LX (K fam : Nat) (α β : kS) : Prop := tT K β ∧ fk fam α β
/-- the frame at the bottom is on top -/
def Bot (c K m fam n M yv z : Nat) (α : kS) (a b t : Int32) (ty : List Int32) (r : Int32) : Prop := tT K α ∧ eI c K m α ∧ vw α [(nI z, a, b, t, nI 0)] ty r ∧ tvp yv α [(nI z, a, b, t, nI 0)] ty ∧ FZ c K m fam n M yv z α
section FAMO
variable {N c K m fam n M yv : Nat} {α : kS} {a b t r : Int32} {ty : List Int32}
theorem famS {β : kS} {z0 n' : Nat} {x : Int32} (hβ : tT K β) (v : vw β [(nI z0, a, b, t, nI 0)] ty r) (hz : pl z0 = true) (hn : n' = 33 ∨ n' = 35 ∨ n' = 36) (hx : qP β x) (ht : tvp yv β [(nI z0, a, b, t, nI 0)] ty) : ∃ γ, f_Fam_sortOf N (nI n') x β = some (some none, γ) ∧ tT K γ ∧ wk β γ ∧ SI yv n' γ := by
  obtain ⟨γ, e, g1, g2, g3⟩ := set0 hβ v (nI n')
  obtain ⟨δ, e2, y1, y2, y3⟩ := fpush (N := N) g1 g3 (by show 0 + 1 < 512; omega) 25 0 0 0
  obtain ⟨ε, e3, x1, x2, x3⟩ := fpush (N := N) y1 y3 (by show 0 + 1 + 1 < 512; omega) 15 x 0 1
  have w := (g2.tr y2).tr x2
  have hp : pl n' = true := by rcases hn with rfl | rfl | rfl <;> decide
  have htn : tvp yv ε ((15, x, 0, 0, 1) :: (25, 0, 0, 0, 0) :: [(nI n', a, b, t, nI 0)]) ty := (((ht.op (n' := n') hz hp).g w.2.2).push (n' := 25) (by decide)).push (n' := 15) (by decide)
  refine ⟨ε, ?_, x1, w, _, _, _, 0, x3, ?_, fun q => absurd q (by decide), by decide, htn⟩
  · unfold f_Fam_sortOf
    rw [e, e2, kBv_s, e3]
    rfl
  · refine ⟨15, 1, rfl, ⟨by omega, fun y => by omega⟩, rfl, ⟨hx.g w.2.2, by omega, by show 2 < 2 * 1 + 1; omega⟩, ⟨25, rfl, by omega, by decide⟩, fun _ => ⟨25, 0, rfl, ⟨by omega, fun y => by omega⟩, rfl, ⟨by show 1 < 302; omega, gv15⟩, ⟨n', rfl, by omega, ?_⟩, fun _ => ⟨n', 0, rfl, ⟨by omega, fun _ => rfl⟩, rfl, ?_, trivial, fun y => by omega⟩⟩⟩
    · rcases hn with rfl | rfl | rfl <;> decide
    · rcases hn with rfl | rfl | rfl
      · exact ⟨rfl, rfl⟩
      · exact ⟨rfl, rfl⟩
      · exact ⟨rfl, rfl⟩
/-- how many PI the family's type has -/
theorem fam_go {α : kS} (hO : kOk α) (hW : tWf α) : ∀ (l : List Nat) (t e i nn : Nat) (β : kS), t < tn α → pc α t l e → sT α β → β.1 27 = nI i → i + l.length < 3000 → l.length < nn → ∃ γ, f_Fam_family_58 N nn (nI t) β = f_Fam_family_j103 N (nI e) γ ∧ γ.2 = β.2 ∧ (∀ j, j ≠ 27 → γ.1 j = β.1 j) ∧ γ.1 27 = nI (i + l.length)
  | [], t, e, i, nn, β, ht, hp, hs, hi, hl, hn => by
    obtain ⟨nn, rfl⟩ : ∃ n', nn = n' + 1 := ⟨nn - 1, by omega⟩
    obtain ⟨rfl, h6⟩ := hp
    have hl : i + 0 < 3000 := hl
    refine ⟨β, ?_, rfl, fun _ _ => rfl, hi⟩
    have k6 : ¬ f_Terms_kind (nI e) α = 6 := fun z => h6 (kd_is hO ht (k := 6) (by decide) z)
    rw [f_Fam_family_58, hi, if_neg (l3_lt (by omega)), hs.kd, if_neg k6]
  | d :: l, t, e, i, nn, β, ht, hp, hs, hi, hl, hn => by
    obtain ⟨nn, rfl⟩ : ∃ n', nn = n' + 1 := ⟨nn - 1, by omega⟩
    have hl : i + (l.length + 1) < 3000 := hl
    have hn : l.length + 1 < nn + 1 := hn
    obtain ⟨h6, rfl, hp⟩ := hp
    obtain ⟨-, e2, hl', hr, -⟩ := partsN hO hW ht (by omega)
    obtain ⟨γ, g1, g2, g3, g4⟩ := fam_go hO hW l (rtN α t) e (i + 1) nn (kSi β 27 (nI (i + 1))) (by omega) hp ⟨hs.1, hs.2⟩ rfl (by omega) (by omega)
    refine ⟨γ, ?_, g2, fun j hj => (g3 j hj).trans (kup_n hj), by rw [g4]; show nI (i + 1 + l.length) = nI (i + (l.length + 1)); congr 1; omega⟩
    rw [f_Fam_family_58, hi, if_neg (l3_lt (by omega)), hs.kd, if_pos (by rw [kd_at hO ht, h6]; rfl), hs.rt, rt_in hO ht, e2, nI_1]
    exact g1
theorem fail_f {β : kS} (N : Nat) (x : Int32) (h : tT K β) (w : fk fam α β) {k : kS → Option (kO × kS)} {P : kS → Prop} : tV (kBv (f_Meter_fail N x β) k) P (LX K fam α) := by
  obtain ⟨γ, e, h1, h2⟩ := fail_t N x h (I := [2, 3, 4, 6, 100, 24]) (R := [2, 3, 4, 12, 13, 14]) (by decide) (by decide)
  rw [e]
  exact tV.thr ⟨h1, w.tr (fk.wk h2)⟩
theorem family_ok (hN : 2 ^ 31 ≤ N) (B : Bot c K m fam n M yv 32 α a b t ty r) : tV (f_Fam_family N α) (LO c K m fam n M α) (LX K fam α) := by
  obtain ⟨h, he, v, ht, hz⟩ := B
  have hF := hz.1 (by decide)
  obtain ⟨a1, a2, a3, a4, a5, a6, a7, a8⟩ := id hF
  have hm := he.2.2.2.1
  have hn' := h.1.1.n.2.1
  have hc3 := he.2.1
  obtain ⟨tt, ett, htt, h9⟩ := a7
  obtain ⟨S, eS⟩ : ∃ S, S = kSi (kSi (kSi (kSi (kSi α 25 (f_Par_declared α)) 26 (f_Par_parameters (kSi α 25 (f_Par_declared α)))) 28 (((f_Env_length (kSi (kSi α 25 (f_Par_declared α)) 26 (f_Par_parameters (kSi α 25 (f_Par_declared α))))) - (f_Par_declared α)) - 1)) 27 0) 31 0 := ⟨_, rfl⟩
  have s25 : S.1 25 = nI fam := by rw [eS]; exact a4
  have s26 : S.1 26 = nI n := by rw [eS]; show nI (α.2.1 11).length = _; rw [a5]
  have s28 : S.1 28 = nI M := by
    rw [eS]
    show ((f_Env_length α) - (α.1 19)) - 1 = _
    rw [len_e h he.1, a4, pk_sub (a := c) (b := fam) (by omega), show nI (c - fam) - 1 = nI (c - fam - 1) from pk_sub (a := c - fam) (b := 1) (by omega)]
    congr 1
    omega
  have s31 : S.1 31 = nI 0 := by rw [eS]; rfl
  have s27 : S.1 27 = nI 0 := by rw [eS]; rfl
  have sS : sT α S := by rw [eS]; exact ⟨rfl, rfl⟩
  have s2 : S.2 = α.2 := by rw [eS]; rfl
  have sj : ∀ j, j ∉ [25, 26, 27, 28, 31] → S.1 j = α.1 j := fun j hj => by
    simp only [List.mem_cons, List.not_mem_nil, or_false, not_or] at hj
    obtain ⟨j1, j2, j3, j4, j5⟩ := hj
    rw [eS]
    exact (kup_n j5).trans ((kup_n j3).trans ((kup_n j4).trans ((kup_n j2).trans (kup_n j1))))
  have goS : f_Fam_family N α = f_Fam_family_58 N N (nI tt) S := by
    unfold f_Fam_family
    rw [← eS, show f_Par_type S = nI tt from (sj 21 (by decide)).trans ett]
  obtain ⟨l, e, hp⟩ := pc_ex h.1.1 h.2.1 tt (by omega)
  obtain ⟨he1, he2, -, -, -⟩ := pc_in h.1.1 h.2.1 l tt e (by omega) hp
  have hd2 := (h.2.1 tt (by omega)).2.2.1.2
  have hd1 := (h.2.1 e (by omega)).2.2.1.1
  obtain ⟨γ, g1, g2, g3, g4⟩ := fam_go (N := N) h.1.1 h.2.1 l tt e 0 N S (by omega) hp sS s27 (by omega) (by omega)
  have hγ2 : γ.2 = α.2 := g2.trans s2
  have hγ6 : γ.1 6 = α.1 6 := (g3 6 (by decide)).trans (sj 6 (by decide))
  have hγ : tT K γ := same_t h hγ2 hγ6
  have cγ : ch [25, 26, 27, 28, 31] [] α γ := same_ch hγ2 hγ6 fun i hi => by
    have : i ≠ 27 := fun z => hi (by rw [z]; decide)
    exact (g3 i this).trans (sj i hi)
  rw [goS, g1]
  unfold f_Fam_family_j103
  refine tV.ite (fun _ => ?_) (fun _ => fail_f N 8 hγ (fk.of cγ (by decide) (by decide) (by decide)))
  have q25 : γ.1 25 = nI fam := (g3 25 (by decide)).trans s25
  have q26 : γ.1 26 = nI n := (g3 26 (by decide)).trans s26
  have q27 : γ.1 27 = nI l.length := by rw [g4, Nat.zero_add]
  have q28 : γ.1 28 = nI M := (g3 28 (by decide)).trans s28
  have q31 : γ.1 31 = nI 0 := (g3 31 (by decide)).trans s31
  -- the facts of the family
  obtain ⟨G, eG⟩ : ∃ G, G = kSi γ 29 (f_Terms_left (nI e) γ) := ⟨_, rfl⟩
  have hG : tT K G := by rw [eG]; exact hγ.si (by decide)
  have cG : ch [25, 26, 27, 28, 29, 31] [] α G := by rw [eG]; exact (cγ.mo (by decide) (by decide)).tr (ch.si (by decide) (by decide))
  have heG : eI c K m G := he.ch cG (by decide) (by decide)
  have G25 : G.1 25 = nI fam := by rw [eG]; exact q25
  have G26 : G.1 26 = nI n := by rw [eG]; exact q26
  have G27 : G.1 27 = nI l.length := by rw [eG]; exact q27
  have G28 : G.1 28 = nI M := by rw [eG]; exact q28
  have G31 : G.1 31 = nI 0 := by rw [eG]; exact q31
  obtain ⟨b1, e1, t1, i1, k1, c1, -, f1⟩ := fix_t (k := fam) (w := 3) (x := 3) (v := nI n) (c0 := fam) hG heG (by omega) (Nat.le_refl _) (by decide) rfl (Or.inl ⟨by omega, n, rfl, by omega⟩)
  obtain ⟨b2, e2, t2, i2, k2, c2, -, f2⟩ := fix_t (k := fam) (w := 4) (x := 4) (v := nI l.length) (c0 := fam) t1 i1 (by omega) (Nat.le_refl _) (by decide) rfl (Or.inl ⟨by omega, l.length, rfl, by omega⟩)
  obtain ⟨b3, e3, t3, i3, k3, c3, -, f3⟩ := fix_t (k := fam) (w := 5) (x := 5) (v := nI M) (c0 := fam) t2 i2 (by omega) (Nat.le_refl _) (by decide) rfl (Or.inl ⟨by omega, M, rfl, by omega⟩)
  have c03 : ch [] [5] G b3 := (c1.tr c2).tr c3
  have last : ∀ x, tV (f_Fam_family_j213 N x 9 (nI fam) b3) (LO c K m fam n M α) (LX K fam α) := by
    intro x
    obtain ⟨b4, e4, t4, i4, k4, c4, -, f4⟩ := fix_t (k := fam) (w := 9) (x := 9) (v := x) (c0 := fam) t3 i3 (by omega) (Nat.le_refl _) (by decide) rfl (Or.inr (Or.inr (Or.inr (Or.inr rfl))))
    have c04 : ch [] [5] G b4 := c03.tr c4
    unfold f_Fam_family_j213
    rw [e4, show b4.1 25 = nI fam from (c04.int (by decide)).trans G25]
    have cA : ch [25, 26, 27, 28, 29, 31] [5] α b4 := (cG.mo (by decide) (by decide)).tr (c04.mo (by decide) (by decide))
    have v4 : vw b4 [(nI 32, a, b, t, nI 0)] ty r := v.ch cA (by decide) (by decide) (by decide)
    obtain ⟨ε, e5, g5, g6, g7⟩ := famS (N := N) (n' := 33) t4 v4 (by decide) (Or.inl rfl) (type_v t4 i4 (k := fam) (by omega)) (ht.g cA.2.2)
    have hf : ∀ k, fc ε k 1 = fc α k 1 := fun k => by
      have : fc ε k 1 = fc b4 k 1 := by unfold fc; rw [g6.row (by decide) (by decide)]
      rw [this, f4, f3, f2, f1]
      unfold fc
      rw [cG.row (by decide) (by decide)]
    have cE : ch [2, 3, 4, 6, 100, 24, 25, 26, 27, 28, 29, 31] [2, 3, 4, 5, 12, 13, 14] α ε := (cA.mo (by decide) (by decide)).tr (g6.mo (by decide) (by decide))
    rw [show f_Fam_sortOf N 33 (f_Env_fact (nI fam) 1 b4) b4 = some (some none, ε) from e5, kBv_s]
    have iE : ∀ j, j ∉ [2, 3, 4, 6, 100, 24] → ε.1 j = G.1 j := fun j hj => (g6.int hj).trans (c04.int (by simp))
    refine tV.ret ⟨⟨yv, 33, by decide, by decide, g5, i4.ch g6 (by decide) (by decide), g7, fun _ => hF.ch hm cE (by decide) (by decide) (by decide) hf, fun _ => ⟨l.length, 0, ?_⟩, fun z => by omega, fun z => by omega, fun z => by omega⟩, ?_⟩
    · exact ⟨(iE 25 (by decide)).trans G25, (iE 26 (by decide)).trans G26, (iE 27 (by decide)).trans G27, by omega, (iE 28 (by decide)).trans G28, (iE 31 (by decide)).trans G31, Nat.zero_le _, fun i hi => absurd hi (by omega)⟩
    · exact ((fk.of cG (by decide) (by decide) (by decide)).tr (((k1.tr k2).tr k3).tr k4)).tr (fk.wk g6)
  unfold f_Fam_family_j124
  rw [← eG, q25, q26, e1, show b1.1 25 = nI fam from (c1.int (by decide)).trans G25, show b1.1 27 = nI l.length from (c1.int (by decide)).trans G27, e2, show b2.1 25 = nI fam from ((c1.tr c2).int (by decide)).trans G25, show b2.1 28 = nI M from ((c1.tr c2).int (by decide)).trans G28, e3, show b3.1 25 = nI fam from (c03.int (by decide)).trans G25]
  have j208 : tV (f_Fam_family_j208 N 9 (nI fam) b3) (LO c K m fam n M α) (LX K fam α) := by
    unfold f_Fam_family_j208
    exact last 1
  exact tV.ite (fun _ => tV.ite (fun _ => j208) (fun _ => last 0)) (fun _ => j208)
end FAMO
