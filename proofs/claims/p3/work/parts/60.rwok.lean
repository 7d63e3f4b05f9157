-- rewrite, whole
theorem fail_t {K : Nat} {α : kS} (N : Nat) (c : Int32) (h : tT K α) {I R : List Nat} (h3 : 3 ∈ I) (h4 : 4 ∈ I) : ∃ β, f_Meter_fail N c α = some (none, β) ∧ tT K β ∧ ch I R α β := by
  obtain ⟨p, e⟩ := fail_is N c α
  exact ⟨_, e, (h.si (by decide)).si (by decide), (ch.si h3 (by decide)).tr (ch.si h4 (by decide))⟩
theorem failAt_t {K : Nat} {α : kS} (N : Nat) (c p : Int32) (h : tT K α) {I R : List Nat} (h3 : 3 ∈ I) (h4 : 4 ∈ I) : ∃ β, f_Meter_failAt N c p α = some (none, β) ∧ tT K β ∧ ch I R α β :=
  ⟨_, rfl, (h.si (by decide)).si (by decide), (ch.si h3 (by decide)).tr (ch.si h4 (by decide))⟩
theorem charge_ok {N K : Nat} {α : kS} (c : Int32) (h : tT K α) : tV (f_Meter_charge N c α) (fun β => tT K β ∧ ch [2, 3, 4] [] α β) (fun β => tT K β ∧ ch [2, 3, 4] [] α β) := by
  unfold f_Meter_charge
  refine tV.ite (fun _ => tV.ret ⟨h.si (by decide), ch.si (by decide) (by decide)⟩) (fun _ => ?_)
  obtain ⟨β, e, h1, h2⟩ := fail_t N 10 (h.si (i := 2) (v := α.1 2 + c) (by decide)) (I := [2, 3, 4]) (R := []) (by decide) (by decide)
  rw [e]
  exact tV.thr ⟨h1, (ch.si (by decide) (by decide)).tr h2⟩
/-- rewrite gives a TERM, of the same shape where only leaves are put for leaves -/
theorem rewrite_w {L : List Nat} {N K m' t : Nat} {key : Int32} {α : kS} (hN : 16777216 < N) (h : tT K α) (hm : m' ≤ 5) (ht : t < tn α) (hkey : m' ≤ 1 → ∃ kk, key = nI kk ∧ qT α kk) (h4 : m' = 4 → 100 ∈ L) :
    tI (f_Terms_rewrite N (nI m') (nI t) key α) (fun v β => tT K β ∧ tmL L α β ∧ ∃ j, v = nI j ∧ j < tn β ∧ (nK β j = 9 ↔ nK α t = 9) ∧ (lfm m' key α → sh β t j) ∧ ∀ y y', lvk m' key y y' α → FL α y t → FL β y' j) (fun β => tT K β ∧ tmL L α β) := by
  have a1 : tT K (kSl α 2 []) := h.sl (by decide) (Nat.zero_le _)
  have a2 : tT K (kSl (kSl α 2 []) 3 []) := a1.sl (by decide) (Nat.zero_le _)
  have a3 : tT K (kSl (kSl (kSl α 2 []) 3 []) 4 []) := a2.sl (by decide) (Nat.zero_le _)
  obtain ⟨M1, e1, g1⟩ := push_t (r := 2) (nI t) a3 (by decide) (by rw [kMx2]; show 0 < 4096; decide)
  obtain ⟨M2, e2, g2⟩ := push_t (r := 3) 0 g1 (by decide) (by rw [kMx3]; show 0 < 4096; decide)
  obtain ⟨w1, ⟨w2, w3⟩, ⟨w4, w5⟩, -⟩ := h.2.1 t ht
  obtain ⟨β3, eβ3⟩ : ∃ β3, β3 = kRs (kRs (kSl (kSl (kSl α 2 []) 3 []) 4 []) 2 ([] ++ [nI t]) M1) 3 ([] ++ [0]) M2 := ⟨_, rfl⟩
  have hgo : f_Terms_rewrite N (nI m') (nI t) key α = f_Terms_rewrite_43 N N 0 (nI m') key β3 := by
    unfold f_Terms_rewrite
    rw [cut0 h (by decide), cut0 a1 (by decide), cut0 a2 (by decide)]
    refine (psh rfl e1).trans ?_
    refine (psh rfl e2).trans ?_
    rw [eβ3]
    rfl
  have g2' : tT K β3 := by rw [eβ3]; exact g2
  have cm : tmL L α β3 := by
    rw [eβ3]
    exact ((((ch.rs (by decide)).tr (ch.rs (by decide))).tr (ch.rs (by decide))).tr (ch.rs (by decide))).tr (ch.rs (by decide))
  have q2 : β3.2.1 2 = [] ++ [nI t] := by rw [eβ3]; rfl
  have q3 : β3.2.1 3 = [] ++ [nI 0] := by rw [eβ3]; rfl
  have q4 : β3.2.1 4 = [] := by rw [eβ3]; rfl
  have qn : tn β3 = tn α := by rw [eβ3]; rfl
  have qK : nK β3 t = nK α t := by rw [eβ3]; rfl
  have qS : nS β3 t = nS α t := by rw [eβ3]; rfl
  have qD : nD β3 t = nD α t := by rw [eβ3]; rfl
  have i9 : (if nK α t = 9 then 1 else 0) ≤ 1 := by split <;> omega
  rw [hgo]
  have R := rw_go (K := K) h4 (Nat.lt_trans (by decide) hN) hm t β3 [] [] [] 0 g2' (by omega) q2 q3 q4 rfl (by rw [qS, qK]; show 0 + _ + _ ≤ _; omega) (by rw [qD, qK]; show 0 + _ + _ ≤ _; omega) (by rw [qS]; omega) (fun z => by obtain ⟨kk, z1, z2⟩ := hkey z; exact ⟨kk, z1, z2.g cm.2.2⟩)
  rw [qS] at R
  rcases R with ⟨c, γ, hc, ⟨b1, b2, b3, b4, v, b5, b6, b7, b8, b9⟩, e⟩ | ⟨c, γ, hc, ⟨b1, b2⟩, e⟩
  · obtain ⟨n, hn⟩ : ∃ n, N = (n + 1) + c := ⟨N - 1 - c, by omega⟩
    have e' := e (n + 1) 0 (by omega)
    rw [← hn, Nat.zero_add] at e'
    have e'' : f_Terms_rewrite_43 N N 0 (nI m') key β3 = f_Terms_rewrite_j340 N (nI m') γ := by
      refine e'.trans ?_
      rw [f_Terms_rewrite_43, if_neg (l24_lt (by omega)), if_pos]
      unfold fR_size
      rw [b3]
      decide
    rw [e'']
    have cm2 : tmL L α γ := cm.tr b2
    have lf2 : lfm m' key α → sh γ t v := fun z => b8 (by
      rcases z with z | z | ⟨z, kk, z1, z2, z3, z4⟩
      · exact Or.inl z
      · exact Or.inr (Or.inl z)
      · obtain ⟨zz, -⟩ := g_n cm.2.2 z2
        exact Or.inr (Or.inr ⟨z, kk, z1, by omega, by omega, by omega⟩))
    have lf3 : ∀ y y', lvk m' key y y' α → FL α y t → FL γ y' v := fun y y' z1 z2 => b9 y y' (z1.g h.1.1 h.2.1 cm.2.2) (z2.g h.1.1 h.2.1 cm.2.2 ht)
    have x1 : fR_pop γ 4 = (nI v, kSl γ 4 []) := pop_e b5
    have s1 : tT K (kSl γ 4 []) := b1.sl (by decide) (Nat.zero_le _)
    have s2 : tmL L α (kSl γ 4 []) := cm2.tr (ch.rs (by decide))
    have k9 : nK γ v = 9 ↔ nK α t = 9 := by rw [b7, qK]
    have j358 : tI (f_Terms_rewrite_j358 N (nI v) (kSl γ 4 [])) (fun v β => tT K β ∧ tmL L α β ∧ ∃ j, v = nI j ∧ j < tn β ∧ (nK β j = 9 ↔ nK α t = 9) ∧ (lfm m' key α → sh β t j) ∧ ∀ y y', lvk m' key y y' α → FL α y t → FL β y' j) (fun β => tT K β ∧ tmL L α β) := by
      unfold f_Terms_rewrite_j358
      refine (charge_ok _ s1).bi (fun β q => ?_) (fun β q => ⟨q.1, s2.tr (q.2.mo (by simp) (by decide))⟩)
      have w : tmL L (kSl γ 4 []) β := q.2.mo (by simp) (by decide)
      have gg : grw γ β := (show grw γ (kSl γ 4 []) from grw.rf).tr w.2.2
      obtain ⟨kv, -⟩ := g_n gg b6
      have tg := gg.1
      exact tI.ret ⟨q.1, s2.tr w, v, rfl, by omega, by rw [kv]; exact k9, fun z => (lf2 z).g b1.1.1 b1.2.1 gg (by have := b2.2.2.1; omega) b6, fun y y' z1 z2 => (lf3 y y' z1 z2).g b1.1.1 b1.2.1 gg b6⟩
    unfold f_Terms_rewrite_j340
    rw [x1]
    refine tI.ite (fun _ => j358) (fun _ => tI.ite (fun _ => j358) (fun _ => tI.ret ⟨s1, s2, v, rfl, b6, k9, fun z => (lf2 z).g b1.1.1 b1.2.1 (show grw γ (kSl γ 4 []) from grw.rf) (by have := b2.2.2.1; omega) b6, fun y y' z1 z2 => (lf3 y y' z1 z2).g b1.1.1 b1.2.1 (show grw γ (kSl γ 4 []) from grw.rf) b6⟩))
  · obtain ⟨n, hn⟩ : ∃ n, N = n + c := ⟨N - c, by omega⟩
    have e' := e n 0 (by omega)
    rw [← hn] at e'
    refine Or.inr ⟨γ, e', b1, cm.tr b2⟩
theorem rewrite_ok {N K m' t : Nat} {key : Int32} {α : kS} (hN : 16777216 < N) (h : tT K α) (hm : m' ≤ 5) (ht : t < tn α) (hkey : m' ≤ 1 → ∃ kk, key = nI kk ∧ qT α kk) (h4 : m' ≠ 4 := by decide) :
    tI (f_Terms_rewrite N (nI m') (nI t) key α) (fun v β => tT K β ∧ tm α β ∧ ∃ j, v = nI j ∧ j < tn β ∧ (nK β j = 9 ↔ nK α t = 9) ∧ (lfm m' key α → sh β t j)) (fun β => tT K β ∧ tm α β) :=
  (rewrite_w (L := []) hN h hm ht hkey (fun y => absurd y h4)).mono (fun _ _ ⟨a, b, j, c, d, e, f, _⟩ => ⟨a, b, j, c, d, e, f⟩) (fun _ q => q)
/-- with FREE variables made -/
theorem rewrite_f {N K m' t : Nat} {key : Int32} {α : kS} (hN : 16777216 < N) (h : tT K α) (hm : m' ≤ 5) (ht : t < tn α) (hkey : m' ≤ 1 → ∃ kk, key = nI kk ∧ qT α kk) :
    tI (f_Terms_rewrite N (nI m') (nI t) key α) (fun v β => tT K β ∧ tmL [100] α β ∧ ∃ j, v = nI j ∧ j < tn β ∧ (nK β j = 9 ↔ nK α t = 9) ∧ (lfm m' key α → sh β t j)) (fun β => tT K β ∧ tmL [100] α β) :=
  (rewrite_w (L := [100]) hN h hm ht hkey (fun _ => by decide)).mono (fun _ _ ⟨a, b, j, c, d, e, f, _⟩ => ⟨a, b, j, c, d, e, f⟩) (fun _ q => q)
