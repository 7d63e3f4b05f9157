-- rewrite: all turns of a TERM
theorem lo_at {α : kS} {j : Nat} (hO : kOk α) (hj : j < tn α) : f_Terms_loose (nI j) α = tLo α j := by
  obtain ⟨e, h1, -⟩ := hO.n
  unfold f_Terms_loose
  rw [if_neg (nI_pos (by omega)), e, if_neg (nI_ge hj (by omega)), nI_clamp (by omega)]
  rfl
/-- a CONSTANT is touched by no way of rewriting that looks at loose variables -/
theorem const_free {K t o : Nat} {m key : Int32} {β : kS} (h : tT K β) (ht : t < tn β) (h2 : m ≠ 2) (h5 : m ≠ 5) (hu : f_Terms_isUntouched m (nI t) key (nI o) β = 0) (ho : o < 2 ^ 31) : ¬ (nK β t = 3 ∨ nK β t = 4) := by
  intro h34
  have e := (h.2.1 t ht).2.2.2.2.2.1 h34
  unfold f_Terms_isUntouched at hu
  rw [if_neg h5, if_neg h2, lo_at h.1.1 ht, e, if_neg (nI_pos ho)] at hu
  exact absurd hu (by decide)
/-- rewriting this way keeps the shape -/
def lfm (m : Nat) (key : Int32) (β : kS) : Prop := m = 3 ∨ m = 4 ∨ (m = 0 ∧ ∃ kk, key = nI kk ∧ kk < tn β ∧ nK β kk < 5 ∧ nK β kk ≠ 3)
theorem lfm.g {m : Nat} {key : Int32} {β γ : kS} (h : lfm m key γ) (hg : grw β γ) (hk : m ≤ 1 → ∃ kk, key = nI kk ∧ qT β kk) (hn : tn γ < 2 ^ 31) : lfm m key β := by
  rcases h with h | h | ⟨h, kk, e, h1, h2, h3⟩
  · exact Or.inl h
  · exact Or.inr (Or.inl h)
  · obtain ⟨k2, e2, h4⟩ := hk (by omega)
    have hg1 := hg.1
    have : k2 = kk := (nI_eq (by have := h4.1; omega) (by omega)).mp (e2.symm.trans e)
    subst this
    obtain ⟨a, -⟩ := g_n hg h4.1
    exact Or.inr (Or.inr ⟨h, k2, e, h4.1, by omega, by omega⟩)
/-- a turn at a leaf that is changed -/
theorem turn_leaf {Lf : List Nat} {N K t o m' : Nat} {key : Int32} {β : kS} {T O : List Int32} (hN : 524288 < N) (h : tT K β) (ht : t < tn β) (e2 : β.2.1 2 = T ++ [nI t]) (e3 : β.2.1 3 = O ++ [nI o]) (h5 : nK β t < 5) (hb : (β.2.1 4).length < 512) (h4 : m' = 4 → 100 ∈ Lf) (hm : 2 ≤ m') (hm5 : m' ≤ 5) (ho : o < 2 ^ 31) (hu : f_Terms_isUntouched (nI m') (nI t) key (nI o) β = 0) :
    rS N (nI m') key β 1 (fun γ => tT K γ ∧ tmL Lf β γ ∧ γ.2.1 2 = T ∧ γ.2.1 3 = O ∧ ∃ v, γ.2.1 4 = β.2.1 4 ++ [nI v] ∧ v < tn γ ∧ nK γ v < 5 ∧ (m' = 3 ∨ m' = 4 → sh γ t v) ∧ (m' = 2 → nK γ v = 0) ∧ (m' = 5 → nK γ v = 1 → nK β t = 1 ∧ tLf γ v = tLf β t)) (fun γ => tT K γ ∧ tmL Lf β γ) := by
  obtain ⟨-, hn, -⟩ := h.1.1.n
  have g0 : tT K (kSl (kSl β 3 O) 2 T) := (h.sl (r := 3) (by decide) (by rw [e3, List.length_append]; omega)).sl (r := 2) (by decide) (by show T.length ≤ (β.2.1 2).length; rw [e2, List.length_append]; omega)
  have gm : tmL Lf β (kSl (kSl β 3 O) 2 T) := (ch.rs (by decide)).tr (ch.rs (by decide))
  have hk : f_Terms_kind (nI t) β = nI (nK β t) := kd_at h.1.1 ht
  have hl : f_Terms_left (nI t) β = tLf β t := lf_in h.1.1 ht
  have n5 : ¬ 5 ≤ f_Terms_kind (nI t) β := by rw [hk]; exact nI_ge (a := nK β t) (b := 5) h5 (by decide)
  have m1 : 1 < nI m' := nI_lt (a := 1) (by omega) (by omega)
  have hmm : ∀ a : Nat, a ≤ 5 → (nI m' = nI a ↔ m' = a) := fun a ha => nI_eq (by omega) (by omega)
  -- what is made
  have hw : ∃ k' rr, k' < 5 ∧ (k' = 1 → nf β → 100 ∈ Lf) ∧ (k' = 3 ∨ k' = 4 → nK β t = k' ∧ f_Terms_changedName (nI m') (nI t) key (nI o) β = tLf β t) ∧ (m' = 3 ∨ m' = 4 → ¬ (nK β t = 3 ∨ nK β t = 4) ∧ k' ≠ 3) ∧ (m' = 2 → k' = 0) ∧ (m' = 5 → k' = 1 → nK β t = 1 ∧ f_Terms_changedName (nI m') (nI t) key (nI o) β = tLf β t) ∧
      ∀ k x, rT N k x (nI m') key (nI t) (nI o) (kSl (kSl β 3 O) 2 T) = kBi (f_Terms_make N (nI k') (f_Terms_changedName (nI m') (nI t) key (nI o) β) rr (kSl (kSl β 3 O) 2 T)) fun v α => kBv (fR_push α 4 v) fun α2 => k (x + 1) (nI m') key α2 := by
    have hck : ∃ k', f_Terms_changedKind (nI m') (nI (nK β t)) (kSl (kSl β 3 O) 2 T) = nI k' ∧ k' < 5 ∧ (k' = 1 → nf β → 100 ∈ Lf) ∧ (k' = 3 ∨ k' = 4 → nK β t = k' ∧ f_Terms_changedName (nI m') (nI t) key (nI o) β = tLf β t) ∧ (m' = 3 ∨ m' = 4 → ¬ (nK β t = 3 ∨ nK β t = 4) ∧ k' ≠ 3) ∧ (m' = 2 → k' = 0) ∧ (m' = 5 → k' = 1 → nK β t = 1 ∧ f_Terms_changedName (nI m') (nI t) key (nI o) β = tLf β t) := by
      unfold f_Terms_changedKind
      by_cases c2 : m' = 2
      · rw [if_pos (show nI m' = 2 from (hmm 2 (by omega)).mpr c2)]
        exact ⟨0, rfl, by omega, fun z => by omega, fun z => by omega, fun z => by omega, fun _ => rfl, fun _ z => by omega⟩
      · have d2 : ¬ nI m' = 2 := fun z => c2 ((hmm 2 (by omega)).mp z)
        rw [if_neg d2]
        by_cases c4 : m' = 4
        · rw [if_pos (show nI m' = 4 from (hmm 4 (by omega)).mpr c4)]
          have := const_free h ht (m := nI m') d2 (fun z => by have := (hmm 5 (by omega)).mp z; omega) hu ho
          exact ⟨1, rfl, by omega, fun _ _ => h4 c4, fun z => by omega, fun z => ⟨this, by omega⟩, fun z => by omega, fun z => by omega⟩
        · have d4 : ¬ nI m' = 4 := fun z => c4 ((hmm 4 (by omega)).mp z)
          rw [if_neg d4]
          refine ⟨nK β t, rfl, h5, fun y hf => absurd y (hf t ht), ?_, ?_, fun z => absurd z c2, ?_⟩
          · intro z
            by_cases c3 : m' = 3
            · exact absurd z (const_free h ht (m := nI m') d2 (fun z => by have := (hmm 5 (by omega)).mp z; omega) hu ho)
            · have d3 : ¬ nI m' = 3 := fun z => c3 ((hmm 3 (by omega)).mp z)
              refine ⟨rfl, ?_⟩
              unfold f_Terms_changedName
              rw [if_neg d2, if_neg d3, if_neg d4, hk, if_neg (fun q => by have := (nI_eq (a := nK β t) (b := 2) (by omega) (by omega)).mp q; omega), hl]
          · intro z
            have := const_free h ht (m := nI m') d2 (fun z => by have := (hmm 5 (by omega)).mp z; omega) hu ho
            exact ⟨this, fun q => this (Or.inl q)⟩
          · intro z z1
            refine ⟨z1, ?_⟩
            have d3 : ¬ nI m' = 3 := fun q => by have := (hmm 3 (by omega)).mp q; omega
            unfold f_Terms_changedName
            rw [if_neg d2, if_neg d3, if_neg d4, hk, if_neg (fun q => by have := (nI_eq (a := nK β t) (b := 2) (by omega) (by omega)).mp q; omega), hl]
    obtain ⟨k', ek, c1, c0, c2, c3, c4, c5⟩ := hck
    have e231 : ∀ (rr : Int32) (k : Int32 → Int32 → Int32 → kS → Option (kO × kS)) (x : Int32), f_Terms_rewrite_j231 N k (f_Terms_changedName (nI m') (nI t) key (nI o) β) (nI t) x (nI m') key rr (kSl (kSl β 3 O) 2 T) = kBi (f_Terms_make N (nI k') (f_Terms_changedName (nI m') (nI t) key (nI o) β) rr (kSl (kSl β 3 O) 2 T)) fun v α => kBv (fR_push α 4 v) fun α2 => k (x + 1) (nI m') key α2 := by
      intro rr k x
      unfold f_Terms_rewrite_j231
      rw [show f_Terms_kind (nI t) (kSl (kSl β 3 O) 2 T) = f_Terms_kind (nI t) β from rfl, hk, ek]
    have hrT : ∀ (k : Int32 → Int32 → Int32 → kS → Option (kO × kS)) (x : Int32), rT N k x (nI m') key (nI t) (nI o) (kSl (kSl β 3 O) 2 T) = f_Terms_rewrite_j178 N k (nI t) (nI o) x (nI m') key (kSl (kSl β 3 O) 2 T) := by
      intro k x
      unfold rT
      refine (if_pos (nI_le (a := 0) (Nat.zero_le _) (by omega))).trans ?_
      refine (if_pos hu).trans ?_
      refine (if_neg n5).trans ?_
      exact if_pos m1
    by_cases q : f_Terms_kind (nI t) β = 4 ∧ f_Terms_right (nI t) β = 101
    · refine ⟨k', key, c1, c0, c2, c3, c4, c5, fun k x => ?_⟩
      rw [hrT]
      unfold f_Terms_rewrite_j178
      refine (if_neg n5).trans ?_
      refine (if_pos q.1).trans ?_
      refine (if_pos q.2).trans ?_
      exact e231 key k x
    · refine ⟨k', f_Terms_right (nI t) β, c1, c0, c2, c3, c4, c5, fun k x => ?_⟩
      rw [hrT]
      unfold f_Terms_rewrite_j178
      refine (if_neg n5).trans ?_
      by_cases q1 : f_Terms_kind (nI t) β = 4
      · refine (if_pos q1).trans ?_
        refine (if_neg (fun z => q ⟨q1, z⟩)).trans ?_
        exact e231 _ k x
      · refine (if_neg q1).trans ?_
        exact e231 _ k x
  obtain ⟨k', rr, c1, c0, c2, ⟨c3, c4, c5, hrT⟩⟩ := hw
  have ht3 : k' = 3 ∨ k' = 4 → ∃ c, f_Terms_changedName (nI m') (nI t) key (nI o) β = nI c ∧ c < K := fun z => by
    obtain ⟨z1, z2⟩ := c2 z
    rw [z2]
    exact h.2.2 t ht (by omega)
  refine (turn_mk hN h e2 e3 g0 gm rfl rfl rfl hb (by omega) (fun z => by omega) ht3 c0 hrT).mono (Nat.le_refl _) (fun γ q => ?_) (fun _ q => q)
  obtain ⟨q1, q2, q3, q4, v, q5, q6, q7, q8, -⟩ := q
  refine ⟨q1, q2, q3, q4, v, q5, q6, by omega, fun z => ?_, fun z => by have := c4 z; omega, fun z z1 => ?_⟩
  · obtain ⟨z1, z2⟩ := c3 z
    obtain ⟨n1, -⟩ := g_n q2.2.2 ht
    exact sh.lf (by omega) (by omega) fun y => by omega
  · obtain ⟨z2, z3⟩ := c5 z (by omega)
    exact ⟨z2, by rw [q8, z3]⟩
theorem m1m1 (a : Int32) : (-1) - ((-1) - a) = a := by
  rw [Int32.sub_eq_add_neg, Int32.sub_eq_add_neg, Int32.neg_add, Int32.sub_eq_add_neg, Int32.neg_neg, Int32.neg_neg, ← Int32.add_assoc, show (-1 : Int32) + 1 = 0 from by decide, Int32.zero_add]
theorem m1_neg {t : Nat} (h : t < 2 ^ 31) : ¬ (0 : Int32) ≤ (-1) - nI t := by
  rw [Int32.le_iff_toInt_le, Int32.toInt_sub, nI_toInt h]
  show ¬ (0 : Int) ≤ ((-1 : Int) - (t : Int)).bmod (2 ^ 32)
  rw [Int.bmod_eq_of_le (by omega) (by omega)]
  omega
theorem rw_go {Lf : List Nat} {N K m' : Nat} {key : Int32} (h4 : m' = 4 → 100 ∈ Lf) (hN : 524288 < N) (hm : m' ≤ 5) : ∀ (t : Nat) (β : kS) (T O B : List Int32) (o : Nat), tT K β → t < tn β → β.2.1 2 = T ++ [nI t] → β.2.1 3 = O ++ [nI o] → β.2.1 4 = B → O.length = T.length → T.length + nS β t + (if nK β t = 9 then 1 else 0) ≤ 3002 → B.length + 2 * nD β t + (if nK β t = 9 then 1 else 0) ≤ 410 → o + nS β t ≤ 4000 → (m' ≤ 1 → ∃ kk, key = nI kk ∧ qT β kk) →
    rS N (nI m') key β (4 * nS β t - 2) (fun γ => tT K γ ∧ tmL Lf β γ ∧ γ.2.1 2 = T ∧ γ.2.1 3 = O ∧ ∃ v, γ.2.1 4 = B ++ [nI v] ∧ v < tn γ ∧ (nK γ v = 9 ↔ nK β t = 9) ∧ (lfm m' key β → sh γ t v) ∧ ∀ y y', lvk m' key y y' β → FL β y t → FL γ y' v) (fun γ => tT K γ ∧ tmL Lf β γ) := by
  intro t
  induction t using Nat.strongRecOn with
  | ind t ih =>
    intro β T O B o h ht e2 e3 e4 hOT hT hB ho hkey
    subst e4
    obtain ⟨-, hn, -⟩ := h.1.1.n
    obtain ⟨w1, ⟨w2, w3⟩, ⟨w4, w5⟩, w6, -, -⟩ := h.2.1 t ht
    have hk : f_Terms_kind (nI t) β = nI (nK β t) := kd_at h.1.1 ht
    have t0 : (0 : Int32) ≤ nI t := nI_le (a := 0) (Nat.zero_le _) (by omega)
    have hb : (β.2.1 4).length < 512 := by omega
    by_cases hu : f_Terms_isUntouched (nI m') (nI t) key (nI o) β = 0
    · rcases Nat.lt_or_ge (nK β t) 5 with h5 | h5
      · rcases Nat.lt_or_ge 1 m' with hm1 | hm1
        · refine (turn_leaf hN h ht e2 e3 h5 hb h4 hm1 hm (by omega) hu).mono (by omega) (fun γ q => ?_) (fun _ q => q)
          obtain ⟨q1, q2, q3, q4, v, q5, q6, q7, q8⟩ := q
          obtain ⟨q8, q9, q10⟩ := q8
          refine ⟨q1, q2, q3, q4, v, q5, q6, by omega, fun z => q8 ?_, fun y y' hl hF => FL_leaf q7 fun h1 => ?_⟩
          · rcases z with z | z | z
            · exact Or.inl z
            · exact Or.inr z
            · omega
          · rcases hl with ⟨z, -⟩ | ⟨z, rfl⟩ | ⟨z, -⟩
            · omega
            · obtain ⟨z1, z2⟩ := q10 z h1
              rw [z2]
              exact (hF 1).1 z1
            · have := q9 z
              omega
        · obtain ⟨kk, rfl, hv⟩ := hkey hm1
          have n5 : ¬ 5 ≤ f_Terms_kind (nI t) β := by rw [hk]; exact nI_ge (a := nK β t) (b := 5) h5 (by decide)
          have n1 : ¬ (1 : Int32) < nI m' := nI_nlt (a := 1) (b := m') hm1 (by decide)
          refine (turn_push (L := Lf) (v := nI kk) h e2 e3 hb (fun k x => ?_)).mono (by omega) (fun γ q => ?_) (fun _ q => q)
          · unfold rT
            refine (if_pos t0).trans ?_
            refine (if_pos hu).trans ?_
            refine (if_neg n5).trans ?_
            exact if_neg n1
          · obtain ⟨q1, q2, q3, q4, q5, -, -⟩ := q
            obtain ⟨n1, -⟩ := g_n q2.2.2 hv.1
            obtain ⟨n2, -⟩ := g_n q2.2.2 ht
            have hv2 := hv.2
            refine ⟨q1, q2, q3, q4, kk, q5, (hv.g q2.2.2).1, ⟨fun z => by omega, fun z => by omega⟩, fun z => ?_, fun y y' hl hF => ?_⟩
            rcases z with z | z | ⟨z, k2, z1, z2, z3, z4⟩
            · omega
            · omega
            · have hv1 := hv.1
              have : k2 = kk := (nI_eq (by omega) (by omega)).mp z1.symm
              subst this
              have hc := const_free h ht (m := nI m') (key := nI k2) (o := o) (fun y => by have := (nI_eq (a := m') (b := 2) (by omega) (by omega)).mp y; omega) (fun y => by have := (nI_eq (a := m') (b := 5) (by omega) (by omega)).mp y; omega) hu (by omega)
              exact sh.lf (by omega) (by omega) fun y => by omega
            · have hv1 := hv.1
              rcases hl with ⟨z, rfl, k2, z1, z2, z3⟩ | ⟨z, -⟩ | ⟨z, -⟩
              · have : k2 = kk := (nI_eq (by omega) (by omega)).mp z1.symm
                subst this
                exact z3.g h.1.1 h.2.1 q2.2.2 z2
              · omega
              · omega
      · obtain ⟨p1, p2, pl, pr, p3, p4, p5, p6⟩ := partsN h.1.1 h.2.1 ht h5
        have sl := (h.2.1 (lfN β t) (by omega)).2.1.1
        have sr := (h.2.1 (rtN β t) (by omega)).2.1.1
        have hT3 : T.length + 3 ≤ 4096 := by omega
        obtain ⟨b, hb1, hr1⟩ := turn_node (L := Lf) (N := N) (m := nI m') (key := key) h ht e2 e3 h5 hT3 hOT hu (X := fun γ => tT K γ ∧ tmL Lf β γ)
        have nd : nD β (lfN β t) ≤ nD β t ∧ 2 * nD β (rtN β t) + 1 + (if nK β (rtN β t) = 9 then 1 else 0) ≤ 2 * nD β t + (if nK β t = 9 then 1 else 0) ∧ nS β (lfN β t) + 2 ≤ nS β t + (if nK β t = 9 then 1 else 0) ∧ nS β (rtN β t) + 1 + (if nK β (rtN β t) = 9 then 1 else 0) ≤ nS β t ∧ nS β (lfN β t) + nS β (rtN β t) ≤ nS β t := by
          by_cases c8 : nK β t = 8
          · rw [if_pos (p4.mpr c8)]
            rw [if_neg (by omega)] at p5
            rw [if_neg (by omega), if_neg (by omega)] at p6
            rw [if_neg (by omega)]
            omega
          · have : ¬ nK β (rtN β t) = 9 := fun z => c8 (p4.mp z)
            rw [if_neg this]
            by_cases c9 : nK β t = 9
            · rw [if_pos c9] at p5
              rw [if_neg (by omega), if_pos c9] at p6
              rw [if_pos c9]
              omega
            · rw [if_neg c9] at p5
              rw [if_neg c9]
              by_cases c5 : nK β t = 5
              · rw [if_pos c5] at p6
                omega
              · rw [if_neg c5, if_neg c9] at p6
                omega
        obtain ⟨nd1, nd2, nd3, nd4, nd5⟩ := nd
        have h9l : (if nK β (lfN β t) = 9 then 1 else 0) = 0 := if_neg p3
        refine (rS.seq hr1 (D := (4 * nS β (lfN β t) - 2) + ((4 * nS β (rtN β t) - 2) + 1)) (Q' := fun γ => tT K γ ∧ tmL Lf β γ ∧ γ.2.1 2 = T ∧ γ.2.1 3 = O ∧ ∃ v, γ.2.1 4 = β.2.1 4 ++ [nI v] ∧ v < tn γ ∧ (nK γ v = 9 ↔ nK β t = 9) ∧ (lfm m' key β → sh γ t v) ∧ ∀ y y', lvk m' key y y' β → FL β y t → FL γ y' v) (X' := fun γ => tT K γ ∧ tmL Lf β γ) (fun γ q => ?_) (fun _ q => q)).mono (by omega) (fun _ q => q) (fun _ q => q)
        obtain ⟨q1, q2, q3, q4, q5, q6, q7⟩ := q
        obtain ⟨al, bl, cl, -⟩ := g_n q2.2.2 (i := lfN β t) (by omega)
        obtain ⟨ar, br, cr, -⟩ := g_n q2.2.2 (i := rtN β t) (by omega)
        have tg := q2.2.2.1
        have L := ih (lfN β t) pl γ (T ++ [(-1) - nI t] ++ [nI (rtN β t)]) (O ++ [nI 0] ++ [nI (o + b)]) (β.2.1 4) o q1 (by omega) q3 q4 q5 (by simp [hOT]) (by rw [al, bl, h9l]; simp only [List.length_append, List.length_cons, List.length_nil]; omega) (by rw [al, cl, h9l]; omega) (by rw [bl]; omega) (fun z => by obtain ⟨kk, z1, z2⟩ := hkey z; exact ⟨kk, z1, z2.g q2.2.2⟩)
        rw [bl] at L
        refine rS.seq L (fun δ s => ?_) (fun _ q => ⟨q.1, q2.tr q.2⟩)
        obtain ⟨s1, s2, s3, s4, v1, s5, s6, s7, s8, s9⟩ := s
        obtain ⟨ar', br', cr', -⟩ := g_n s2.2.2 (i := rtN β t) (by omega)
        have tg' := s2.2.2.1
        have R := ih (rtN β t) pr δ (T ++ [(-1) - nI t]) (O ++ [nI 0]) (β.2.1 4 ++ [nI v1]) (o + b) s1 (by omega) s3 s4 s5 (by simp [hOT]) (by rw [ar', br', ar, br]; simp only [List.length_append, List.length_cons, List.length_nil]; omega) (by rw [ar', cr', ar, cr]; simp only [List.length_append, List.length_cons, List.length_nil]; omega) (by rw [br', br]; omega) (fun z => by obtain ⟨kk, z1, z2⟩ := hkey z; exact ⟨kk, z1, (z2.g q2.2.2).g s2.2.2⟩)
        rw [br', br] at R
        refine rS.seq R (fun ε u => ?_) (fun _ q => ⟨q.1, (q2.tr s2).tr q.2⟩)
        obtain ⟨u1, u2, u3, u4, v2, u5, u6, u7, u8, u9⟩ := u
        obtain ⟨-, hn', -⟩ := u1.1.1.n
        have gb : tmL Lf β ε := (q2.tr s2).tr u2
        have g0 : tT K (kSl (kSl ε 3 O) 2 T) := (u1.sl (r := 3) (by decide) (by rw [u4, List.length_append]; omega)).sl (r := 2) (by decide) (by show T.length ≤ (ε.2.1 2).length; rw [u3, List.length_append]; omega)
        have g1 : tT K (kSl (kSl (kSl ε 3 O) 2 T) 4 (β.2.1 4 ++ [nI v1])) := g0.sl (r := 4) (by decide) (by show _ ≤ (ε.2.1 4).length; rw [u5, List.length_append (as := β.2.1 4 ++ [nI v1])]; exact Nat.le_add_right _ _)
        have g2 : tT K (kSl (kSl (kSl (kSl ε 3 O) 2 T) 4 (β.2.1 4 ++ [nI v1])) 4 (β.2.1 4)) := g1.sl (r := 4) (by decide) (by show _ ≤ (β.2.1 4 ++ [nI v1]).length; rw [List.length_append]; exact Nat.le_add_right _ _)
        obtain ⟨kt, -⟩ := g_n gb.2.2 ht
        have te := gb.2.2.1
        have kke : f_Terms_kind (nI t) ε = nI (nK β t) := by rw [kd_at u1.1.1 (by omega), kt]
        have v1e : v1 < tn ε := Nat.lt_of_lt_of_le s6 u2.2.2.1
        obtain ⟨kv1, -⟩ := g_n u2.2.2 s6
        refine (turn_mk (L := Lf) (kk := nK β t) (l := nI v1) (r := nI v2) (B := β.2.1 4) (γ1 := kSl (kSl (kSl (kSl ε 3 O) 2 T) 4 (β.2.1 4 ++ [nI v1])) 4 (β.2.1 4)) hN u1 u3 u4 g2 ?_ rfl rfl rfl hb w1 (fun _ => ⟨v1, v2, rfl, rfl, ?_⟩) (fun z => by omega) (fun z => by omega) (fun k x => ?_)).mono (Nat.le_refl _) (fun η q => ?_) (fun _ q => ⟨q.1, gb.tr q.2⟩)
        · exact (((ch.rs (by decide)).tr (ch.rs (by decide))).tr (ch.rs (by decide))).tr (ch.rs (by decide))
        · show v1 < tn ε ∧ v2 < tn ε ∧ nK ε v1 ≠ 9 ∧ (nK ε v2 = 9 ↔ nK β t = 8)
          refine ⟨v1e, u6, ?_, ?_⟩
          · rw [kv1]
            intro z
            exact p3 (al ▸ s7.mp z)
          · rw [u7, ar', ar]
            exact p4
        · unfold rT
          refine (if_neg (m1_neg (by omega))).trans ?_
          have x1 : fR_pop (kSl (kSl ε 3 O) 2 T) 4 = (nI v2, kSl (kSl (kSl ε 3 O) 2 T) 4 (β.2.1 4 ++ [nI v1])) := pop_e u5
          have x2 : fR_pop (kSl (kSl (kSl ε 3 O) 2 T) 4 (β.2.1 4 ++ [nI v1])) 4 = (nI v1, kSl (kSl (kSl (kSl ε 3 O) 2 T) 4 (β.2.1 4 ++ [nI v1])) 4 (β.2.1 4)) := pop_e rfl
          rw [x1]
          show kBi (f_Terms_make N (f_Terms_kind ((-1) - ((-1) - nI t)) (fR_pop (kSl (kSl (kSl ε 3 O) 2 T) 4 (β.2.1 4 ++ [nI v1])) 4).2) (fR_pop (kSl (kSl (kSl ε 3 O) 2 T) 4 (β.2.1 4 ++ [nI v1])) 4).1 (nI v2) (fR_pop (kSl (kSl (kSl ε 3 O) 2 T) 4 (β.2.1 4 ++ [nI v1])) 4).2) _ = _
          rw [x2, m1m1]
          show kBi (f_Terms_make N (f_Terms_kind (nI t) ε) _ _ _) _ = _
          rw [kke]
        · obtain ⟨y1, y2, y3, y4, v, y5, y6, y7, y8, y9⟩ := q
          have g9 : grw β η := gb.2.2.tr y2.2.2
          obtain ⟨kt2, -⟩ := g_n g9 ht
          obtain ⟨lt1, lt2⟩ := g_lf g9 ht
          have vl : lfN η v = v1 := by unfold lfN; rw [y8, nI_clamp (by omega)]
          have vr : rtN η v = v2 := by unfold rtN; rw [y9, nI_clamp (by omega)]
          refine ⟨y1, gb.tr y2, y3, y4, v, y5, y6, by rw [y7], fun z => ?_, fun yy yy' hl hF => ?_⟩
          rotate_left
          · obtain ⟨f1, f2⟩ := FL_p hF h5
            refine FL_mk (by omega) ?_ ?_
            · rw [vl]
              exact (s9 yy yy' (hl.g h.1.1 h.2.1 q2.2.2) (f1.g h.1.1 h.2.1 q2.2.2 (by omega))).g s1.1.1 s1.2.1 (u2.2.2.tr y2.2.2) s6
            · rw [vr]
              exact (u9 yy yy' (hl.g h.1.1 h.2.1 (q2.2.2.tr s2.2.2)) (f2.g h.1.1 h.2.1 (q2.2.2.tr s2.2.2) (by omega))).g u1.1.1 u1.2.1 y2.2.2 u6
          have za : lfm m' key γ := by
            rcases z with z | z | ⟨z, kk, z1, z2, z3, z4⟩
            · exact Or.inl z
            · exact Or.inr (Or.inl z)
            · obtain ⟨zz, -⟩ := g_n q2.2.2 z2
              exact Or.inr (Or.inr ⟨z, kk, z1, by omega, by omega, by omega⟩)
          have zb : lfm m' key δ := by
            rcases z with z | z | ⟨z, kk, z1, z2, z3, z4⟩
            · exact Or.inl z
            · exact Or.inr (Or.inl z)
            · obtain ⟨zz, -⟩ := g_n (q2.2.2.tr s2.2.2) z2
              exact Or.inr (Or.inr ⟨z, kk, z1, by omega, by omega, by omega⟩)
          refine sh.nd (by omega) (by omega) ?_ ?_
          · rw [lt1, vl]
            exact ((s8 za).g s1.1.1 s1.2.1 (u2.2.2.tr y2.2.2) (by omega) s6)
          · rw [lt2, vr]
            exact ((u8 zb).g u1.1.1 u1.2.1 y2.2.2 (by omega) u6)
    · refine (turn_push (L := Lf) (v := nI t) h e2 e3 hb (fun k x => ?_)).mono (by omega) (fun γ q => ?_) (fun _ q => q)
      · unfold rT
        refine (if_pos t0).trans ?_
        exact if_neg hu
      · obtain ⟨q1, q2, q3, q4, q5, -, -⟩ := q
        obtain ⟨n2, -⟩ := g_n q2.2.2 ht
        have tg := q2.2.2.1
        refine ⟨q1, q2, q3, q4, t, q5, by omega, by rw [n2], fun _ => sh.rf q1.1.1 q1.2.1 t (by omega), fun y y' hl hF => FL.g h.1.1 h.2.1 q2.2.2 ht ?_⟩
        rcases hl with ⟨-, rfl, -⟩ | ⟨-, rfl⟩ | ⟨z, z1, z2, z3⟩
        · exact hF
        · exact hF
        · refine fun n => FL_field h.1.1 h.2.1 n t ht (FLn_up z2 n t (hF n)) ?_
          subst z
          rcases Nat.lt_or_ge y' (fN β t) with zz | zz
          · refine absurd ?_ hu
            unfold f_Terms_isUntouched
            rw [if_neg (show ¬ nI 2 = 5 by decide), if_pos (show nI 2 = 2 from rfl), z1, fe_in h.1.1 ht, if_pos (nI_lt zz (by have := (fe_n β t).2; omega))]
          · exact zz
