-- a DECLARATION; read
section READM
variable {N c κ sz p : Nat} {Lr : Nat → Prop} {α β : mS}
/-- the beginning of a DECLARATION -/
def dE (α : mS) : mS := mSi (mSi (mSi (mSi (mSi (mSi (mSi (mSi α 22 0) 23 0) 24 0) 19 0) 20 0) 21 0) 10 32000) 28 (α.1 16)
theorem dE_ch (α : mS) : mch [10, 19, 20, 21, 22, 23, 24, 28] [] α (dE α) :=
  (mch.si (by decide)).tr ((mch.si (by decide)).tr ((mch.si (by decide)).tr ((mch.si (by decide)).tr ((mch.si (by decide)).tr ((mch.si (by decide)).tr ((mch.si (by decide)).tr (mch.si (by decide))))))))
theorem dE_d0 (h : MD c κ Lr α) (hL : LK sz p α) : D0 c κ Lr sz p (dE α) := by
  have hc := dE_ch α
  have hs : sN (· < κ) α (dE α) := sN.ch hc (fun r _ _ z => by cases z)
  obtain ⟨wu, w1, w2⟩ := h.2.2.1
  have hM : MD c κ Lr (dE α) := h.xd (wu := wu) (fun r _ _ j _ => by rw [hc.arr (fun z => by cases z)]) hs (hc.int (by decide)) (hc.int (by decide)) (hc.int (by decide)) ((hc.int (by decide)).trans w1) w2
  have h9 := hM.2.2.2.2.2.2.2.2
  have hP : PO (· < κ) 32000 c Lr 32000 (dE α) := ⟨rfl, Nat.le_refl _, by decide, fun i hi => (hM.2.2.2.2.1 i (hi.elim id fun z => by omega)).up (fun _ z => Or.inl z) (Nat.le_refl _) (fun _ z => z)⟩
  have e28 : (dE α).1 28 = nI c := h.1.1
  exact ⟨hM, ⟨hP, hL.ch hc (by decide), ⟨hM.2.2.2.1, e28, fun j hj z => (h9 j).mpr ⟨hj, z⟩⟩, ⟨rfl, fun i hi => absurd hi (Nat.not_lt_zero _)⟩, ⟨rfl, by decide, fun i hi => absurd hi (Nat.not_lt_zero _)⟩, ⟨0, rfl, by decide⟩⟩, ⟨hP, hM.2.2.2.2.2.1, rfl, by decide⟩, ⟨rfl, by decide, by decide⟩, rfl⟩
/-- a DECLARATION -/
theorem declaration_m (hN : 400000 < N) (h : MD c κ Lr α) (hL : PK sz p α) (h6 : α.1 6 ≠ 0) : rV (f_Mod_declaration N α) (DT c sz p α) (XD c κ α) := by
  have hc := dE_ch α
  have hs : sN (· < κ) α (dE α) := sN.ch hc (fun r _ _ z => by cases z)
  have d0 := dE_d0 h hL.1
  have xd : XD c κ α (dE α) := XD.of hc (by decide) (r1024 (by decide)) hs
  have n9 : (dE α).1 9 ≠ 0 := by rw [hc.int (by decide)]; exact hL.2
  have n6 : (dE α).1 6 ≠ 0 := by rw [hc.int (by decide)]; exact h6
  have fin : ∀ {f : Option (kO × mS)}, rV f (DT c sz p (dE α)) (XD c κ (dE α)) → rV (mBv f fun β => some (some none, β)) (DT c sz p α) (XD c κ α) := fun g => (g.mono (fun β q => by
    obtain ⟨p1, a1, c', κ', Lr', p', b1, b2, b3, b4, b5, b6⟩ := q
    exact ⟨p1, a1, c', κ', Lr', p', b1, b2, b3, b4, fun ⟨o, o1, o2⟩ => b5 ⟨o, (hc.int (by decide)).trans o1, o2⟩, fun i hi => (b6 i hi).trans (hc.int (by revert hi; revert i; decide))⟩) (fun β q => xd.tr q)).end
  have is : ∀ {r : Nat} {k : Int32 → mS → Option (kO × mS)}, r < 51 → (∀ v, rV (k v (dE α)) (DT c sz p α) (XD c κ α)) → rV (mBi (f_Mod_is N r (dE α)) k) (DT c sz p α) (XD c κ α) := fun {r k} hr hk => by
    obtain ⟨v, β, p', e, -, -, -, e9⟩ := is_ok (r := r) hN hr d0.2.1.2.1
    rw [e9 n9] at e
    rw [e]
    exact hk v
  unfold f_Mod_declaration
  refine is (by decide) fun v => rV.ite (fun _ => is (by decide) fun v => rV.ite (fun _ => is (by decide) fun v => rV.ite (fun _ => is (by decide) fun v => rV.ite (fun _ => is (by decide) fun v => rV.ite (fun _ => is (by decide) fun v => rV.ite (fun _ => ?_) fun _ => fin (evaluated_ok hN d0 n9 n6)) fun _ => fin (checked_ok hN d0 n9 n6)) fun _ => fin (inductive_ok hN d0 n9 n6)) fun _ => fin (stated_ok (how := 2) hN (by decide) d0 n9 n6)) fun _ => fin (stated_ok (how := 1) hN (by decide) d0 n9 n6)) fun _ => fin (stated_ok (how := 0) hN (by decide) d0 n9 n6)
  exact cant_v hN d0.2.1.2.1 (fun β q => xd.tr (XD.of q (by decide) (r1024 (by decide)) (sN.ch q (fun r _ _ z => by cases z))))
/-- between two calls: sz bytes are fed -/
def MI (sz : Nat) (α : mS) : Prop := (∃ c κ Lr, MD c κ Lr α) ∧ OS α ∧ α.1 0 = nI sz ∧ sz ≤ 65536
theorem MD.ch {I R : List Nat} (h : MD c κ Lr α) (hc : mch I R α β) (hI : ∀ i, i ∈ [15, 16, 17, 18] → i ∉ I) (hR : ∀ r, r ∈ [2, 3, 4, 5, 6, 7, 10, 11, 12, 13, 14, 15, 16, 17, 18, 19, 20, 21, 22, 23, 24] → r ∉ R) : MD c κ Lr β := by
  obtain ⟨wu, w1, w2⟩ := h.2.2.1
  exact h.xd (wu := wu) (fun r a b j _ => by rw [hc.arr (r1024 (P := fun r => r ∉ R) (fun r hr => hR r ((by decide : ∀ r, r ∈ [10, 11, 12, 13, 14, 15, 16, 17, 18, 19, 20, 21, 22, 23, 24] → r ∈ [2, 3, 4, 5, 6, 7, 10, 11, 12, 13, 14, 15, 16, 17, 18, 19, 20, 21, 22, 23, 24]) r hr)) r a b)]) (sN.ch hc (r27 (P := fun r => r ∉ R) (hR 2 (by decide)) (hR 3 (by decide)) (hR 4 (by decide)) (hR 5 (by decide)) (hR 6 (by decide)) (hR 7 (by decide)))) (hc.int (hI 16 (by decide))) (hc.int (hI 17 (by decide))) (hc.int (hI 18 (by decide))) ((hc.int (hI 15 (by decide))).trans w1) w2
theorem MI.ch {I R : List Nat} (h : MI sz α) (hc : mch I R α β) (hI : ∀ i, i ∈ [0, 1, 15, 16, 17, 18] → i ∉ I) (hR : ∀ r, r ∈ [2, 3, 4, 5, 6, 7, 10, 11, 12, 13, 14, 15, 16, 17, 18, 19, 20, 21, 22, 23, 24] → r ∉ R) : MI sz β := by
  obtain ⟨⟨c, κ, Lr, h1⟩, ⟨o, o1, o2⟩, h3, h4⟩ := h
  exact ⟨⟨c, κ, Lr, h1.ch hc (fun i hi => hI i ((by decide : ∀ i, i ∈ [15, 16, 17, 18] → i ∈ [0, 1, 15, 16, 17, 18]) i hi)) hR⟩, ⟨o, (hc.int (hI 1 (by decide))).trans o1, o2⟩, (hc.int (hI 0 (by decide))).trans h3, h4⟩
theorem OS.ch {I R : List Nat} (h : OS α) (hc : mch I R α β) (h1 : 1 ∉ I) : OS β := by
  obtain ⟨o, o1, o2⟩ := h
  exact ⟨o, (hc.int h1).trans o1, o2⟩
/-- what a fault leaves, once read has put it back -/
theorem MD.back {γ : mS} {I : List Nat} (h : MD c κ Lr α) (x : XD c κ α β) (hc : mch I [] β γ) (h16 : γ.1 16 = α.1 16) (h15 : γ.1 15 = α.1 15) (h17 : γ.1 17 = α.1 17) (h18 : γ.1 18 = α.1 18) : MD c κ Lr γ := by
  obtain ⟨wu, w1, w2⟩ := h.2.2.1
  exact h.xd (wu := wu) (fun r a b j hj => by rw [hc.arr (fun z => by cases z)]; exact x.2.1 r a b j hj) (x.2.2.tr (sN.ch hc (fun r _ _ z => by cases z))) h16 h17 h18 (h15.trans w1) w2
abbrev rdI : List Nat := [0, 3, 4, 15, 16, 17, 18]
theorem read_49 (hN : 400000 < N) : ∀ (d n p c κ : Nat) (Lr : Nat → Prop) (x5 x4 x3 x2 x1 : Int32) (α : mS), sz ≤ p + d → d < n → MD c κ Lr α → LK sz p α → OS α → ∃ v β, f_Mod_read_49 N n x5 x4 x3 x2 x1 α = some (v, β) ∧ MI 0 β
  | d, 0, p, c, κ, Lr, x5, x4, x3, x2, x1, α, hd, hn, hM, hL, hO => by omega
  | d, n + 1, p, c, κ, Lr, x5, x4, x3, x2, x1, α, hd, hn, hM, hL, hO => by
    obtain ⟨v, δ, p3, e3, hq3, hP3, h63, hc3⟩ := peek_ok hN hL
    unfold f_Mod_read_49
    rw [e3]
    show ∃ v' β, (if v = 0 then _ else _) = _ ∧ _
    have M3 := hM.ch hc3 (by decide) (by decide)
    have O3 := hO.ch hc3 (by decide)
    by_cases h0 : v = 0
    · rw [if_pos h0]
      have c0 : mch [0] [] δ (mSi δ 0 0) := mch.si (by decide)
      exact ⟨_, _, rfl, ⟨c, κ, Lr, M3.ch c0 (by decide) (by decide)⟩, O3.ch c0 (by decide), rfl, by decide⟩
    · rw [if_neg h0]
      obtain ⟨ε, eε⟩ : ∃ ε, ε = mSi δ 25 (δ.1 7) := ⟨_, rfl⟩
      rw [← eε]
      have cε : mch [25] [] δ ε := by rw [eε]; exact mch.si (by decide)
      have Mε := M3.ch cε (by decide) (by decide)
      have Oε := O3.ch cε (by decide)
      have Pε : PK sz p3 ε := ⟨hP3.1.ch cε (by decide), by rw [cε.int (by decide)]; exact hP3.2⟩
      rcases declaration_m hN Mε Pε (by rw [cε.int (by decide), h63]; exact h0) with ⟨ζ, e, q⟩ | ⟨ζ, e, q⟩
      · rw [e]
        obtain ⟨p1, a1, c', κ', Lr', p', b1, b2, b3, b4, b5, b6⟩ := q
        have cζ : mch [26, 27] [] ζ (mSi (mSi ζ 26 (ζ.1 26 + 1)) 27 (ζ.1 22)) := (mch.si (by decide)).tr (mch.si (by decide))
        have l4 := b4.2.2.2.1
        exact read_49 hN (d - 1) n p' c' κ' Lr' _ _ _ _ _ _ (by omega) (by omega) (b3.ch cζ (by decide) (by decide)) (b4.ch cζ (by decide)) ((b5 Oε).ch cζ (by decide))
      · rw [e]
        have O4 : OS ζ := by
          obtain ⟨o, o1, o2⟩ := Oε
          exact ⟨o, (q.1 1 (by decide)).trans o1, o2⟩
        have fin : ∀ w : Int32, MI 0 (mSi (mSi (mSi (mSi (mSi (mSi (mSi ζ 3 (ζ.1 100)) 4 w) 16 (δ.1 16)) 15 (δ.1 15)) 17 (δ.1 17)) 18 (δ.1 18)) 0 0) := fun w => by
          obtain ⟨η, eη⟩ : ∃ η, η = mSi (mSi (mSi (mSi (mSi (mSi (mSi ζ 3 (ζ.1 100)) 4 w) 16 (δ.1 16)) 15 (δ.1 15)) 17 (δ.1 17)) 18 (δ.1 18)) 0 0 := ⟨_, rfl⟩
          rw [← eη]
          have cη : mch rdI [] ζ η := by
            rw [eη]
            exact (mch.si (by decide)).tr ((mch.si (by decide)).tr ((mch.si (by decide)).tr ((mch.si (by decide)).tr ((mch.si (by decide)).tr ((mch.si (by decide)).tr (mch.si (by decide)))))))
          refine ⟨⟨c, κ, Lr, Mε.back q cη ?_ ?_ ?_ ?_⟩, O4.ch cη (by decide), by rw [eη]; rfl, by decide⟩
          · rw [cε.int (by decide), eη]; rfl
          · rw [cε.int (by decide), eη]; rfl
          · rw [cε.int (by decide), eη]; rfl
          · rw [cε.int (by decide), eη]; rfl
        show ∃ v' β, (if 0 ≤ ζ.1 101 then _ else _) = _ ∧ _
        by_cases h1 : 0 ≤ ζ.1 101
        · rw [if_pos h1]; exact ⟨_, _, rfl, fin _⟩
        · rw [if_neg h1]; exact ⟨_, _, rfl, fin _⟩
/-- read ends, and keeps what is kept -/
theorem read_m (hN : 400000 < N) (h : MI sz α) : ∃ v β, f_Mod_read N α = some (v, β) ∧ MI 0 β := by
  unfold f_Mod_read
  obtain ⟨⟨c, κ, Lr, h1⟩, h2, h3, h4⟩ := h
  obtain ⟨β, eβ⟩ : ∃ β, β = mSi (mSi (mSi (mSi (mSi α 2 0) 5 0) 9 0) 3 0) 4 0 := ⟨_, rfl⟩
  rw [← eβ]
  have cβ : mch [2, 3, 4, 5, 9] [] α β := by
    rw [eβ]
    exact (mch.si (by decide)).tr ((mch.si (by decide)).tr ((mch.si (by decide)).tr ((mch.si (by decide)).tr (mch.si (by decide)))))
  exact read_49 hN sz N 0 c κ Lr _ _ _ _ _ β (by omega) (by omega) (h1.ch cβ (by decide) (by decide)) ⟨(cβ.int (by decide)).trans h3, h4, by rw [eβ]; rfl, Nat.zero_le _, Or.inl (by rw [eβ]; rfl)⟩ (h2.ch cβ (by decide))
end READM
