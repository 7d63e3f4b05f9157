-- make, once SIZE and DEPTH are known
/-- nothing has changed but the fault -/
def tFl (α β : kS) : Prop := ∃ c p : Int32, β = kSi (kSi α 3 c) 4 p
theorem fail_is (N : Nat) (c : Int32) (α : kS) : ∃ p, f_Meter_fail N c α = some (none, kSi (kSi α 3 c) 4 p) := ⟨_, rfl⟩
/-- a new TERM at the end -/
def tNw (γ β : kS) (k sz dp : Nat) (l r : Int32) : Prop := tOk β ∧ tEx γ β ∧ tn β = tn γ + 1 ∧ sz ≤ 3000 ∧ dp ≤ 200 ∧ tKd β (tn γ) = nI k ∧ tSz β (tn γ) = nI sz ∧ tDp β (tn γ) = nI dp ∧ tLf β (tn γ) = l ∧ tRt β (tn γ) = r
theorem j240_ok {N : Nat} {γ : kS} (y8 y7 y6 y5 y1 y2 y3 : Int32) {Pi : Int32 → kS → Prop} : tI (f_Terms_make_j240 N y8 y7 y6 y5 y1 y2 y3 γ) Pi (tFl γ) := by
  obtain ⟨p, e⟩ := fail_is N 10 γ
  unfold f_Terms_make_j240
  rw [e]
  exact tI.thr ⟨10, p, rfl⟩
theorem j265_ok {N : Nat} {γ : kS} (h : tOk γ) (hlt : tn γ < γ.2.2.1 21) (y8 y7 : Int32) {k sz dp : Nat} (hk : k ≤ 9) (hs : sz ≤ 3000) (hd : dp ≤ 200) (l r : Int32) :
    tI (f_Terms_make_j265 N y8 y7 (nI dp) (nI sz) (nI k) l r γ) (fun v β => v = nI (tn γ) ∧ tNw γ β k sz dp l r ∧ β.2.2.2.1 (tn γ) = tInfo y8 y7 (nI dp) (nI sz) (nI k)) (tFl γ) := by
  obtain ⟨kk, hk2, e⟩ := h.1.pw
  obtain ⟨s, hs2, es⟩ := tSo_in e hk2 (nI k) l r
  obtain ⟨P, hP, eP⟩ := info_is y8 y7 (d := dp) (sz := sz) (k := k) (by omega) (by omega) (by omega)
  have ew : tInfo y8 y7 (nI dp) (nI sz) (nI k) = lN (P * 2 ^ 26 + dp * 2 ^ 17 + sz * 2 ^ 4 + k) := eP
  rw [j265_is h hlt y8 y7 (nI dp) (nI sz) (nI k) l r es hs2, ew]
  obtain ⟨a1, a2, a3, a4, a5, a6⟩ := tApp_ok h hlt (l := l) (r := r) (info_kd hP (d := dp) (sz := sz) (k := k) (by omega) (by omega) (by omega)) es hs2
  refine tI.ret ⟨rfl, ⟨a1, a2, a3, hs, hd, ?_, ?_, ?_, a5, a6⟩, a4⟩
  · unfold tKd; rw [a4]; exact info_kd hP (by omega) (by omega) (by omega)
  · unfold tSz; rw [a4]; exact info_sz hP (by omega) (by omega) (by omega)
  · unfold tDp; rw [a4]; exact info_dp hP (by omega) (by omega) (by omega)
theorem tEx.n {α β γ : kS} (h1 : tEx α β) (h2 : tn β = tn α) {k sz dp : Nat} {l r : Int32} (h : tNw β γ k sz dp l r) : tNw α γ k sz dp l r := by
  obtain ⟨a1, a2, a3, a4⟩ := h
  rw [h2] at a3 a4
  exact ⟨a1, h1.tr a2, a3, a4⟩
theorem j215_ok {N : Nat} {γ : kS} (hN : 524288 < N) (h : tOk γ) (y8 y7 : Int32) {k sz dp : Nat} (hk : k ≤ 9) (hs : sz < 2 ^ 31) (hd : dp < 2 ^ 31) (l r : Int32) :
    tI (f_Terms_make_j215 N y8 y7 (nI dp) (nI sz) (nI k) l r γ) (fun v β => v = nI (tn γ) ∧ tNw γ β k sz dp l r ∧ β.2.2.2.1 (tn γ) = tInfo y8 y7 (nI dp) (nI sz) (nI k)) (tFl γ) := by
  obtain ⟨e6, h5, hrm⟩ := h.1.n
  have h21 := hrm 21 (by decide) (by decide)
  have hsm := h.1.sm (r := 21) (by decide)
  unfold f_Terms_make_j215
  refine tI.ite (fun _ => j240_ok ..) (fun c1 => tI.ite (fun _ => j240_ok ..) (fun c2 => tI.ite (fun c3 => ?_) (fun _ => j240_ok ..)))
  have d1 : sz ≤ 3000 := Nat.not_lt.mp fun q => c1 (nI_lt (a := 3000) q hs)
  have d2 : dp ≤ 200 := Nat.not_lt.mp fun q => c2 (nI_lt (a := 200) q hd)
  have d3 : tn γ < 524288 := by
    rw [e6] at c3
    exact (nI_ltI (a := tn γ) (b := 524288) (by omega) (by omega)).mp c3
  unfold f_Terms_make_j249
  refine tI.ite (fun c4 => ?_) (fun c4 => ?_)
  · rw [e6] at c4
    have d4 : tn γ = γ.2.2.1 21 := (nI_eq (by omega) (by omega)).mp c4
    have hmx : kMx 21 = 524288 := by decide
    have d5 : 2 * γ.2.2.1 21 ≤ kMx 21 := by
      obtain ⟨q, hq, e⟩ := h.1.2.1 21 (by decide)
      have q1 : kK 21 = 11 := by decide
      have q2 : kBase 21 = 256 := by decide
      have q3 : q ≤ 10 := by
        rcases Nat.lt_or_ge q 11 with z | z
        · omega
        · have : q = 11 := by omega
          rw [this, q2] at e
          have : (256 : Nat) * 2 ^ 11 = 524288 := by decide
          omega
      have q4 : 2 ^ q ≤ 2 ^ 10 := Nat.pow_le_pow_right (by decide) q3
      rw [e, q2, hmx]
      have : (2 : Nat) ^ 10 = 1024 := by decide
      omega
    obtain ⟨β, g1, g2, g3, g4, g5⟩ := grow_ok h d5 hN
    rw [g1]
    have d6 : tn β < β.2.2.1 21 := by
      have := h.1.ge (r := 21) (by decide)
      omega
    rcases j265_ok (N := N) g2 d6 y8 y7 hk d1 d2 l r with ⟨v, β2, b1, b2, b3, b4⟩ | ⟨β2, b1, b2⟩
    · exact Or.inl ⟨v, β2, b1, by rw [b2, g4], g3.n g4 b3, by rw [← g4]; exact b4⟩
    · obtain ⟨kk, hk2, e⟩ := g2.1.pw
      obtain ⟨s, hs2, es⟩ := tSo_in e hk2 (nI k) l r
      rw [j265_is g2 d6 y8 y7 (nI dp) (nI sz) (nI k) l r es hs2] at b1
      cases b1
  · have d6 : tn γ < γ.2.2.1 21 := by
      rcases Nat.lt_or_ge (tn γ) (γ.2.2.1 21) with z | z
      · exact z
      · exact absurd (by rw [e6, show tn γ = γ.2.2.1 21 by omega]) c4
    exact j265_ok h d6 y8 y7 hk d1 d2 l r
