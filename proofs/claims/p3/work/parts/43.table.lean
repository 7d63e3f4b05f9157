-- the table: one TERM more; made anew when it grows
/-- the table of the first i TERMS -/
def tPt (β : kS) (i : Nat) : Prop := (∀ s, s < β.2.2.1 25 → β.2.2.2.2 3 s = nI (tLast (tSl β (β.2.2.1 25)) s i)) ∧ ∀ j, j < i → β.2.2.2.2 2 j = nI (tLast (tSl β (β.2.2.1 25)) (tSl β (β.2.2.1 25) j) j)
/-- all but links and heads -/
def tAs (α β : kS) : Prop := β.1 = α.1 ∧ β.2.1 = α.2.1 ∧ β.2.2.1 = α.2.2.1 ∧ β.2.2.2.1 = α.2.2.2.1 ∧ ∀ k, k ≠ 2 → k ≠ 3 → β.2.2.2.2 k = α.2.2.2.2 k
theorem tAs.rf {α : kS} : tAs α α := ⟨rfl, rfl, rfl, rfl, fun _ _ _ => rfl⟩
theorem tAs.tr {α β γ : kS} (h1 : tAs α β) (h2 : tAs β γ) : tAs α γ := ⟨h2.1.trans h1.1, h2.2.1.trans h1.2.1, h2.2.2.1.trans h1.2.2.1, h2.2.2.2.1.trans h1.2.2.2.1, fun k a b => (h2.2.2.2.2 k a b).trans (h1.2.2.2.2 k a b)⟩
theorem tAs.ok {α β : kS} (h : tAs α β) (hO : kOk α) : kOk β := by
  obtain ⟨e1, e2, e3, -, -⟩ := h
  unfold kOk
  rw [e1, e2, e3]
  exact hO
theorem tAs.n {α β : kS} (h : tAs α β) : tn β = tn α := by unfold tn; rw [h.1]
theorem tAs.sl {α β : kS} (h : tAs α β) (cap i : Nat) : tSl β cap i = tSl α cap i := by
  obtain ⟨-, -, -, e4, e5⟩ := h
  unfold tSl tKd tLf tRt
  rw [e4, e5 0 (by decide) (by decide), e5 1 (by decide) (by decide)]
theorem tAs.of (β : kS) (g h : Nat → Int32) : tAs β (kSA (kSA β 2 g) 3 h) := ⟨rfl, rfl, rfl, rfl, fun k h2 h3 => (kup_n h3).trans (kup_n h2)⟩
/-- one TERM more in the table -/
theorem tPt.put {β : kS} {i s : Nat} (h : tPt β i) (hs : tSl β (β.2.2.1 25) i = s) (hr : s < β.2.2.1 25) : tPt (kSA (kSA β 2 (upd (β.2.2.2.2 2) i (β.2.2.2.2 3 s))) 3 (upd (β.2.2.2.2 3) s (nI (i + 1)))) (i + 1) := by
  have hA := tAs.of β (upd (β.2.2.2.2 2) i (β.2.2.2.2 3 s)) (upd (β.2.2.2.2 3) s (nI (i + 1)))
  generalize hγ : kSA (kSA β 2 (upd (β.2.2.2.2 2) i (β.2.2.2.2 3 s))) 3 (upd (β.2.2.2.2 3) s (nI (i + 1))) = γ at hA ⊢
  have e3 : γ.2.2.2.2 3 = upd (β.2.2.2.2 3) s (nI (i + 1)) := by rw [← hγ]; rfl
  have e2 : γ.2.2.2.2 2 = upd (β.2.2.2.2 2) i (β.2.2.2.2 3 s) := by rw [← hγ]; rfl
  have er : γ.2.2.1 25 = β.2.2.1 25 := by rw [hA.2.2.1]
  have ef : tSl γ (β.2.2.1 25) = tSl β (β.2.2.1 25) := funext fun j => hA.sl _ j
  unfold tPt
  rw [er, ef, e3, e2]
  refine ⟨fun s' hs' => ?_, fun j hj => ?_⟩
  · unfold tLast
    by_cases q : s' = s
    · rw [q, pk_us, if_pos hs]
    · rw [pk_un q, if_neg (fun z => q (z.symm.trans hs)), h.1 s' hs']
  · by_cases q : j = i
    · rw [q, pk_us, h.1 s hr, hs]
    · rw [pk_un q]
      exact h.2 j (by omega)
theorem grow_loop {N : Nat} : ∀ (d i : Nat) (β : kS) (n : Nat), i + d = tn β → d < n → kOk β → tPt β i → ∃ γ, f_Terms_grow_65 N n (nI i) β = some (some none, γ) ∧ tAs β γ ∧ tPt γ (tn β) := by
  intro d
  induction d with
  | zero =>
    intro i β n hi hn hO hT
    obtain ⟨n, rfl⟩ : ∃ n', n = n' + 1 := ⟨n - 1, by omega⟩
    obtain ⟨e6, h5, -⟩ := hO.n
    refine ⟨β, ?_, tAs.rf, by rw [← hi]; exact hT⟩
    rw [f_Terms_grow_65, e6, if_pos (nI_le (by omega) (by omega))]
  | succ d ih =>
    intro i β n hi hn hO hT
    obtain ⟨n, rfl⟩ : ∃ n', n = n' + 1 := ⟨n - 1, by omega⟩
    obtain ⟨e6, h5, hrm⟩ := hO.n
    obtain ⟨kk, hk, ek⟩ := hO.pw
    have ec : (nI i).toNatClampNeg = i := nI_clamp (by omega)
    have hng : ∀ j r : Nat, j < r → j < 2 ^ 31 → ¬ (nI j < 0 ∨ r ≤ (nI j).toNatClampNeg) := fun j r hr hj z => z.elim (nI_pos hj) (by rw [nI_clamp hj]; omega)
    have r22 := hrm 22 (by decide) (by decide)
    have r23 := hrm 23 (by decide) (by decide)
    have r24 := hrm 24 (by decide) (by decide)
    have h25 := hO.sm (r := 25) (by decide)
    obtain ⟨s, hs, es⟩ := tSo_in ek hk (tKd β i) (tLf β i) (tRt β i)
    have hsl : tSl β (β.2.2.1 25) i = s := by unfold tSl; rw [es, nI_clamp (by omega)]
    have hkd : f_Terms_kind (nI i) β = tKd β i := kd_in hO (by omega)
    have hslot : f_Terms_slot (f_Terms_kind (nI i) β) (β.2.2.2.2 0 (nI i).toNatClampNeg) (β.2.2.2.2 1 (nI i).toNatClampNeg) β = nI s := by
      rw [slot_is, hkd, ec]
      exact es
    have es2 : (nI s).toNatClampNeg = s := nI_clamp (by omega)
    have h9 : ∀ g, ¬ (nI s < 0 ∨ (kSA β 2 g).2.2.1 25 ≤ (nI s).toNatClampNeg) := fun g => hng s _ (show s < β.2.2.1 25 from hs) (by omega)
    have hstep : f_Terms_grow_65 N (n + 1) (nI i) β = f_Terms_grow_65 N n (nI (i + 1)) (kSA (kSA β 2 (upd (β.2.2.2.2 2) i (β.2.2.2.2 3 s))) 3 (upd (β.2.2.2.2 3) s (nI (i + 1)))) := by
      rw [f_Terms_grow_65, hslot, e6, if_neg (nI_ge (by omega) (by omega)), if_neg (hng i _ (by omega) (by omega)), if_neg (hng i _ (by omega) (by omega)), if_neg (hng s _ hs (by omega)), if_neg (hng i _ (by omega) (by omega)), if_neg (h9 _), ec, es2, nI_1]
      rfl
    have hT2 := hT.put hsl hs
    have hA := tAs.of β (upd (β.2.2.2.2 2) i (β.2.2.2.2 3 s)) (upd (β.2.2.2.2 3) s (nI (i + 1)))
    rw [hstep]
    obtain ⟨γ, g1, g2, g3⟩ := ih (i + 1) _ n (by rw [hA.n]; omega) (by omega) (hA.ok hO) hT2
    exact ⟨γ, g1, hA.tr g2, by rw [hA.n] at g3; exact g3⟩
